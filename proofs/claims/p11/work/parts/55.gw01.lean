theorem w_F_X2_addTo (a0 : Nat) (p0 : Int32) (p1 : Int32) : z_Gw 0 0 (F_X2_addTo a0 p0 p1) :=
  gz_bd gw_rd (fun b2 => gz_bd (w_F_X2_enter b2 p0) (fun x1 => gw_if (w_F_X2_addTo_20 a0) (gz_bd gw_rd (fun r4 => gz_bd gw_rd (fun x5 => gz_bd gw_wr (fun _ => w_F_X2_addTo_20 a0))))))
theorem w_F_X0_count (a0 : Nat) (p0 : Int32) : z_Gw 0 0 (F_X0_count a0 p0) :=
  gz_bd gw_rd (fun r1 => gz_bd gw_rd (fun x2 => gw_ret))
theorem w_F_X5_labelOf (p0 : Int32) : z_Gw 0 0 (F_X5_labelOf p0) :=
  gw_ret
theorem w_F_X6_addConcerned_32 (a0 : Nat) : z_Gw 0 0 (F_X6_addConcerned_32 a0) :=
  gw_ret
theorem w_F_X6_addConcerned (a0 : Nat) (p0 : Int32) : z_Gw 0 0 (F_X6_addConcerned a0 p0) :=
  gz_bd gw_rd (fun x1 => gz_bd gw_rd (fun r2 => gz_bd gw_rd (fun n3 => gw_if (w_F_X6_addConcerned_32 a0) (gz_bd gw_rd (fun r5 => gz_bd gw_rd (fun x6 => gz_bd gw_wr (fun _ => gz_bd gw_rd (fun x7 => gz_bd gw_wr (fun _ => w_F_X6_addConcerned_32 a0)))))))))
theorem w_F_X5_otherOf (p0 : Int32) : z_Gw 0 0 (F_X5_otherOf p0) :=
  gw_ret
theorem w_F_X7_takes_43 (a0 : Nat) (s_0 : Int32) : z_Gw 0 0 (F_X7_takes_43 a0 s_0) :=
  gw_rb
theorem w_F_X7_takes_42 (a0 : Nat) : z_Gw 0 0 (F_X7_takes_42 a0) :=
  w_F_X7_takes_43 a0 0
theorem w_F_X7_takes_38 (a0 : Nat) : z_Gw 0 0 (F_X7_takes_38 a0) :=
  w_F_X7_takes_43 a0 1
theorem w_F_X7_takes (a0 : Nat) (p0 : Int32) (p1 : Int32) (p2 : Int32) (q3 : Option Nat) : z_Gw 0 0 (F_X7_takes a0 p0 p1 p2 q3) :=
  gz_bd gw_rd (fun x1 => gw_if (gz_bd gw_rd (fun x3 => gw_if (gz_bd gw_rd (fun x5 => gw_if (w_F_X7_takes_38 a0) (gz_bd gw_rd (fun x7 => gz_bd gw_rd (fun x8 => gw_if (w_F_X7_takes_42 a0) (w_F_X7_takes_38 a0)))))) (w_F_X7_takes_42 a0))) (w_F_X7_takes_42 a0))
theorem w_F_X6_takers_42 (ih6 : Option Nat → Int32 → Int32 → Option Nat → Int32 → Int32 → zMn Int32) (h_ih6 : ∀ (y0 : Option Nat) (y1 : Int32) (y2 : Int32) (y3 : Option Nat) (y4 : Int32) (y5 : Int32), z_Gw 0 0 (ih6 y0 y1 y2 y3 y4 y5)) (r_0 : Option Nat) (x_1 : Int32) (x_2 : Int32) (r_3 : Option Nat) (x_4 : Int32) (x_5 : Int32) : z_Gw 0 0 (F_X6_takers_42 ih6 r_0 x_1 x_2 r_3 x_4 x_5) :=
  h_ih6 r_0 x_1 x_2 r_3 x_4 (x_5 + 1)
theorem w_B_X6_takers_6 (ih6 : Option Nat → Int32 → Int32 → Option Nat → Int32 → Int32 → zMn Int32) (h_ih6 : ∀ (y0 : Option Nat) (y1 : Int32) (y2 : Int32) (y3 : Option Nat) (y4 : Int32) (y5 : Int32), z_Gw 0 0 (ih6 y0 y1 y2 y3 y4 y5)) (r_0 : Option Nat) (x_1 : Int32) (x_2 : Int32) (r_3 : Option Nat) (x_4 : Int32) (x_5 : Int32) : z_Gw 0 0 (B_X6_takers_6 ih6 r_0 x_1 x_2 r_3 x_4 x_5) :=
  gz_bd gw_rd (fun n1 => gw_if (gw_ret) (gz_bd gw_rd (fun r3 => gz_bd (w_F_X5_labelOf x_2) (fun x4 => gz_bd (w_F_X5_otherOf x_2) (fun x5 => gz_bd gw_rd (fun b7 => gz_bd (w_F_X7_takes b7 x_1 x4 x5 r_3) (fun x6 => gw_if (w_F_X6_takers_42 ih6 h_ih6 r_0 x_1 x_2 r_3 x_4 x_5) (gz_bd gw_ret (fun x9 => w_F_X6_takers_42 ih6 h_ih6 r_0 x_1 x_2 r_3 x9 x_5)))))))))
theorem w_F_X6_takers_6  : ∀ (n : Nat) (s : (Option Nat) × Int32 × Int32 × (Option Nat) × Int32 × Int32), z_Gw 0 0 (F_X6_takers_6 n s) :=
  gw_fix (fun ih hih s => w_B_X6_takers_6  (fun y0 y1 y2 y3 y4 y5 => ih (y0, y1, y2, y3, y4, y5)) (fun y0 y1 y2 y3 y4 y5 => hih (y0, y1, y2, y3, y4, y5)) s.1 s.2.1 s.2.2.1 s.2.2.2.1 s.2.2.2.2.1 s.2.2.2.2.2)
theorem w_F_X6_takers (q0 : Option Nat) (p1 : Int32) (p2 : Int32) (q3 : Option Nat) : z_Gw 0 0 (F_X6_takers q0 p1 p2 q3) :=
  w_F_X6_takers_6 z_N (q0, p1, p2, q3, 0, 0)
theorem w_F_X6_gather_187 (a0 : Nat) (ih124 : Int32 → Option Nat → Option Nat → Int32 → zMn Unit) (h_ih124 : ∀ (y0 : Int32) (y1 : Option Nat) (y2 : Option Nat) (y3 : Int32), z_Gw 0 0 (ih124 y0 y1 y2 y3)) (x_1 : Int32) (r_3 : Option Nat) (r_4 : Option Nat) (x_5 : Int32) : z_Gw 0 0 (F_X6_gather_187 a0 ih124 x_1 r_3 r_4 x_5) :=
  h_ih124 x_1 r_3 r_4 (x_5 + 1)
theorem w_B_X6_gather_124 (a0 : Nat) (ih124 : Int32 → Option Nat → Option Nat → Int32 → zMn Unit) (h_ih124 : ∀ (y0 : Int32) (y1 : Option Nat) (y2 : Option Nat) (y3 : Int32), z_Gw 0 0 (ih124 y0 y1 y2 y3)) (x_1 : Int32) (r_3 : Option Nat) (r_4 : Option Nat) (x_5 : Int32) : z_Gw 0 0 (B_X6_gather_124 a0 ih124 x_1 r_3 r_4 x_5) :=
  gz_bd gw_rd (fun r23 => gz_bd gw_rd (fun r24 => gz_bd gw_rd (fun b26 => gz_bd (w_F_X0_count b26 x_1) (fun x25 => gw_if (gw_ret) (gz_bd gw_rd (fun r28 => gz_bd gw_rd (fun r29 => gz_bd gw_rd (fun b31 => gz_bd (w_F_X0_key b31 x_1 x_5) (fun x30 => gz_bd gw_rd (fun x32 => gz_bd (w_F_X5_labelOf x30) (fun x33 => gw_if (w_F_X6_gather_187 a0 ih124 h_ih124 x_1 r_3 r_4 x_5) (gz_bd gw_rd (fun r35 => gz_bd (w_F_X6_takers r35 0 x30 r_3) (fun x36 => gz_bd gw_rd (fun b37 => gz_bd (w_F_X6_addConcerned b37 x36) (fun _ => w_F_X6_gather_187 a0 ih124 h_ih124 x_1 r_3 r_4 x_5))))))))))))))))
theorem w_F_X6_gather_124 (a0 : Nat) : ∀ (n : Nat) (s : Int32 × (Option Nat) × (Option Nat) × Int32), z_Gw 0 0 (F_X6_gather_124 a0 n s) :=
  gw_fix (fun ih hih s => w_B_X6_gather_124 a0 (fun y0 y1 y2 y3 => ih (y0, y1, y2, y3)) (fun y0 y1 y2 y3 => hih (y0, y1, y2, y3)) s.1 s.2.1 s.2.2.1 s.2.2.2)
theorem w_F_X6_gather_115 (a0 : Nat) (ih20 : Int32 → Option Nat → Option Nat → Option Nat → Int32 → zMn Unit) (h_ih20 : ∀ (y0 : Int32) (y1 : Option Nat) (y2 : Option Nat) (y3 : Option Nat) (y4 : Int32), z_Gw 0 0 (ih20 y0 y1 y2 y3 y4)) (x_1 : Int32) (r_2 : Option Nat) (r_3 : Option Nat) (r_4 : Option Nat) (x_5 : Int32) : z_Gw 0 0 (F_X6_gather_115 a0 ih20 x_1 r_2 r_3 r_4 x_5) :=
  h_ih20 x_1 r_2 r_3 r_4 (x_5 + 1)
theorem w_F_X6_gather_94 (a0 : Nat) (ih20 : Int32 → Option Nat → Option Nat → Option Nat → Int32 → zMn Unit) (h_ih20 : ∀ (y0 : Int32) (y1 : Option Nat) (y2 : Option Nat) (y3 : Option Nat) (y4 : Int32), z_Gw 0 0 (ih20 y0 y1 y2 y3 y4)) (x_1 : Int32) (r_2 : Option Nat) (r_3 : Option Nat) (r_4 : Option Nat) (x_5 : Int32) (x_6 : Int32) (s_0 : Int32) : z_Gw 0 0 (F_X6_gather_94 a0 ih20 x_1 r_2 r_3 r_4 x_5 x_6 s_0) :=
  gz_bd gw_rd (fun r20 => gz_bd (w_F_X6_takers r20 1 x_6 r_3) (fun x21 => gz_bd gw_rd (fun b22 => gz_bd (w_F_X6_addConcerned b22 (s_0 ||| x21)) (fun _ => w_F_X6_gather_115 a0 ih20 h_ih20 x_1 r_2 r_3 r_4 x_5))))
theorem w_F_X6_gather_78 (a0 : Nat) (ih20 : Int32 → Option Nat → Option Nat → Option Nat → Int32 → zMn Unit) (h_ih20 : ∀ (y0 : Int32) (y1 : Option Nat) (y2 : Option Nat) (y3 : Option Nat) (y4 : Int32), z_Gw 0 0 (ih20 y0 y1 y2 y3 y4)) (x_1 : Int32) (r_2 : Option Nat) (r_3 : Option Nat) (r_4 : Option Nat) (x_5 : Int32) (x_6 : Int32) (x_7 : Int32) : z_Gw 0 0 (F_X6_gather_78 a0 ih20 x_1 r_2 r_3 r_4 x_5 x_6 x_7) :=
  gz_bd gw_rd (fun x18 => gw_if (w_F_X6_gather_94 a0 ih20 h_ih20 x_1 r_2 r_3 r_4 x_5 x_6 0) (w_F_X6_gather_94 a0 ih20 h_ih20 x_1 r_2 r_3 r_4 x_5 x_6 32))
theorem w_B_X6_gather_20 (a0 : Nat) (ih20 : Int32 → Option Nat → Option Nat → Option Nat → Int32 → zMn Unit) (h_ih20 : ∀ (y0 : Int32) (y1 : Option Nat) (y2 : Option Nat) (y3 : Option Nat) (y4 : Int32), z_Gw 0 0 (ih20 y0 y1 y2 y3 y4)) (x_1 : Int32) (r_2 : Option Nat) (r_3 : Option Nat) (r_4 : Option Nat) (x_5 : Int32) : z_Gw 0 0 (B_X6_gather_20 a0 ih20 x_1 r_2 r_3 r_4 x_5) :=
  gz_bd gw_rd (fun r3 => gz_bd gw_rd (fun r4 => gz_bd gw_rd (fun b6 => gz_bd (w_F_X0_count b6 x_1) (fun x5 => gw_if (w_F_X6_gather_124 a0 z_N (x_1, r_3, r_4, 0)) (gz_bd gw_rd (fun r8 => gz_bd gw_rd (fun r9 => gz_bd gw_rd (fun b11 => gz_bd (w_F_X0_key b11 x_1 x_5) (fun x10 => gz_bd (w_F_X5_labelOf x10) (fun x12 => gz_bd gw_ret (fun x13 => gz_bd gw_rd (fun x14 => gw_if (gz_bd gw_rd (fun x16 => gw_if (w_F_X6_gather_115 a0 ih20 h_ih20 x_1 r_2 r_3 r_4 x_5) (w_F_X6_gather_78 a0 ih20 h_ih20 x_1 r_2 r_3 r_4 x_5 x10 x13))) (w_F_X6_gather_78 a0 ih20 h_ih20 x_1 r_2 r_3 r_4 x_5 x10 x13)))))))))))))
theorem w_F_X6_gather_20 (a0 : Nat) : ∀ (n : Nat) (s : Int32 × (Option Nat) × (Option Nat) × (Option Nat) × Int32), z_Gw 0 0 (F_X6_gather_20 a0 n s) :=
  gw_fix (fun ih hih s => w_B_X6_gather_20 a0 (fun y0 y1 y2 y3 y4 => ih (y0, y1, y2, y3, y4)) (fun y0 y1 y2 y3 y4 => hih (y0, y1, y2, y3, y4)) s.1 s.2.1 s.2.2.1 s.2.2.2.1 s.2.2.2.2)
theorem w_F_X6_gather (a0 : Nat) (p0 : Int32) (q1 : Option Nat) (q2 : Option Nat) : z_Gw 0 0 (F_X6_gather a0 p0 q1 q2) :=
  gz_bd gw_wr (fun _ => gz_bd gw_rd (fun r1 => gw_if (gw_ret) (w_F_X6_gather_20 a0 z_N (p0, q1, q2, r1, 0))))
theorem w_F_X6_giveArc_94 (a0 : Nat) (ih8 : Int32 → Option Nat → Option Nat → Option Nat → Int32 → zMn Unit) (h_ih8 : ∀ (y0 : Int32) (y1 : Option Nat) (y2 : Option Nat) (y3 : Option Nat) (y4 : Int32), z_Gw 0 0 (ih8 y0 y1 y2 y3 y4)) (ih46 : Int32 → Option Nat → Option Nat → Option Nat → Int32 → Int32 → zMn Unit) (h_ih46 : ∀ (y0 : Int32) (y1 : Option Nat) (y2 : Option Nat) (y3 : Option Nat) (y4 : Int32) (y5 : Int32), z_Gw 0 0 (ih46 y0 y1 y2 y3 y4 y5)) (x_1 : Int32) (r_2 : Option Nat) (r_3 : Option Nat) (r_4 : Option Nat) (x_5 : Int32) (x_6 : Int32) : z_Gw 0 0 (F_X6_giveArc_94 a0 ih8 ih46 x_1 r_2 r_3 r_4 x_5 x_6) :=
  h_ih46 x_1 r_2 r_3 r_4 x_5 (x_6 + 1)
theorem w_B_X6_giveArc_46 (a0 : Nat) (ih8 : Int32 → Option Nat → Option Nat → Option Nat → Int32 → zMn Unit) (h_ih8 : ∀ (y0 : Int32) (y1 : Option Nat) (y2 : Option Nat) (y3 : Option Nat) (y4 : Int32), z_Gw 0 0 (ih8 y0 y1 y2 y3 y4)) (ih46 : Int32 → Option Nat → Option Nat → Option Nat → Int32 → Int32 → zMn Unit) (h_ih46 : ∀ (y0 : Int32) (y1 : Option Nat) (y2 : Option Nat) (y3 : Option Nat) (y4 : Int32) (y5 : Int32), z_Gw 0 0 (ih46 y0 y1 y2 y3 y4 y5)) (x_1 : Int32) (r_2 : Option Nat) (r_3 : Option Nat) (r_4 : Option Nat) (x_5 : Int32) (x_6 : Int32) : z_Gw 0 0 (B_X6_giveArc_46 a0 ih8 ih46 x_1 r_2 r_3 r_4 x_5 x_6) :=
  gz_bd gw_rd (fun n10 => gw_if (h_ih8 x_1 r_2 r_3 r_4 (x_5 + 1)) (gw_if (w_F_X6_giveArc_94 a0 ih8 h_ih8 ih46 h_ih46 x_1 r_2 r_3 r_4 x_5 x_6) (gz_bd gw_rd (fun r13 => gz_bd gw_rd (fun x14 => gz_bd gw_rd (fun r15 => gz_bd gw_rd (fun x16 => gz_bd (w_F_X1_ofOne x_6 x16) (fun x17 => gz_bd gw_rd (fun r18 => gz_bd gw_rd (fun x19 => gz_bd gw_rd (fun b20 => gz_bd (w_F_X2_addTo b20 (x14 + x17) x19) (fun _ => w_F_X6_giveArc_94 a0 ih8 h_ih8 ih46 h_ih46 x_1 r_2 r_3 r_4 x_5 x_6))))))))))))
theorem w_F_X6_giveArc_46 (a0 : Nat) (ih8 : Int32 → Option Nat → Option Nat → Option Nat → Int32 → zMn Unit) (h_ih8 : ∀ (y0 : Int32) (y1 : Option Nat) (y2 : Option Nat) (y3 : Option Nat) (y4 : Int32), z_Gw 0 0 (ih8 y0 y1 y2 y3 y4)) : ∀ (n : Nat) (s : Int32 × (Option Nat) × (Option Nat) × (Option Nat) × Int32 × Int32), z_Gw 0 0 (F_X6_giveArc_46 a0 ih8 n s) :=
  gw_fix (fun ih hih s => w_B_X6_giveArc_46 a0 ih8 h_ih8 (fun y0 y1 y2 y3 y4 y5 => ih (y0, y1, y2, y3, y4, y5)) (fun y0 y1 y2 y3 y4 y5 => hih (y0, y1, y2, y3, y4, y5)) s.1 s.2.1 s.2.2.1 s.2.2.2.1 s.2.2.2.2.1 s.2.2.2.2.2)
theorem w_F_X6_giveArc_43 (a0 : Nat) (ih8 : Int32 → Option Nat → Option Nat → Option Nat → Int32 → zMn Unit) (h_ih8 : ∀ (y0 : Int32) (y1 : Option Nat) (y2 : Option Nat) (y3 : Option Nat) (y4 : Int32), z_Gw 0 0 (ih8 y0 y1 y2 y3 y4)) (x_1 : Int32) (r_2 : Option Nat) (r_3 : Option Nat) (r_4 : Option Nat) (x_5 : Int32) : z_Gw 0 0 (F_X6_giveArc_43 a0 ih8 x_1 r_2 r_3 r_4 x_5) :=
  w_F_X6_giveArc_46 a0 ih8 h_ih8 z_N (x_1, r_2, r_3, r_4, x_5, 0)
theorem w_B_X6_giveArc_8 (a0 : Nat) (ih8 : Int32 → Option Nat → Option Nat → Option Nat → Int32 → zMn Unit) (h_ih8 : ∀ (y0 : Int32) (y1 : Option Nat) (y2 : Option Nat) (y3 : Option Nat) (y4 : Int32), z_Gw 0 0 (ih8 y0 y1 y2 y3 y4)) (x_1 : Int32) (r_2 : Option Nat) (r_3 : Option Nat) (r_4 : Option Nat) (x_5 : Int32) : z_Gw 0 0 (B_X6_giveArc_8 a0 ih8 x_1 r_2 r_3 r_4 x_5) :=
  gz_bd gw_rd (fun x2 => gw_if (gw_ret) (gw_if (w_F_X6_giveArc_43 a0 ih8 h_ih8 x_1 r_2 r_3 r_4 x_5) (gz_bd gw_rd (fun r5 => gz_bd gw_rd (fun x6 => gz_bd gw_rd (fun r7 => gz_bd gw_rd (fun x8 => gz_bd gw_rd (fun b9 => gz_bd (w_F_X2_addTo b9 x6 x8) (fun _ => w_F_X6_giveArc_43 a0 ih8 h_ih8 x_1 r_2 r_3 r_4 x_5)))))))))
theorem w_F_X6_giveArc_8 (a0 : Nat) : ∀ (n : Nat) (s : Int32 × (Option Nat) × (Option Nat) × (Option Nat) × Int32), z_Gw 0 0 (F_X6_giveArc_8 a0 n s) :=
  gw_fix (fun ih hih s => w_B_X6_giveArc_8 a0 (fun y0 y1 y2 y3 y4 => ih (y0, y1, y2, y3, y4)) (fun y0 y1 y2 y3 y4 => hih (y0, y1, y2, y3, y4)) s.1 s.2.1 s.2.2.1 s.2.2.2.1 s.2.2.2.2)
theorem w_F_X6_giveArc (a0 : Nat) (p0 : Int32) (q1 : Option Nat) (q2 : Option Nat) (q3 : Option Nat) : z_Gw 0 0 (F_X6_giveArc a0 p0 q1 q2 q3) :=
  gz_bd gw_rd (fun b1 => gz_bd (w_F_X2_clear b1) (fun _ => w_F_X6_giveArc_8 a0 z_N (p0, q1, q2, q3, 0)))
theorem w_F_X6_sumAllowed_39 (ih4 : Option Nat → Option Nat → Int32 → Int32 → zMn Int32) (h_ih4 : ∀ (y0 : Option Nat) (y1 : Option Nat) (y2 : Int32) (y3 : Int32), z_Gw 0 0 (ih4 y0 y1 y2 y3)) (r_0 : Option Nat) (r_1 : Option Nat) (x_2 : Int32) (x_3 : Int32) : z_Gw 0 0 (F_X6_sumAllowed_39 ih4 r_0 r_1 x_2 x_3) :=
  h_ih4 r_0 r_1 x_2 (x_3 + 1)
theorem w_B_X6_sumAllowed_4 (ih4 : Option Nat → Option Nat → Int32 → Int32 → zMn Int32) (h_ih4 : ∀ (y0 : Option Nat) (y1 : Option Nat) (y2 : Int32) (y3 : Int32), z_Gw 0 0 (ih4 y0 y1 y2 y3)) (r_0 : Option Nat) (r_1 : Option Nat) (x_2 : Int32) (x_3 : Int32) : z_Gw 0 0 (B_X6_sumAllowed_4 ih4 r_0 r_1 x_2 x_3) :=
  gz_bd gw_rd (fun n1 => gw_if (gw_ret) (gz_bd gw_rd (fun x3 => gz_bd gw_rd (fun b5 => gz_bd (w_F_X2_spotOf b5 x3) (fun x4 => gw_if (w_F_X6_sumAllowed_39 ih4 h_ih4 r_0 r_1 x_2 x_3) (gz_bd gw_rd (fun r7 => gz_bd gw_rd (fun x8 => gz_bd gw_ret (fun x9 => w_F_X6_sumAllowed_39 ih4 h_ih4 r_0 r_1 x9 x_3)))))))))
theorem w_F_X6_sumAllowed_4  : ∀ (n : Nat) (s : (Option Nat) × (Option Nat) × Int32 × Int32), z_Gw 0 0 (F_X6_sumAllowed_4 n s) :=
  gw_fix (fun ih hih s => w_B_X6_sumAllowed_4  (fun y0 y1 y2 y3 => ih (y0, y1, y2, y3)) (fun y0 y1 y2 y3 => hih (y0, y1, y2, y3)) s.1 s.2.1 s.2.2.1 s.2.2.2)
theorem w_F_X6_sumAllowed (q0 : Option Nat) (q1 : Option Nat) : z_Gw 0 0 (F_X6_sumAllowed q0 q1) :=
  w_F_X6_sumAllowed_4 z_N (q0, q1, 0, 0)
theorem w_F_X6_countWays_102 (a0 : Nat) (r_4 : Option Nat) (r_5 : Option Nat) : z_Gw 0 0 (F_X6_countWays_102 a0 r_4 r_5) :=
  gz_bd gw_rd (fun r16 => gz_bd (w_F_X6_sumAllowed r16 r_5) (fun x17 => gw_ret))
theorem w_B_X6_countWays_47 (a0 : Nat) (ih47 : Option Nat → Option Nat → Option Nat → Int32 → zMn Int32) (h_ih47 : ∀ (y0 : Option Nat) (y1 : Option Nat) (y2 : Option Nat) (y3 : Int32), z_Gw 0 0 (ih47 y0 y1 y2 y3)) (r_4 : Option Nat) (r_5 : Option Nat) (r_6 : Option Nat) (x_7 : Int32) : z_Gw 0 0 (B_X6_countWays_47 a0 ih47 r_4 r_5 r_6 x_7) :=
  gz_bd gw_rd (fun x8 => gw_if (w_F_X6_countWays_102 a0 r_4 r_5) (gz_bd gw_rd (fun x10 => gw_if (w_F_X6_countWays_102 a0 r_4 r_5) (gz_bd gw_rd (fun r12 => gz_bd gw_rd (fun x13 => gz_bd gw_rd (fun r14 => gz_bd gw_rd (fun b15 => gz_bd (w_F_X6_giveArc b15 x13 r14 r_5 r_6) (fun _ => h_ih47 r_4 r_6 r_5 (x_7 + 1))))))))))
theorem w_F_X6_countWays_47 (a0 : Nat) : ∀ (n : Nat) (s : (Option Nat) × (Option Nat) × (Option Nat) × Int32), z_Gw 0 0 (F_X6_countWays_47 a0 n s) :=
  gw_fix (fun ih hih s => w_B_X6_countWays_47 a0 (fun y0 y1 y2 y3 => ih (y0, y1, y2, y3)) (fun y0 y1 y2 y3 => hih (y0, y1, y2, y3)) s.1 s.2.1 s.2.2.1 s.2.2.2)
theorem w_F_X6_countWays (a0 : Nat) (p0 : Int32) (q1 : Option Nat) (q2 : Option Nat) : z_Gw 0 0 (F_X6_countWays a0 p0 q1 q2) :=
  gz_bd gw_rd (fun r1 => gw_if (gw_ret) (gz_bd gw_rd (fun b3 => gz_bd (w_F_X6_gather b3 p0 q1 q2) (fun _ => gz_bd gw_rd (fun r4 => gz_bd gw_rd (fun r5 => gz_bd gw_rd (fun b6 => gz_bd (w_F_X2_clear b6) (fun _ => gz_bd gw_rd (fun b7 => gz_bd (w_F_X2_addTo b7 0 1) (fun _ => w_F_X6_countWays_47 a0 z_N (r1, r4, r5, 0)))))))))))
theorem w_F_X6_matching_44 (a0 : Nat) (ih6 : Int32 → Option Nat → Option Nat → Int32 → Int32 → zMn Int32) (h_ih6 : ∀ (y0 : Int32) (y1 : Option Nat) (y2 : Option Nat) (y3 : Int32) (y4 : Int32), z_Gw 0 0 (ih6 y0 y1 y2 y3 y4)) (x_1 : Int32) (r_2 : Option Nat) (r_3 : Option Nat) (x_4 : Int32) (x_5 : Int32) : z_Gw 0 0 (F_X6_matching_44 a0 ih6 x_1 r_2 r_3 x_4 x_5) :=
  h_ih6 x_1 r_2 r_3 x_4 (x_5 + 1)
theorem w_B_X6_matching_6 (a0 : Nat) (ih6 : Int32 → Option Nat → Option Nat → Int32 → Int32 → zMn Int32) (h_ih6 : ∀ (y0 : Int32) (y1 : Option Nat) (y2 : Option Nat) (y3 : Int32) (y4 : Int32), z_Gw 0 0 (ih6 y0 y1 y2 y3 y4)) (x_1 : Int32) (r_2 : Option Nat) (r_3 : Option Nat) (x_4 : Int32) (x_5 : Int32) : z_Gw 0 0 (B_X6_matching_6 a0 ih6 x_1 r_2 r_3 x_4 x_5) :=
  gw_if (gw_ret) (gz_bd gw_ret (fun x2 => gw_if (w_F_X6_matching_44 a0 ih6 h_ih6 x_1 r_2 r_3 x_4 x_5) (gz_bd gw_rd (fun b5 => gz_bd (w_F_X6_countWays b5 x_5 r_2 r_3) (fun x4 => gw_if (w_F_X6_matching_44 a0 ih6 h_ih6 x_1 r_2 r_3 x_4 x_5) (gz_bd gw_ret (fun x7 => w_F_X6_matching_44 a0 ih6 h_ih6 x_1 r_2 r_3 x7 x_5)))))))
theorem w_F_X6_matching_6 (a0 : Nat) : ∀ (n : Nat) (s : Int32 × (Option Nat) × (Option Nat) × Int32 × Int32), z_Gw 0 0 (F_X6_matching_6 a0 n s) :=
  gw_fix (fun ih hih s => w_B_X6_matching_6 a0 (fun y0 y1 y2 y3 y4 => ih (y0, y1, y2, y3, y4)) (fun y0 y1 y2 y3 y4 => hih (y0, y1, y2, y3, y4)) s.1 s.2.1 s.2.2.1 s.2.2.2.1 s.2.2.2.2)
theorem w_F_X6_matching (a0 : Nat) (p0 : Int32) (q1 : Option Nat) (q2 : Option Nat) : z_Gw 0 0 (F_X6_matching a0 p0 q1 q2) :=
  w_F_X6_matching_6 a0 z_N (p0, q1, q2, 0, 0)
theorem w_F_X9_combined (a0 : Nat) (q0 : Option Nat) : z_Gw 0 0 (F_X9_combined a0 q0) :=
  gz_bd gw_rd (fun x1 => gw_if (gz_bd gw_rd (fun r3 => gz_bd gw_rd (fun x4 => gz_bd gw_rd (fun x5 => gz_bd gw_rd (fun r6 => gz_bd gw_rd (fun x7 => gz_bd gw_rd (fun x8 => gw_ret))))))) (gw_if (gz_bd gw_rd (fun r10 => gz_bd gw_rd (fun x11 => gz_bd gw_rd (fun x12 => gz_bd gw_rd (fun r13 => gz_bd gw_rd (fun x14 => gz_bd gw_rd (fun x15 => gw_ret))))))) (gw_if (gz_bd gw_rd (fun r17 => gz_bd gw_rd (fun x18 => gz_bd gw_rd (fun x19 => gw_ret)))) (gw_if (gz_bd gw_rd (fun x21 => gw_ret)) (gw_ret)))))
theorem w_F_X9_thoseThatReferTo_34 (a0 : Nat) (ih4 : Int32 → Int32 → Int32 → zMn Int32) (h_ih4 : ∀ (y0 : Int32) (y1 : Int32) (y2 : Int32), z_Gw 0 0 (ih4 y0 y1 y2)) (x_1 : Int32) (x_3 : Int32) (s_0 : Int32) (s_1 : Int32) : z_Gw 0 0 (F_X9_thoseThatReferTo_34 a0 ih4 x_1 x_3 s_0 s_1) :=
  gz_bd gw_ret (fun x6 => h_ih4 x_1 x6 (x_3 + 1))
theorem w_B_X9_thoseThatReferTo_4 (a0 : Nat) (ih4 : Int32 → Int32 → Int32 → zMn Int32) (h_ih4 : ∀ (y0 : Int32) (y1 : Int32) (y2 : Int32), z_Gw 0 0 (ih4 y0 y1 y2)) (x_1 : Int32) (x_2 : Int32) (x_3 : Int32) : z_Gw 0 0 (B_X9_thoseThatReferTo_4 a0 ih4 x_1 x_2 x_3) :=
  gw_if (gw_ret) (gz_bd gw_rd (fun r2 => gz_bd gw_rd (fun r3 => gz_bd gw_rd (fun x4 => gw_if (w_F_X9_thoseThatReferTo_34 a0 ih4 h_ih4 x_1 x_3 x_2 0) (w_F_X9_thoseThatReferTo_34 a0 ih4 h_ih4 x_1 x_3 x_2 ((1 : Int32) <<< (x_3 &&& 31)))))))
theorem w_F_X9_thoseThatReferTo_4 (a0 : Nat) : ∀ (n : Nat) (s : Int32 × Int32 × Int32), z_Gw 0 0 (F_X9_thoseThatReferTo_4 a0 n s) :=
  gw_fix (fun ih hih s => w_B_X9_thoseThatReferTo_4 a0 (fun y0 y1 y2 => ih (y0, y1, y2)) (fun y0 y1 y2 => hih (y0, y1, y2)) s.1 s.2.1 s.2.2)
theorem w_F_X9_thoseThatReferTo (a0 : Nat) (p0 : Int32) : z_Gw 0 0 (F_X9_thoseThatReferTo a0 p0) :=
  w_F_X9_thoseThatReferTo_4 a0 z_N (p0, 0, 0)
theorem w_F_X9_settleGroup_146 (a0 : Nat) : z_Gw 0 0 (F_X9_settleGroup_146 a0) :=
  gw_ret
theorem w_F_X9_settleGroup_140 (a0 : Nat) (ih34 : Int32 → Int32 → Int32 → zMn Unit) (h_ih34 : ∀ (y0 : Int32) (y1 : Int32) (y2 : Int32), z_Gw 0 0 (ih34 y0 y1 y2)) (x_1 : Int32) (x_2 : Int32) (x_3 : Int32) : z_Gw 0 0 (F_X9_settleGroup_140 a0 ih34 x_1 x_2 x_3) :=
  h_ih34 x_1 x_2 (x_3 + 1)
theorem w_F_X9_settleGroup_115 (a0 : Nat) (ih34 : Int32 → Int32 → Int32 → zMn Unit) (h_ih34 : ∀ (y0 : Int32) (y1 : Int32) (y2 : Int32), z_Gw 0 0 (ih34 y0 y1 y2)) (x_1 : Int32) (x_2 : Int32) (x_3 : Int32) (x_4 : Int32) (x_6 : Int32) (t_0 : Option Nat) (s_1 : Int32) (s_2 : Int32) (s_3 : Int32) : z_Gw 0 0 (F_X9_settleGroup_115 a0 ih34 x_1 x_2 x_3 x_4 x_6 t_0 s_1 s_2 s_3) :=
  gz_bd gw_wr (fun _ => gz_bd gw_rd (fun r22 => gz_bd gw_rd (fun x23 => gw_if (w_F_X9_settleGroup_140 a0 ih34 h_ih34 x_1 x_2 x_3) (gz_bd gw_rd (fun b26 => gz_bd (w_F_X9_thoseThatReferTo b26 x_4) (fun x25 => gz_bd gw_ret (fun x27 => w_F_X9_settleGroup_140 a0 ih34 h_ih34 x_1 x27 x_3)))))))
theorem w_B_X9_settleGroup_34 (a0 : Nat) (ih34 : Int32 → Int32 → Int32 → zMn Unit) (h_ih34 : ∀ (y0 : Int32) (y1 : Int32) (y2 : Int32), z_Gw 0 0 (ih34 y0 y1 y2)) (x_1 : Int32) (x_2 : Int32) (x_3 : Int32) : z_Gw 0 0 (B_X9_settleGroup_34 a0 ih34 x_1 x_2 x_3) :=
  gw_if (w_F_X9_settleGroup_146 a0) (gw_if (w_F_X9_settleGroup_146 a0) (gz_bd (w_F_J6_numberOfTrailingZeros_0f7a4 x_2) (fun x6 => gz_bd gw_ret (fun x7 => gz_bd gw_rd (fun r8 => gz_bd gw_rd (fun r9 => gz_bd gw_rd (fun r10 => gz_bd gw_rd (fun x11 => gz_bd gw_rd (fun r12 => gz_bd gw_rd (fun x13 => gz_bd gw_rd (fun x14 => gw_if (gz_bd gw_rd (fun r18 => gz_bd gw_rd (fun r19 => gz_bd gw_rd (fun b21 => gz_bd (w_F_X6_matching b21 x11 r9 r19) (fun x20 => w_F_X9_settleGroup_115 a0 ih34 h_ih34 x_1 x7 x_3 x6 x11 r12 x6 x13 x20))))) (gz_bd gw_rd (fun b17 => gz_bd (w_F_X9_combined b17 r9) (fun x16 => w_F_X9_settleGroup_115 a0 ih34 h_ih34 x_1 x7 x_3 x6 x11 r12 x6 x13 x16))))))))))))))
theorem w_F_X9_settleGroup_34 (a0 : Nat) : ∀ (n : Nat) (s : Int32 × Int32 × Int32), z_Gw 0 0 (F_X9_settleGroup_34 a0 n s) :=
  gw_fix (fun ih hih s => w_B_X9_settleGroup_34 a0 (fun y0 y1 y2 => ih (y0, y1, y2)) (fun y0 y1 y2 => hih (y0, y1, y2)) s.1 s.2.1 s.2.2)
theorem w_F_X9_settleGroup_24 (a0 : Nat) (ih2 : Int32 → Int32 → zMn Unit) (h_ih2 : ∀ (y0 : Int32) (y1 : Int32), z_Gw 0 0 (ih2 y0 y1)) (x_1 : Int32) (x_2 : Int32) : z_Gw 0 0 (F_X9_settleGroup_24 a0 ih2 x_1 x_2) :=
  h_ih2 x_1 (x_2 + 1)
theorem w_B_X9_settleGroup_2 (a0 : Nat) (ih2 : Int32 → Int32 → zMn Unit) (h_ih2 : ∀ (y0 : Int32) (y1 : Int32), z_Gw 0 0 (ih2 y0 y1)) (x_1 : Int32) (x_2 : Int32) : z_Gw 0 0 (B_X9_settleGroup_2 a0 ih2 x_1 x_2) :=
  gw_if (w_F_X9_settleGroup_34 a0 z_N (x_1, x_1, 0)) (gw_if (w_F_X9_settleGroup_24 a0 ih2 h_ih2 x_1 x_2) (gz_bd gw_rd (fun r3 => gz_bd gw_wr (fun _ => w_F_X9_settleGroup_24 a0 ih2 h_ih2 x_1 x_2))))
theorem w_F_X9_settleGroup_2 (a0 : Nat) : ∀ (n : Nat) (s : Int32 × Int32), z_Gw 0 0 (F_X9_settleGroup_2 a0 n s) :=
  gw_fix (fun ih hih s => w_B_X9_settleGroup_2 a0 (fun y0 y1 => ih (y0, y1)) (fun y0 y1 => hih (y0, y1)) s.1 s.2)
theorem w_F_X9_settleGroup (a0 : Nat) (p0 : Int32) : z_Gw 0 0 (F_X9_settleGroup a0 p0) :=
  w_F_X9_settleGroup_2 a0 z_N (p0, 0)
theorem w_F_X9_settled_66 (a0 : Nat) (ih25 : Int32 → zMn Int32) (h_ih25 : ∀ (y0 : Int32), z_Gw 0 0 (ih25 y0)) (ih35 : Int32 → Int32 → Int32 → zMn Int32) (h_ih35 : ∀ (y0 : Int32) (y1 : Int32) (y2 : Int32), z_Gw 0 0 (ih35 y0 y1 y2)) (x_1 : Int32) (x_3 : Int32) (s_0 : Int32) (s_1 : Int32) : z_Gw 0 0 (F_X9_settled_66 a0 ih25 ih35 x_1 x_3 s_0 s_1) :=
  gz_bd gw_ret (fun x13 => h_ih35 x_1 x13 (x_3 + 1))
theorem w_B_X9_settled_35 (a0 : Nat) (ih25 : Int32 → zMn Int32) (h_ih25 : ∀ (y0 : Int32), z_Gw 0 0 (ih25 y0)) (ih35 : Int32 → Int32 → Int32 → zMn Int32) (h_ih35 : ∀ (y0 : Int32) (y1 : Int32) (y2 : Int32), z_Gw 0 0 (ih35 y0 y1 y2)) (x_1 : Int32) (x_2 : Int32) (x_3 : Int32) : z_Gw 0 0 (B_X9_settled_35 a0 ih25 ih35 x_1 x_2 x_3) :=
  gw_if (gz_bd gw_rd (fun b8 => gz_bd (w_F_X9_settleGroup b8 x_2) (fun _ => h_ih25 (x_1 + 1)))) (gz_bd gw_rd (fun r9 => gz_bd gw_rd (fun x10 => gz_bd (w_F_J6_bitCount_0f7a4 (x10 ||| ((1 : Int32) <<< (x_3 &&& 31)))) (fun x11 => gw_if (w_F_X9_settled_66 a0 ih25 h_ih25 ih35 h_ih35 x_1 x_3 x_2 ((1 : Int32) <<< (x_3 &&& 31))) (w_F_X9_settled_66 a0 ih25 h_ih25 ih35 h_ih35 x_1 x_3 x_2 0)))))
theorem w_F_X9_settled_35 (a0 : Nat) (ih25 : Int32 → zMn Int32) (h_ih25 : ∀ (y0 : Int32), z_Gw 0 0 (ih25 y0)) : ∀ (n : Nat) (s : Int32 × Int32 × Int32), z_Gw 0 0 (F_X9_settled_35 a0 ih25 n s) :=
  gw_fix (fun ih hih s => w_B_X9_settled_35 a0 ih25 h_ih25 (fun y0 y1 y2 => ih (y0, y1, y2)) (fun y0 y1 y2 => hih (y0, y1, y2)) s.1 s.2.1 s.2.2)
theorem w_B_X9_settled_25 (a0 : Nat) (ih25 : Int32 → zMn Int32) (h_ih25 : ∀ (y0 : Int32), z_Gw 0 0 (ih25 y0)) (x_1 : Int32) : z_Gw 0 0 (B_X9_settled_25 a0 ih25 x_1) :=
  gw_if (gw_rb) (w_F_X9_settled_35 a0 ih25 h_ih25 z_N (x_1, 0, 0))
theorem w_F_X9_settled_25 (a0 : Nat) : ∀ (n : Nat) (s : Int32), z_Gw 0 0 (F_X9_settled_25 a0 n s) :=
  gw_fix (fun ih hih s => w_B_X9_settled_25 a0 (fun y0 => ih (y0)) (fun y0 => hih (y0)) s)
theorem w_F_X9_settled (a0 : Nat) : z_Gw 0 0 (F_X9_settled a0) :=
  gz_bd gw_rd (fun b2 => gz_bd (w_F_X9_leastWrong b2) (fun x1 => gw_if (gz_bd gw_rd (fun x4 => gw_if (gw_rb) (gz_bd gw_wr (fun _ => w_F_X9_settled_25 a0 z_N (1))))) (gw_rb)))
theorem w_F_X10_has_44 (a0 : Nat) (s_0 : Int32) : z_Gw 0 0 (F_X10_has_44 a0 s_0) :=
  gw_ret
theorem w_F_X10_has_14 (a0 : Nat) : z_Gw 0 0 (F_X10_has_14 a0) :=
  gw_ret
theorem w_F_X10_has (a0 : Nat) (p0 : Int32) (p1 : Int32) : z_Gw 0 0 (F_X10_has a0 p0 p1) :=
  gz_bd (w_F_X10_isNode p0) (fun x1 => gw_if (w_F_X10_has_14 a0) (gz_bd (w_F_X10_isShape p1) (fun x3 => gw_if (w_F_X10_has_14 a0) (gz_bd gw_rd (fun r5 => gz_bd gw_rd (fun b7 => gz_bd (w_F_X9_settled b7) (fun x6 => gw_if (w_F_X10_has_44 a0 ((-3))) (gz_bd gw_rd (fun r9 => gz_bd gw_rd (fun r10 => gz_bd gw_rd (fun x11 => w_F_X10_has_44 a0 ((x11 >>> (p0 &&& 31)) &&& 1))))))))))))
theorem w_F_X2_init (a0 : Nat) : z_Gw 3 4175 (F_X2_init a0) :=
  gw_b2 (k := 1) (n := 3125) (k' := 2) (n' := 1050) (gw_nwa (m := 3125) (by decide)) (fun a1 => gw_b2 (k := 0) (n := 0) (k' := 2) (n' := 1050) gw_wr (fun _ => gw_b2 (k := 1) (n := 525) (k' := 1) (n' := 525) (gw_nwa (m := 525) (by decide)) (fun a2 => gw_b2 (k := 0) (n := 0) (k' := 1) (n' := 525) gw_wr (fun _ => gw_b2 (k := 1) (n := 525) (k' := 0) (n' := 0) (gw_nwa (m := 525) (by decide)) (fun a3 => gz_bd gw_wr (fun _ => gw_ret)) (by decide) (by decide)) (by decide) (by decide)) (by decide) (by decide)) (by decide) (by decide)) (by decide) (by decide)
theorem w_F_X4_init (a0 : Nat) (q0 : Option Nat) : z_Gw 1 60 (F_X4_init a0 q0) :=
  gw_b2 (k := 1) (n := 60) (k' := 0) (n' := 0) (gw_nwa (m := 60) (by decide)) (fun a1 => gz_bd gw_wr (fun _ => gz_bd gw_wr (fun _ => gw_ret))) (by decide) (by decide)
theorem w_F_X0_init (a0 : Nat) : z_Gw 2 80 (F_X0_init a0) :=
  gw_b2 (k := 1) (n := 64) (k' := 1) (n' := 16) (gw_nwa (m := 64) (by decide)) (fun a1 => gw_b2 (k := 0) (n := 0) (k' := 1) (n' := 16) gw_wr (fun _ => gw_b2 (k := 1) (n := 16) (k' := 0) (n' := 0) (gw_nwa (m := 16) (by decide)) (fun a2 => gz_bd gw_wr (fun _ => gw_ret)) (by decide) (by decide)) (by decide) (by decide)) (by decide) (by decide)
theorem w_F_X5_init (a0 : Nat) : z_Gw 6 164 (F_X5_init a0) :=
  gw_b2 (k := 1) (n := 2) (k' := 5) (n' := 162) (gw_nw (n := 2) (by decide)) (fun a1 => gw_b2 (k := 2) (n := 80) (k' := 3) (n' := 82) (w_F_X0_init a1) (fun _ => gw_b2 (k := 0) (n := 0) (k' := 3) (n' := 82) gw_wr (fun _ => gw_b2 (k := 1) (n := 2) (k' := 2) (n' := 80) (gw_nw (n := 2) (by decide)) (fun a2 => gw_b2 (k := 2) (n := 80) (k' := 0) (n' := 0) (w_F_X0_init a2) (fun _ => gz_bd gw_wr (fun _ => gw_ret)) (by decide) (by decide)) (by decide) (by decide)) (by decide) (by decide)) (by decide) (by decide)) (by decide) (by decide)
theorem w_F_X6_init (a0 : Nat) (q0 : Option Nat) (q1 : Option Nat) (q2 : Option Nat) : z_Gw 1 8 (F_X6_init a0 q0 q1 q2) :=
  gw_b2 (k := 1) (n := 8) (k' := 0) (n' := 0) (gw_nwa (m := 8) (by decide)) (fun a1 => gz_bd gw_wr (fun _ => gz_bd gw_wr (fun _ => gz_bd gw_wr (fun _ => gz_bd gw_wr (fun _ => gw_ret))))) (by decide) (by decide)
theorem w_F_X8_init (a0 : Nat) : z_Gw 0 0 (F_X8_init a0) :=
  gz_bd gw_wr (fun _ => gw_ret)
theorem w_F_X9_init (a0 : Nat) (q0 : Option Nat) (q1 : Option Nat) : z_Gw 2 32 (F_X9_init a0 q0 q1) :=
  gw_b2 (k := 1) (n := 16) (k' := 1) (n' := 16) (gw_nwa (m := 16) (by decide)) (fun a1 => gw_b2 (k := 0) (n := 0) (k' := 1) (n' := 16) gw_wr (fun _ => gw_b2 (k := 1) (n := 16) (k' := 0) (n' := 0) (gw_nwa (m := 16) (by decide)) (fun a2 => gz_bd gw_wr (fun _ => gz_bd gw_wr (fun _ => gz_bd gw_wr (fun _ => gz_bd gw_wr (fun _ => gz_bd gw_wr (fun _ => gz_bd gw_wr (fun _ => gw_ret))))))) (by decide) (by decide)) (by decide) (by decide)) (by decide) (by decide)
theorem w_F_X10_isBare_24 (a0 : Nat) (s_0 : Int32) : z_Gw 0 0 (F_X10_isBare_24 a0 s_0) :=
  gw_rb
theorem w_F_X10_isBare_23 (a0 : Nat) : z_Gw 0 0 (F_X10_isBare_23 a0) :=
  w_F_X10_isBare_24 a0 0
theorem w_F_X10_isBare (a0 : Nat) (p0 : Int32) : z_Gw 0 0 (F_X10_isBare a0 p0) :=
  gz_bd (w_F_X10_isShape p0) (fun x1 => gw_if (w_F_X10_isBare_23 a0) (gz_bd gw_rd (fun r3 => gz_bd gw_rd (fun r4 => gz_bd gw_rd (fun x5 => gw_if (w_F_X10_isBare_24 a0 1) (w_F_X10_isBare_23 a0))))))
theorem w_F_X6_countLoose_39 (a0 : Nat) (ih13 : Int32 → Int32 → zMn Int32) (h_ih13 : ∀ (y0 : Int32) (y1 : Int32), z_Gw 0 0 (ih13 y0 y1)) (x_5 : Int32) (s_0 : Int32) (s_1 : Int32) : z_Gw 0 0 (F_X6_countLoose_39 a0 ih13 x_5 s_0 s_1) :=
  gz_bd gw_ret (fun x7 => h_ih13 x7 (x_5 + 1))
theorem w_B_X6_countLoose_13 (a0 : Nat) (ih13 : Int32 → Int32 → zMn Int32) (h_ih13 : ∀ (y0 : Int32) (y1 : Int32), z_Gw 0 0 (ih13 y0 y1)) (x_4 : Int32) (x_5 : Int32) : z_Gw 0 0 (B_X6_countLoose_13 a0 ih13 x_4 x_5) :=
  gz_bd gw_rd (fun x2 => gw_if (gw_ret) (gz_bd gw_rd (fun r4 => gz_bd gw_rd (fun x5 => gw_if (w_F_X6_countLoose_39 a0 ih13 h_ih13 x_5 x_4 1) (w_F_X6_countLoose_39 a0 ih13 h_ih13 x_5 x_4 0)))))
theorem w_F_X6_countLoose_13 (a0 : Nat) : ∀ (n : Nat) (s : Int32 × Int32), z_Gw 0 0 (F_X6_countLoose_13 a0 n s) :=
  gw_fix (fun ih hih s => w_B_X6_countLoose_13 a0 (fun y0 y1 => ih (y0, y1)) (fun y0 y1 => hih (y0, y1)) s.1 s.2)
theorem w_F_X6_countLoose (a0 : Nat) (p0 : Int32) (q1 : Option Nat) (q2 : Option Nat) : z_Gw 0 0 (F_X6_countLoose a0 p0 q1 q2) :=
  gz_bd gw_rd (fun b1 => gz_bd (w_F_X6_gather b1 p0 q1 q2) (fun _ => w_F_X6_countLoose_13 a0 z_N (0, 0)))
theorem w_F_X10_loose_53 (a0 : Nat) (s_0 : Int32) : z_Gw 0 0 (F_X10_loose_53 a0 s_0) :=
  gw_ret
theorem w_F_X10_loose_15 (a0 : Nat) : z_Gw 0 0 (F_X10_loose_15 a0) :=
  gw_ret
theorem w_F_X10_loose (a0 : Nat) (p0 : Int32) (p1 : Int32) : z_Gw 0 0 (F_X10_loose a0 p0 p1) :=
  gz_bd (w_F_X10_isNode p0) (fun x1 => gw_if (w_F_X10_loose_15 a0) (gz_bd gw_rd (fun b4 => gz_bd (w_F_X10_isBare b4 p1) (fun x3 => gw_if (w_F_X10_loose_15 a0) (gz_bd gw_rd (fun r6 => gz_bd gw_rd (fun b8 => gz_bd (w_F_X9_settled b8) (fun x7 => gw_if (w_F_X10_loose_53 a0 ((-3))) (gz_bd gw_rd (fun r10 => gz_bd gw_rd (fun r11 => gz_bd gw_rd (fun r12 => gz_bd gw_rd (fun r13 => gz_bd gw_rd (fun r14 => gz_bd gw_rd (fun b16 => gz_bd (w_F_X6_countLoose b16 p0 r12 r14) (fun x15 => w_F_X10_loose_53 a0 x15))))))))))))))))
theorem w_F_X10_nodes_33 (a0 : Nat) (s_0 : Int32) : z_Gw 0 0 (F_X10_nodes_33 a0 s_0) :=
  gw_ret
theorem w_F_X10_nodes (a0 : Nat) (p0 : Int32) : z_Gw 0 0 (F_X10_nodes a0 p0) :=
  gz_bd (w_F_X10_isShape p0) (fun x1 => gw_if (gw_ret) (gz_bd gw_rd (fun r3 => gz_bd gw_rd (fun b5 => gz_bd (w_F_X9_settled b5) (fun x4 => gw_if (w_F_X10_nodes_33 a0 ((-3))) (gz_bd gw_rd (fun r7 => gz_bd gw_rd (fun r8 => gz_bd gw_rd (fun x9 => w_F_X10_nodes_33 a0 x9)))))))))
theorem w_F_X8_becomeNone (a0 : Nat) : z_Gw 0 0 (F_X8_becomeNone a0) :=
  gz_bd gw_wr (fun _ => gz_bd gw_wr (fun _ => gz_bd gw_wr (fun _ => gz_bd gw_wr (fun _ => gz_bd gw_wr (fun _ => gz_bd gw_wr (fun _ => gz_bd gw_wr (fun _ => gw_ret)))))))
theorem w_F_X8_becomeBare (a0 : Nat) (q0 : Option Nat) (p1 : Int32) (p2 : Int32) : z_Gw 0 0 (F_X8_becomeBare a0 q0 p1 p2) :=
  gz_bd gw_rd (fun b1 => gz_bd (w_F_X8_becomeNone b1) (fun _ => gz_bd gw_wr (fun _ => gz_bd gw_wr (fun _ => gz_bd gw_wr (fun _ => gz_bd gw_ck (fun _ => gz_bd gw_wr (fun _ => gz_bd gw_rd (fun x3 => gz_bd gw_wr (fun _ => gw_ret)))))))))
theorem w_F_X10_setBare_23 (a0 : Nat) : z_Gw 0 0 (F_X10_setBare_23 a0) :=
  gw_rb
theorem w_F_X10_setBare (a0 : Nat) (q0 : Option Nat) (p1 : Int32) (p2 : Int32) (p3 : Int32) : z_Gw 0 0 (F_X10_setBare a0 q0 p1 p2 p3) :=
  gz_bd gw_rd (fun r1 => gz_bd gw_rd (fun b3 => gz_bd (w_F_X4_find b3 p1) (fun r2 => gw_if (w_F_X10_setBare_23 a0) (gz_bd gw_rd (fun x5 => gw_if (gz_bd gw_rd (fun b7 => gz_bd (w_F_X8_becomeBare b7 r2 p2 p3) (fun _ => gw_rb))) (w_F_X10_setBare_23 a0))))))
theorem w_F_X8_becomeAmong (a0 : Nat) (p0 : Int32) : z_Gw 0 0 (F_X8_becomeAmong a0 p0) :=
  gz_bd gw_rd (fun b1 => gz_bd (w_F_X8_becomeNone b1) (fun _ => gz_bd gw_wr (fun _ => gz_bd gw_wr (fun _ => gw_ret))))
theorem w_F_X8_becomeNot (a0 : Nat) (p0 : Int32) : z_Gw 0 0 (F_X8_becomeNot a0 p0) :=
  gz_bd gw_rd (fun b1 => gz_bd (w_F_X8_becomeNone b1) (fun _ => gz_bd gw_wr (fun _ => gz_bd gw_wr (fun _ => gz_bd gw_wr (fun _ => gw_ret)))))
theorem w_F_X8_becomePair (a0 : Nat) (p0 : Int32) (p1 : Int32) (p2 : Int32) : z_Gw 0 0 (F_X8_becomePair a0 p0 p1 p2) :=
  gz_bd gw_rd (fun b1 => gz_bd (w_F_X8_becomeNone b1) (fun _ => gz_bd gw_wr (fun _ => gz_bd gw_wr (fun _ => gz_bd gw_wr (fun _ => gz_bd gw_wr (fun _ => gw_ret))))))
theorem w_F_X10_setShape_85 (a0 : Nat) : z_Gw 0 0 (F_X10_setShape_85 a0) :=
  gw_rb
theorem w_F_X10_setShape_66 (a0 : Nat) (t_0 : Option Nat) (t_1 : Option Nat) (s_2 : Int32) (s_3 : Int32) (s_4 : Int32) : z_Gw 0 0 (F_X10_setShape_66 a0 t_0 t_1 s_2 s_3 s_4) :=
  gz_bd gw_rd (fun b24 => gz_bd (w_F_X10_setBare b24 t_1 s_2 s_3 s_4) (fun x23 => gw_rb))
theorem w_F_X10_setShape (a0 : Nat) (q0 : Option Nat) (p1 : Int32) (p2 : Int32) (p3 : Int32) (p4 : Int32) : z_Gw 0 0 (F_X10_setShape a0 q0 p1 p2 p3 p4) :=
  gw_if (gz_bd gw_rd (fun b2 => gz_bd (w_F_X8_becomeNone b2) (fun _ => gw_rb))) (gw_if (gw_if (w_F_X10_setShape_66 a0 ((some a0)) q0 p2 (p3 &&& 255) 1) (w_F_X10_setShape_66 a0 ((some a0)) q0 p2 (p3 &&& 255) 0)) (gw_if (gz_bd (w_F_X10_isShape p2) (fun x6 => gw_if (w_F_X10_setShape_85 a0) (gz_bd (w_F_X10_isShape p3) (fun x8 => gw_if (w_F_X10_setShape_85 a0) (gz_bd gw_rd (fun b10 => gz_bd (w_F_X8_becomePair b10 p1 p2 p3) (fun _ => gw_rb))))))) (gw_if (gz_bd (w_F_X10_isShape p2) (fun x12 => gw_if (w_F_X10_setShape_85 a0) (gz_bd (w_F_X10_isShape p3) (fun x14 => gw_if (w_F_X10_setShape_85 a0) (gz_bd gw_rd (fun b16 => gz_bd (w_F_X8_becomePair b16 p1 p2 p3) (fun _ => gw_rb))))))) (gw_if (gz_bd (w_F_X10_isShape p2) (fun x18 => gw_if (gw_rb) (gz_bd gw_rd (fun b20 => gz_bd (w_F_X8_becomeNot b20 p2) (fun _ => gw_rb))))) (gw_if (gz_bd gw_rd (fun b22 => gz_bd (w_F_X8_becomeAmong b22 (p2 &&& 65535)) (fun _ => gw_rb))) (gw_rb))))))
theorem w_F_X9_noteShapes (a0 : Nat) : z_Gw 0 0 (F_X9_noteShapes a0) :=
  gz_bd gw_wr (fun _ => gz_bd gw_wr (fun _ => gw_ret))
theorem w_F_X10_shape_26 (a0 : Nat) : z_Gw 0 0 (F_X10_shape_26 a0) :=
  gw_ret
theorem w_F_X10_shape (a0 : Nat) (p0 : Int32) (p1 : Int32) (p2 : Int32) (p3 : Int32) (p4 : Int32) : z_Gw 0 0 (F_X10_shape a0 p0 p1 p2 p3 p4) :=
  gz_bd (w_F_X10_isShape p0) (fun x1 => gw_if (w_F_X10_shape_26 a0) (gz_bd gw_rd (fun r3 => gz_bd gw_rd (fun r4 => gz_bd gw_rd (fun b6 => gz_bd (w_F_X10_setShape b6 r4 p1 p2 p3 p4) (fun x5 => gw_if (w_F_X10_shape_26 a0) (gz_bd gw_rd (fun r8 => gz_bd gw_rd (fun b9 => gz_bd (w_F_X9_noteShapes b9) (fun _ => gw_ret))))))))))
theorem w_F_X10_ways_53 (a0 : Nat) (s_0 : Int32) : z_Gw 0 0 (F_X10_ways_53 a0 s_0) :=
  gw_ret
theorem w_F_X10_ways_15 (a0 : Nat) : z_Gw 0 0 (F_X10_ways_15 a0) :=
  gw_ret
theorem w_F_X10_ways (a0 : Nat) (p0 : Int32) (p1 : Int32) : z_Gw 0 0 (F_X10_ways a0 p0 p1) :=
  gz_bd (w_F_X10_isNode p0) (fun x1 => gw_if (w_F_X10_ways_15 a0) (gz_bd gw_rd (fun b4 => gz_bd (w_F_X10_isBare b4 p1) (fun x3 => gw_if (w_F_X10_ways_15 a0) (gz_bd gw_rd (fun r6 => gz_bd gw_rd (fun b8 => gz_bd (w_F_X9_settled b8) (fun x7 => gw_if (w_F_X10_ways_53 a0 ((-3))) (gz_bd gw_rd (fun r10 => gz_bd gw_rd (fun r11 => gz_bd gw_rd (fun r12 => gz_bd gw_rd (fun r13 => gz_bd gw_rd (fun r14 => gz_bd gw_rd (fun b16 => gz_bd (w_F_X6_countWays b16 p0 r12 r14) (fun x15 => w_F_X10_ways_53 a0 x15))))))))))))))))
theorem w_F_X10_wrong (a0 : Nat) : z_Gw 0 0 (F_X10_wrong a0) :=
  gz_bd gw_rd (fun r1 => gz_bd gw_rd (fun b3 => gz_bd (w_F_X9_leastWrong b3) (fun x2 => gw_ret)))
theorem w_F_X10_other_54 (a0 : Nat) : z_Gw 0 0 (F_X10_other_54 a0) :=
  gw_no
theorem w_F_X10_other_38 (a0 : Nat) (x_1 : Int32) (x_3 : Int32) (t_0 : Option Nat) : z_Gw 0 0 (F_X10_other_38 a0 x_1 x_3 t_0) :=
  gw_if (w_F_X10_other_54 a0) (gz_bd gw_rd (fun b10 => gz_bd (w_F_X0_count b10 x_1) (fun x9 => gw_if (gz_bd gw_rd (fun b13 => gz_bd (w_F_X0_key b13 x_1 x_3) (fun x12 => gz_bd (w_F_X5_otherOf x12) (fun x14 => gw_ret)))) (w_F_X10_other_54 a0))))
theorem w_F_X10_other (a0 : Nat) (p0 : Int32) (p1 : Int32) (p2 : Int32) : z_Gw 0 0 (F_X10_other a0 p0 p1 p2) :=
  gz_bd (w_F_X10_isNode p0) (fun x1 => gw_if (gw_no) (gw_if (gz_bd gw_rd (fun r4 => gz_bd gw_rd (fun r5 => w_F_X10_other_38 a0 p0 p2 r5))) (gz_bd gw_rd (fun r6 => gz_bd gw_rd (fun r7 => w_F_X10_other_38 a0 p0 p2 r7)))))
theorem w_F_X10_otherT_54 (a0 : Nat) : z_Gw 1 6 (F_X10_otherT_54 a0) :=
  (gw_bd (gw_nw (n := 6) (by decide)) (fun _ => gw_ret))
theorem w_F_X10_otherT_38 (a0 : Nat) (x_1 : Int32) (x_3 : Int32) (t_0 : Option Nat) : z_Gw 1 6 (F_X10_otherT_38 a0 x_1 x_3 t_0) :=
  gw_if (w_F_X10_otherT_54 a0) (gw_b2 (k := 0) (n := 0) (k' := 1) (n' := 6) gw_rd (fun b10 => gw_b2 (k := 0) (n := 0) (k' := 1) (n' := 6) (w_F_X0_count b10 x_1) (fun x9 => gw_if (gw_le (k := 0) (n := 0) (gz_bd gw_rd (fun b13 => gz_bd (w_F_X0_key b13 x_1 x_3) (fun x12 => gz_bd (w_F_X5_otherOf x12) (fun x14 => gw_no)))) (by decide) (by decide)) (w_F_X10_otherT_54 a0)) (by decide) (by decide)) (by decide) (by decide))
theorem w_F_X10_otherT (a0 : Nat) (p0 : Int32) (p1 : Int32) (p2 : Int32) : z_Gw 1 6 (F_X10_otherT a0 p0 p1 p2) :=
  gw_b2 (k := 0) (n := 0) (k' := 1) (n' := 6) (w_F_X10_isNode p0) (fun x1 => gw_if ((gw_bd (gw_nw (n := 6) (by decide)) (fun _ => gw_ret))) (gw_if (gw_b2 (k := 0) (n := 0) (k' := 1) (n' := 6) gw_rd (fun r4 => gw_b2 (k := 0) (n := 0) (k' := 1) (n' := 6) gw_rd (fun r5 => w_F_X10_otherT_38 a0 p0 p2 r5) (by decide) (by decide)) (by decide) (by decide)) (gw_b2 (k := 0) (n := 0) (k' := 1) (n' := 6) gw_rd (fun r6 => gw_b2 (k := 0) (n := 0) (k' := 1) (n' := 6) gw_rd (fun r7 => w_F_X10_otherT_38 a0 p0 p2 r7) (by decide) (by decide)) (by decide) (by decide)))) (by decide) (by decide)
theorem w_F_X11_find_58 (a0 : Nat) (ih3 : Int32 → Int32 → Int32 → Int32 → zMn Int32) (h_ih3 : ∀ (y0 : Int32) (y1 : Int32) (y2 : Int32) (y3 : Int32), z_Gw 0 0 (ih3 y0 y1 y2 y3)) (x_1 : Int32) (x_2 : Int32) (x_3 : Int32) (x_4 : Int32) : z_Gw 0 0 (F_X11_find_58 a0 ih3 x_1 x_2 x_3 x_4) :=
  h_ih3 x_1 x_2 x_3 (x_4 + 1)
theorem w_B_X11_find_3 (a0 : Nat) (ih3 : Int32 → Int32 → Int32 → Int32 → zMn Int32) (h_ih3 : ∀ (y0 : Int32) (y1 : Int32) (y2 : Int32) (y3 : Int32), z_Gw 0 0 (ih3 y0 y1 y2 y3)) (x_1 : Int32) (x_2 : Int32) (x_3 : Int32) (x_4 : Int32) : z_Gw 0 0 (B_X11_find_3 a0 ih3 x_1 x_2 x_3 x_4) :=
  gz_bd gw_rd (fun x1 => gw_if (gw_ret) (gz_bd gw_rd (fun r3 => gz_bd gw_rd (fun x4 => gw_if (gz_bd gw_rd (fun r6 => gz_bd gw_rd (fun x7 => gw_if (gz_bd gw_rd (fun r9 => gz_bd gw_rd (fun x10 => gw_if (gw_ret) (w_F_X11_find_58 a0 ih3 h_ih3 x_1 x_2 x_3 x_4)))) (w_F_X11_find_58 a0 ih3 h_ih3 x_1 x_2 x_3 x_4)))) (w_F_X11_find_58 a0 ih3 h_ih3 x_1 x_2 x_3 x_4)))))
theorem w_F_X11_find_3 (a0 : Nat) : ∀ (n : Nat) (s : Int32 × Int32 × Int32 × Int32), z_Gw 0 0 (F_X11_find_3 a0 n s) :=
  gw_fix (fun ih hih s => w_B_X11_find_3 a0 (fun y0 y1 y2 y3 => ih (y0, y1, y2, y3)) (fun y0 y1 y2 y3 => hih (y0, y1, y2, y3)) s.1 s.2.1 s.2.2.1 s.2.2.2)
theorem w_F_X11_find (a0 : Nat) (p0 : Int32) (p1 : Int32) (p2 : Int32) : z_Gw 0 0 (F_X11_find a0 p0 p1 p2) :=
  w_F_X11_find_3 a0 z_N (p0, p1, p2, 0)
theorem w_F_X11_isLabel_15 (s_0 : Int32) : z_Gw 0 0 (F_X11_isLabel_15 s_0) :=
  gw_rb
theorem w_F_X11_isLabel_14  : z_Gw 0 0 (F_X11_isLabel_14) :=
  w_F_X11_isLabel_15 0
theorem w_F_X11_isLabel (p0 : Int32) : z_Gw 0 0 (F_X11_isLabel p0) :=
  gw_if (w_F_X11_isLabel_14) (gw_if (w_F_X11_isLabel_14) (w_F_X11_isLabel_15 1))
theorem w_F_X11_isNode_15 (s_0 : Int32) : z_Gw 0 0 (F_X11_isNode_15 s_0) :=
  gw_rb
theorem w_F_X11_isNode_14  : z_Gw 0 0 (F_X11_isNode_14) :=
  w_F_X11_isNode_15 0
theorem w_F_X11_isNode (p0 : Int32) : z_Gw 0 0 (F_X11_isNode p0) :=
  gw_if (w_F_X11_isNode_14) (gw_if (w_F_X11_isNode_14) (w_F_X11_isNode_15 1))
theorem w_F_X11_many_35 (a0 : Nat) (ih5 : Int32 → Int32 → Int32 → Int32 → zMn Int32) (h_ih5 : ∀ (y0 : Int32) (y1 : Int32) (y2 : Int32) (y3 : Int32), z_Gw 0 0 (ih5 y0 y1 y2 y3)) (x_1 : Int32) (x_2 : Int32) (x_4 : Int32) (s_0 : Int32) (s_1 : Int32) : z_Gw 0 0 (F_X11_many_35 a0 ih5 x_1 x_2 x_4 s_0 s_1) :=
  gz_bd gw_ret (fun x6 => h_ih5 x_1 x_2 x6 (x_4 + 1))
theorem w_B_X11_many_5 (a0 : Nat) (ih5 : Int32 → Int32 → Int32 → Int32 → zMn Int32) (h_ih5 : ∀ (y0 : Int32) (y1 : Int32) (y2 : Int32) (y3 : Int32), z_Gw 0 0 (ih5 y0 y1 y2 y3)) (x_1 : Int32) (x_2 : Int32) (x_3 : Int32) (x_4 : Int32) : z_Gw 0 0 (B_X11_many_5 a0 ih5 x_1 x_2 x_3 x_4) :=
  gz_bd gw_rd (fun x1 => gw_if (gw_ret) (gz_bd gw_rd (fun r3 => gz_bd gw_rd (fun x4 => gw_if (w_F_X11_many_35 a0 ih5 h_ih5 x_1 x_2 x_4 x_3 1) (w_F_X11_many_35 a0 ih5 h_ih5 x_1 x_2 x_4 x_3 0)))))
theorem w_F_X11_many_5 (a0 : Nat) : ∀ (n : Nat) (s : Int32 × Int32 × Int32 × Int32), z_Gw 0 0 (F_X11_many_5 a0 n s) :=
  gw_fix (fun ih hih s => w_B_X11_many_5 a0 (fun y0 y1 y2 y3 => ih (y0, y1, y2, y3)) (fun y0 y1 y2 y3 => hih (y0, y1, y2, y3)) s.1 s.2.1 s.2.2.1 s.2.2.2)
theorem w_F_X11_many (a0 : Nat) (p0 : Int32) (p1 : Int32) : z_Gw 0 0 (F_X11_many a0 p0 p1) :=
  w_F_X11_many_5 a0 z_N (p0, p1, 0, 0)
theorem w_F_X11_arc_195 (a0 : Nat) : z_Gw 0 0 (F_X11_arc_195 a0) :=
  gz_bd gw_wr (fun _ => gw_ret)
theorem w_B_X11_arc_157 (a0 : Nat) (ih157 : Int32 → Int32 → zMn Int32) (h_ih157 : ∀ (y0 : Int32) (y1 : Int32), z_Gw 0 0 (ih157 y0 y1)) (x_5 : Int32) (x_6 : Int32) : z_Gw 0 0 (B_X11_arc_157 a0 ih157 x_5 x_6) :=
  gw_if (w_F_X11_arc_195 a0) (gz_bd gw_rd (fun r29 => gz_bd gw_rd (fun r30 => gz_bd gw_rd (fun x31 => gz_bd gw_rd (fun x32 => gz_bd gw_wr (fun _ => h_ih157 x_5 (x_6 + 1)))))))
theorem w_F_X11_arc_157 (a0 : Nat) : ∀ (n : Nat) (s : Int32 × Int32), z_Gw 0 0 (F_X11_arc_157 a0 n s) :=
  gw_fix (fun ih hih s => w_B_X11_arc_157 a0 (fun y0 y1 => ih (y0, y1)) (fun y0 y1 => hih (y0, y1)) s.1 s.2)
theorem w_F_X11_arc_88 (a0 : Nat) : z_Gw 0 0 (F_X11_arc_88 a0) :=
  gw_ret
theorem w_F_X11_arc_49 (a0 : Nat) (x_1 : Int32) (x_2 : Int32) (x_3 : Int32) (x_4 : Int32) (x_5 : Int32) (s_0 : Int32) (s_1 : Int32) : z_Gw 0 0 (F_X11_arc_49 a0 x_1 x_2 x_3 x_4 x_5 s_0 s_1) :=
  gw_if (gw_ret) (gw_if (gz_bd gw_rd (fun x12 => gz_bd gw_wr (fun _ => w_F_X11_arc_157 a0 z_N (x_5, 0)))) (gz_bd gw_rd (fun x13 => gw_if (w_F_X11_arc_88 a0) (gz_bd gw_rd (fun b16 => gz_bd (w_F_X11_many b16 x_1 0) (fun x15 => gw_if (w_F_X11_arc_88 a0) (gz_bd gw_rd (fun b19 => gz_bd (w_F_X11_many b19 x_3 2) (fun x18 => gw_if (w_F_X11_arc_88 a0) (gz_bd gw_rd (fun r21 => gz_bd gw_rd (fun x22 => gz_bd gw_wr (fun _ => gz_bd gw_rd (fun r23 => gz_bd gw_rd (fun x24 => gz_bd gw_wr (fun _ => gz_bd gw_rd (fun r25 => gz_bd gw_rd (fun x26 => gz_bd gw_wr (fun _ => gz_bd gw_rd (fun x27 => gz_bd gw_wr (fun _ => w_F_X11_arc_195 a0)))))))))))))))))))))
theorem w_F_X11_arc_26 (a0 : Nat) : z_Gw 0 0 (F_X11_arc_26 a0) :=
  gw_ret
theorem w_F_X11_arc (a0 : Nat) (p0 : Int32) (p1 : Int32) (p2 : Int32) (p3 : Int32) : z_Gw 0 0 (F_X11_arc a0 p0 p1 p2 p3) :=
  gz_bd gw_wr (fun _ => gz_bd (w_F_X11_isNode p0) (fun x1 => gw_if (w_F_X11_arc_26 a0) (gz_bd (w_F_X11_isLabel p1) (fun x3 => gw_if (w_F_X11_arc_26 a0) (gz_bd (w_F_X11_isNode p2) (fun x5 => gw_if (w_F_X11_arc_26 a0) (gz_bd gw_rd (fun b8 => gz_bd (w_F_X11_find b8 p0 p1 p2) (fun x7 => gw_if (w_F_X11_arc_49 a0 p0 p1 p2 p3 x7 p3 0) (w_F_X11_arc_49 a0 p0 p1 p2 p3 x7 p3 1))))))))))
theorem w_F_X11_arcs (a0 : Nat) : z_Gw 0 0 (F_X11_arcs a0) :=
  gz_bd gw_wr (fun _ => gz_bd gw_rd (fun x1 => gw_ret))
theorem w_F_X11_isExpression_17 (a0 : Nat) (s_0 : Int32) : z_Gw 0 0 (F_X11_isExpression_17 a0 s_0) :=
  gw_rb
