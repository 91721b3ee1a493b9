theorem m_F_X4_addRepeated (a0 : Nat) (q0 : Option Nat) (p1 : Int32) (p2 : Int32) : z_Mo (F_X4_addRepeated a0 q0 p1 p2) :=
  mo_bd (mo_gi (by decide)) (fun x1 => mo_if (mo_bd (mo_ga (by decide)) (fun r3 => mo_bd (mo_rc (by decide)) (fun b5 => mo_bd (m_F_X4_repeated b5 q0 p1 p2) (fun r4 => mo_bd (mo_rc (by decide)) (fun b7 => mo_bd (m_F_X4_keep b7 0 r3 r4) (fun x6 => mo_ret)))))) (mo_bd (mo_rc (by decide)) (fun b9 => mo_bd (m_F_X4_keepWide b9) (fun x8 => mo_ret))))
theorem m_F_X10_addRepeated_47 (a0 : Nat) (s_0 : Int32) : z_Mo (F_X10_addRepeated_47 a0 s_0) :=
  mo_ret
theorem m_F_X10_addRepeated_19 (a0 : Nat) : z_Mo (F_X10_addRepeated_19 a0) :=
  mo_ret
theorem m_F_X10_addRepeated (a0 : Nat) (p0 : Int32) (p1 : Int32) (p2 : Int32) : z_Mo (F_X10_addRepeated a0 p0 p1 p2) :=
  mo_bd (mo_ga (by decide)) (fun r1 => mo_bd (mo_rc (by decide)) (fun b3 => mo_bd (m_F_X4_find b3 p0) (fun r2 => mo_if (m_F_X10_addRepeated_19 a0) (mo_if (mo_bd (mo_ga (by decide)) (fun r6 => mo_bd (mo_rc (by decide)) (fun b8 => mo_bd (m_F_X4_isFull b8) (fun x7 => mo_if (mo_bd (mo_ga (by decide)) (fun r10 => mo_bd (mo_rc (by decide)) (fun b12 => mo_bd (m_F_X4_addRepeated b12 r2 p1 p2) (fun x11 => m_F_X10_addRepeated_47 a0 x11)))) (m_F_X10_addRepeated_47 a0 ((-2))))))) (m_F_X10_addRepeated_19 a0)))))
theorem m_F_X4_addNothing (a0 : Nat) : z_Mo (F_X4_addNothing a0) :=
  mo_bd (mo_nwa (by decide)) (fun a1 => mo_bd mo_si (fun _ => mo_bd (mo_nwa (by decide)) (fun a2 => mo_bd (mo_rc (by decide)) (fun b4 => mo_bd (m_F_X4_keep b4 0 ((some a2)) ((some a1))) (fun x3 => mo_ret)))))
theorem m_F_X10_expression_104 (a0 : Nat) (s_0 : Int32) : z_Mo (F_X10_expression_104 a0 s_0) :=
  mo_ret
theorem m_F_X10_expression_67 (a0 : Nat) (x_2 : Int32) (x_3 : Int32) (t_0 : Option Nat) (s_1 : Int32) : z_Mo (F_X10_expression_67 a0 x_2 x_3 t_0 s_1) :=
  mo_bd (mo_rc (by decide)) (fun b21 => mo_bd (m_F_X10_addPair b21 s_1 x_2 x_3) (fun x20 => mo_ret))
theorem m_F_X10_expression_50 (a0 : Nat) (x_2 : Int32) (x_3 : Int32) (t_0 : Option Nat) (s_1 : Int32) : z_Mo (F_X10_expression_50 a0 x_2 x_3 t_0 s_1) :=
  mo_bd (mo_rc (by decide)) (fun b23 => mo_bd (m_F_X10_addPlace b23 s_1 x_2 x_3) (fun x22 => mo_ret))
theorem m_F_X10_expression (a0 : Nat) (p0 : Int32) (p1 : Int32) (p2 : Int32) (p3 : Int32) : z_Mo (F_X10_expression a0 p0 p1 p2 p3) :=
  mo_if (mo_if (m_F_X10_expression_50 a0 p1 p2 ((some a0)) 1) (m_F_X10_expression_50 a0 p1 p2 ((some a0)) 0)) (mo_if (mo_if (m_F_X10_expression_50 a0 p1 p2 ((some a0)) 1) (m_F_X10_expression_50 a0 p1 p2 ((some a0)) 0)) (mo_if (mo_if (m_F_X10_expression_67 a0 p1 p2 ((some a0)) 1) (m_F_X10_expression_67 a0 p1 p2 ((some a0)) 0)) (mo_if (mo_if (m_F_X10_expression_67 a0 p1 p2 ((some a0)) 1) (m_F_X10_expression_67 a0 p1 p2 ((some a0)) 0)) (mo_if (mo_bd (mo_rc (by decide)) (fun b11 => mo_bd (m_F_X10_addRepeated b11 p1 p2 p3) (fun x10 => mo_ret))) (mo_if (mo_bd (mo_ga (by decide)) (fun r13 => mo_bd (mo_rc (by decide)) (fun b15 => mo_bd (m_F_X4_isFull b15) (fun x14 => mo_if (mo_bd (mo_ga (by decide)) (fun r17 => mo_bd (mo_rc (by decide)) (fun b19 => mo_bd (m_F_X4_addNothing b19) (fun x18 => m_F_X10_expression_104 a0 x18)))) (m_F_X10_expression_104 a0 ((-2))))))) (mo_ret))))))
theorem m_F_X9_leads_18 (a0 : Nat) (s_0 : Int32) : z_Mo (F_X9_leads_18 a0 s_0) :=
  mo_rb
theorem m_F_X9_leads (a0 : Nat) (p0 : Int32) (p1 : Int32) : z_Mo (F_X9_leads a0 p0 p1) :=
  mo_bd (mo_ga (by decide)) (fun r1 => mo_bd mo_li (fun x2 => mo_if (m_F_X9_leads_18 a0 0) (m_F_X9_leads_18 a0 1)))
theorem m_F_X9_findLeastWrong_49 (a0 : Nat) (ih2 : Int32 → zMn Int32) (h_ih2 : ∀ (y0 : Int32), z_Mo (ih2 y0)) (ih10 : Int32 → Int32 → zMn Int32) (h_ih10 : ∀ (y0 : Int32) (y1 : Int32), z_Mo (ih10 y0 y1)) (x_1 : Int32) (x_2 : Int32) : z_Mo (F_X9_findLeastWrong_49 a0 ih2 ih10 x_1 x_2) :=
  h_ih10 x_1 (x_2 + 1)
theorem m_B_X9_findLeastWrong_10 (a0 : Nat) (ih2 : Int32 → zMn Int32) (h_ih2 : ∀ (y0 : Int32), z_Mo (ih2 y0)) (ih10 : Int32 → Int32 → zMn Int32) (h_ih10 : ∀ (y0 : Int32) (y1 : Int32), z_Mo (ih10 y0 y1)) (x_1 : Int32) (x_2 : Int32) : z_Mo (B_X9_findLeastWrong_10 a0 ih2 ih10 x_1 x_2) :=
  mo_if (h_ih2 (x_1 + 1)) (mo_bd (mo_ga (by decide)) (fun r3 => mo_bd mo_la (fun r4 => mo_bd (mo_gi (by decide)) (fun x5 => mo_if (mo_bd (mo_rc (by decide)) (fun b8 => mo_bd (m_F_X9_leads b8 x_1 x_2) (fun x7 => mo_if (m_F_X9_findLeastWrong_49 a0 ih2 h_ih2 ih10 h_ih10 x_1 x_2) (mo_bd (mo_rc (by decide)) (fun b11 => mo_bd (m_F_X9_leads b11 x_2 x_1) (fun x10 => mo_if (m_F_X9_findLeastWrong_49 a0 ih2 h_ih2 ih10 h_ih10 x_1 x_2) (mo_ret))))))) (m_F_X9_findLeastWrong_49 a0 ih2 h_ih2 ih10 h_ih10 x_1 x_2)))))
theorem m_F_X9_findLeastWrong_10 (a0 : Nat) (ih2 : Int32 → zMn Int32) (h_ih2 : ∀ (y0 : Int32), z_Mo (ih2 y0)) : ∀ (n : Nat) (s : Int32 × Int32), z_Mo (F_X9_findLeastWrong_10 a0 ih2 n s) :=
  mo_fix (fun ih hih s => m_B_X9_findLeastWrong_10 a0 ih2 h_ih2 (fun y0 y1 => ih (y0, y1)) (fun y0 y1 => hih (y0, y1)) s.1 s.2)
theorem m_B_X9_findLeastWrong_2 (a0 : Nat) (ih2 : Int32 → zMn Int32) (h_ih2 : ∀ (y0 : Int32), z_Mo (ih2 y0)) (x_1 : Int32) : z_Mo (B_X9_findLeastWrong_2 a0 ih2 x_1) :=
  mo_if (mo_ret) (m_F_X9_findLeastWrong_10 a0 ih2 h_ih2 z_N (x_1, 0))
theorem m_F_X9_findLeastWrong_2 (a0 : Nat) : ∀ (n : Nat) (s : Int32), z_Mo (F_X9_findLeastWrong_2 a0 n s) :=
  mo_fix (fun ih hih s => m_B_X9_findLeastWrong_2 a0 (fun y0 => ih (y0)) (fun y0 => hih (y0)) s)
theorem m_F_X9_findLeastWrong (a0 : Nat) : z_Mo (F_X9_findLeastWrong a0) :=
  m_F_X9_findLeastWrong_2 a0 z_N (0)
theorem m_F_X9_findReach_69 (a0 : Nat) (ih31 : Int32 → zMn Unit) (h_ih31 : ∀ (y0 : Int32), z_Mo (ih31 y0)) (ih39 : Int32 → Int32 → zMn Unit) (h_ih39 : ∀ (y0 : Int32) (y1 : Int32), z_Mo (ih39 y0 y1)) (x_1 : Int32) (x_2 : Int32) : z_Mo (F_X9_findReach_69 a0 ih31 ih39 x_1 x_2) :=
  h_ih39 x_1 (x_2 + 1)
theorem m_B_X9_findReach_39 (a0 : Nat) (ih31 : Int32 → zMn Unit) (h_ih31 : ∀ (y0 : Int32), z_Mo (ih31 y0)) (ih39 : Int32 → Int32 → zMn Unit) (h_ih39 : ∀ (y0 : Int32) (y1 : Int32), z_Mo (ih39 y0 y1)) (x_1 : Int32) (x_2 : Int32) : z_Mo (B_X9_findReach_39 a0 ih31 ih39 x_1 x_2) :=
  mo_if (h_ih31 (x_1 + 1)) (mo_bd (mo_rc (by decide)) (fun b9 => mo_bd (m_F_X9_leads b9 x_2 x_1) (fun x8 => mo_if (m_F_X9_findReach_69 a0 ih31 h_ih31 ih39 h_ih39 x_1 x_2) (mo_bd (mo_ga (by decide)) (fun r11 => mo_bd mo_li (fun x12 => mo_bd (mo_ga (by decide)) (fun r13 => mo_bd mo_li (fun x14 => mo_bd mo_si (fun _ => m_F_X9_findReach_69 a0 ih31 h_ih31 ih39 h_ih39 x_1 x_2)))))))))
theorem m_F_X9_findReach_39 (a0 : Nat) (ih31 : Int32 → zMn Unit) (h_ih31 : ∀ (y0 : Int32), z_Mo (ih31 y0)) : ∀ (n : Nat) (s : Int32 × Int32), z_Mo (F_X9_findReach_39 a0 ih31 n s) :=
  mo_fix (fun ih hih s => m_B_X9_findReach_39 a0 ih31 h_ih31 (fun y0 y1 => ih (y0, y1)) (fun y0 y1 => hih (y0, y1)) s.1 s.2)
theorem m_B_X9_findReach_31 (a0 : Nat) (ih31 : Int32 → zMn Unit) (h_ih31 : ∀ (y0 : Int32), z_Mo (ih31 y0)) (x_1 : Int32) : z_Mo (B_X9_findReach_31 a0 ih31 x_1) :=
  mo_if (mo_ret) (m_F_X9_findReach_39 a0 ih31 h_ih31 z_N (x_1, 0))
theorem m_F_X9_findReach_31 (a0 : Nat) : ∀ (n : Nat) (s : Int32), z_Mo (F_X9_findReach_31 a0 n s) :=
  mo_fix (fun ih hih s => m_B_X9_findReach_31 a0 (fun y0 => ih (y0)) (fun y0 => hih (y0)) s)
theorem m_B_X9_findReach_2 (a0 : Nat) (ih2 : Int32 → zMn Unit) (h_ih2 : ∀ (y0 : Int32), z_Mo (ih2 y0)) (x_1 : Int32) : z_Mo (B_X9_findReach_2 a0 ih2 x_1) :=
  mo_if (m_F_X9_findReach_31 a0 z_N (0)) (mo_bd (mo_ga (by decide)) (fun r2 => mo_bd (mo_ga (by decide)) (fun r3 => mo_bd mo_la (fun r4 => mo_bd (mo_gi (by decide)) (fun x5 => mo_bd mo_si (fun _ => h_ih2 (x_1 + 1)))))))
theorem m_F_X9_findReach_2 (a0 : Nat) : ∀ (n : Nat) (s : Int32), z_Mo (F_X9_findReach_2 a0 n s) :=
  mo_fix (fun ih hih s => m_B_X9_findReach_2 a0 (fun y0 => ih (y0)) (fun y0 => hih (y0)) s)
theorem m_F_X9_findReach (a0 : Nat) : z_Mo (F_X9_findReach a0) :=
  m_F_X9_findReach_2 a0 z_N (0)
theorem m_F_X9_leastWrong_24 (a0 : Nat) : z_Mo (F_X9_leastWrong_24 a0) :=
  mo_bd (mo_gi (by decide)) (fun x6 => mo_ret)
theorem m_F_X9_leastWrong (a0 : Nat) : z_Mo (F_X9_leastWrong a0) :=
  mo_bd (mo_gi (by decide)) (fun x1 => mo_if (m_F_X9_leastWrong_24 a0) (mo_bd (mo_pf (by decide)) (fun _ => mo_bd (mo_rc (by decide)) (fun b3 => mo_bd (m_F_X9_findReach b3) (fun _ => mo_bd (mo_rc (by decide)) (fun b5 => mo_bd (m_F_X9_findLeastWrong b5) (fun x4 => mo_bd (mo_pf (by decide)) (fun _ => m_F_X9_leastWrong_24 a0))))))))
theorem m_F_X2_addTo_20 (a0 : Nat) : z_Mo (F_X2_addTo_20 a0) :=
  mo_ret
theorem m_F_X2_addTo (a0 : Nat) (p0 : Int32) (p1 : Int32) : z_Mo (F_X2_addTo a0 p0 p1) :=
  mo_bd (mo_rc (by decide)) (fun b2 => mo_bd (m_F_X2_enter b2 p0) (fun x1 => mo_if (m_F_X2_addTo_20 a0) (mo_bd (mo_ga (by decide)) (fun r4 => mo_bd mo_li (fun x5 => mo_bd mo_si (fun _ => m_F_X2_addTo_20 a0))))))
theorem m_F_X0_count (a0 : Nat) (p0 : Int32) : z_Mo (F_X0_count a0 p0) :=
  mo_bd (mo_ga (by decide)) (fun r1 => mo_bd mo_li (fun x2 => mo_ret))
theorem m_F_X5_labelOf (p0 : Int32) : z_Mo (F_X5_labelOf p0) :=
  mo_ret
theorem m_F_X6_addConcerned_32 (a0 : Nat) : z_Mo (F_X6_addConcerned_32 a0) :=
  mo_ret
theorem m_F_X6_addConcerned (a0 : Nat) (p0 : Int32) : z_Mo (F_X6_addConcerned a0 p0) :=
  mo_bd (mo_gi (by decide)) (fun x1 => mo_bd (mo_ga (by decide)) (fun r2 => mo_bd mo_len (fun n3 => mo_if (m_F_X6_addConcerned_32 a0) (mo_bd (mo_ga (by decide)) (fun r5 => mo_bd (mo_gi (by decide)) (fun x6 => mo_bd mo_si (fun _ => mo_bd (mo_gi (by decide)) (fun x7 => mo_bd (mo_pf (by decide)) (fun _ => m_F_X6_addConcerned_32 a0)))))))))
theorem m_F_X5_otherOf (p0 : Int32) : z_Mo (F_X5_otherOf p0) :=
  mo_ret
theorem m_F_X7_takes_43 (a0 : Nat) (s_0 : Int32) : z_Mo (F_X7_takes_43 a0 s_0) :=
  mo_rb
theorem m_F_X7_takes_42 (a0 : Nat) : z_Mo (F_X7_takes_42 a0) :=
  m_F_X7_takes_43 a0 0
theorem m_F_X7_takes_38 (a0 : Nat) : z_Mo (F_X7_takes_38 a0) :=
  m_F_X7_takes_43 a0 1
theorem m_F_X7_takes (a0 : Nat) (p0 : Int32) (p1 : Int32) (p2 : Int32) (q3 : Option Nat) : z_Mo (F_X7_takes a0 p0 p1 p2 q3) :=
  mo_bd (mo_gi (by decide)) (fun x1 => mo_if (mo_bd (mo_gi (by decide)) (fun x3 => mo_if (mo_bd (mo_gi (by decide)) (fun x5 => mo_if (m_F_X7_takes_38 a0) (mo_bd (mo_gi (by decide)) (fun x7 => mo_bd mo_li (fun x8 => mo_if (m_F_X7_takes_42 a0) (m_F_X7_takes_38 a0)))))) (m_F_X7_takes_42 a0))) (m_F_X7_takes_42 a0))
theorem m_F_X6_takers_42 (ih6 : Option Nat → Int32 → Int32 → Option Nat → Int32 → Int32 → zMn Int32) (h_ih6 : ∀ (y0 : Option Nat) (y1 : Int32) (y2 : Int32) (y3 : Option Nat) (y4 : Int32) (y5 : Int32), z_Mo (ih6 y0 y1 y2 y3 y4 y5)) (r_0 : Option Nat) (x_1 : Int32) (x_2 : Int32) (r_3 : Option Nat) (x_4 : Int32) (x_5 : Int32) : z_Mo (F_X6_takers_42 ih6 r_0 x_1 x_2 r_3 x_4 x_5) :=
  h_ih6 r_0 x_1 x_2 r_3 x_4 (x_5 + 1)
theorem m_B_X6_takers_6 (ih6 : Option Nat → Int32 → Int32 → Option Nat → Int32 → Int32 → zMn Int32) (h_ih6 : ∀ (y0 : Option Nat) (y1 : Int32) (y2 : Int32) (y3 : Option Nat) (y4 : Int32) (y5 : Int32), z_Mo (ih6 y0 y1 y2 y3 y4 y5)) (r_0 : Option Nat) (x_1 : Int32) (x_2 : Int32) (r_3 : Option Nat) (x_4 : Int32) (x_5 : Int32) : z_Mo (B_X6_takers_6 ih6 r_0 x_1 x_2 r_3 x_4 x_5) :=
  mo_bd mo_len (fun n1 => mo_if (mo_ret) (mo_bd mo_la (fun r3 => mo_bd (m_F_X5_labelOf x_2) (fun x4 => mo_bd (m_F_X5_otherOf x_2) (fun x5 => mo_bd (mo_rc (by decide)) (fun b7 => mo_bd (m_F_X7_takes b7 x_1 x4 x5 r_3) (fun x6 => mo_if (m_F_X6_takers_42 ih6 h_ih6 r_0 x_1 x_2 r_3 x_4 x_5) (mo_bd mo_ret (fun x9 => m_F_X6_takers_42 ih6 h_ih6 r_0 x_1 x_2 r_3 x9 x_5)))))))))
theorem m_F_X6_takers_6  : ∀ (n : Nat) (s : (Option Nat) × Int32 × Int32 × (Option Nat) × Int32 × Int32), z_Mo (F_X6_takers_6 n s) :=
  mo_fix (fun ih hih s => m_B_X6_takers_6  (fun y0 y1 y2 y3 y4 y5 => ih (y0, y1, y2, y3, y4, y5)) (fun y0 y1 y2 y3 y4 y5 => hih (y0, y1, y2, y3, y4, y5)) s.1 s.2.1 s.2.2.1 s.2.2.2.1 s.2.2.2.2.1 s.2.2.2.2.2)
theorem m_F_X6_takers (q0 : Option Nat) (p1 : Int32) (p2 : Int32) (q3 : Option Nat) : z_Mo (F_X6_takers q0 p1 p2 q3) :=
  m_F_X6_takers_6 z_N (q0, p1, p2, q3, 0, 0)
theorem m_F_X6_gather_187 (a0 : Nat) (ih124 : Int32 → Option Nat → Option Nat → Int32 → zMn Unit) (h_ih124 : ∀ (y0 : Int32) (y1 : Option Nat) (y2 : Option Nat) (y3 : Int32), z_Mo (ih124 y0 y1 y2 y3)) (x_1 : Int32) (r_3 : Option Nat) (r_4 : Option Nat) (x_5 : Int32) : z_Mo (F_X6_gather_187 a0 ih124 x_1 r_3 r_4 x_5) :=
  h_ih124 x_1 r_3 r_4 (x_5 + 1)
theorem m_B_X6_gather_124 (a0 : Nat) (ih124 : Int32 → Option Nat → Option Nat → Int32 → zMn Unit) (h_ih124 : ∀ (y0 : Int32) (y1 : Option Nat) (y2 : Option Nat) (y3 : Int32), z_Mo (ih124 y0 y1 y2 y3)) (x_1 : Int32) (r_3 : Option Nat) (r_4 : Option Nat) (x_5 : Int32) : z_Mo (B_X6_gather_124 a0 ih124 x_1 r_3 r_4 x_5) :=
  mo_bd (mo_ga (by decide)) (fun r23 => mo_bd (mo_ga (by decide)) (fun r24 => mo_bd (mo_rc (by decide)) (fun b26 => mo_bd (m_F_X0_count b26 x_1) (fun x25 => mo_if (mo_ret) (mo_bd (mo_ga (by decide)) (fun r28 => mo_bd (mo_ga (by decide)) (fun r29 => mo_bd (mo_rc (by decide)) (fun b31 => mo_bd (m_F_X0_key b31 x_1 x_5) (fun x30 => mo_bd (mo_gi (by decide)) (fun x32 => mo_bd (m_F_X5_labelOf x30) (fun x33 => mo_if (m_F_X6_gather_187 a0 ih124 h_ih124 x_1 r_3 r_4 x_5) (mo_bd (mo_ga (by decide)) (fun r35 => mo_bd (m_F_X6_takers r35 0 x30 r_3) (fun x36 => mo_bd (mo_rc (by decide)) (fun b37 => mo_bd (m_F_X6_addConcerned b37 x36) (fun _ => m_F_X6_gather_187 a0 ih124 h_ih124 x_1 r_3 r_4 x_5))))))))))))))))
theorem m_F_X6_gather_124 (a0 : Nat) : ∀ (n : Nat) (s : Int32 × (Option Nat) × (Option Nat) × Int32), z_Mo (F_X6_gather_124 a0 n s) :=
  mo_fix (fun ih hih s => m_B_X6_gather_124 a0 (fun y0 y1 y2 y3 => ih (y0, y1, y2, y3)) (fun y0 y1 y2 y3 => hih (y0, y1, y2, y3)) s.1 s.2.1 s.2.2.1 s.2.2.2)
theorem m_F_X6_gather_115 (a0 : Nat) (ih20 : Int32 → Option Nat → Option Nat → Option Nat → Int32 → zMn Unit) (h_ih20 : ∀ (y0 : Int32) (y1 : Option Nat) (y2 : Option Nat) (y3 : Option Nat) (y4 : Int32), z_Mo (ih20 y0 y1 y2 y3 y4)) (x_1 : Int32) (r_2 : Option Nat) (r_3 : Option Nat) (r_4 : Option Nat) (x_5 : Int32) : z_Mo (F_X6_gather_115 a0 ih20 x_1 r_2 r_3 r_4 x_5) :=
  h_ih20 x_1 r_2 r_3 r_4 (x_5 + 1)
theorem m_F_X6_gather_94 (a0 : Nat) (ih20 : Int32 → Option Nat → Option Nat → Option Nat → Int32 → zMn Unit) (h_ih20 : ∀ (y0 : Int32) (y1 : Option Nat) (y2 : Option Nat) (y3 : Option Nat) (y4 : Int32), z_Mo (ih20 y0 y1 y2 y3 y4)) (x_1 : Int32) (r_2 : Option Nat) (r_3 : Option Nat) (r_4 : Option Nat) (x_5 : Int32) (x_6 : Int32) (s_0 : Int32) : z_Mo (F_X6_gather_94 a0 ih20 x_1 r_2 r_3 r_4 x_5 x_6 s_0) :=
  mo_bd (mo_ga (by decide)) (fun r20 => mo_bd (m_F_X6_takers r20 1 x_6 r_3) (fun x21 => mo_bd (mo_rc (by decide)) (fun b22 => mo_bd (m_F_X6_addConcerned b22 (s_0 ||| x21)) (fun _ => m_F_X6_gather_115 a0 ih20 h_ih20 x_1 r_2 r_3 r_4 x_5))))
theorem m_F_X6_gather_78 (a0 : Nat) (ih20 : Int32 → Option Nat → Option Nat → Option Nat → Int32 → zMn Unit) (h_ih20 : ∀ (y0 : Int32) (y1 : Option Nat) (y2 : Option Nat) (y3 : Option Nat) (y4 : Int32), z_Mo (ih20 y0 y1 y2 y3 y4)) (x_1 : Int32) (r_2 : Option Nat) (r_3 : Option Nat) (r_4 : Option Nat) (x_5 : Int32) (x_6 : Int32) (x_7 : Int32) : z_Mo (F_X6_gather_78 a0 ih20 x_1 r_2 r_3 r_4 x_5 x_6 x_7) :=
  mo_bd (mo_gi (by decide)) (fun x18 => mo_if (m_F_X6_gather_94 a0 ih20 h_ih20 x_1 r_2 r_3 r_4 x_5 x_6 0) (m_F_X6_gather_94 a0 ih20 h_ih20 x_1 r_2 r_3 r_4 x_5 x_6 32))
theorem m_B_X6_gather_20 (a0 : Nat) (ih20 : Int32 → Option Nat → Option Nat → Option Nat → Int32 → zMn Unit) (h_ih20 : ∀ (y0 : Int32) (y1 : Option Nat) (y2 : Option Nat) (y3 : Option Nat) (y4 : Int32), z_Mo (ih20 y0 y1 y2 y3 y4)) (x_1 : Int32) (r_2 : Option Nat) (r_3 : Option Nat) (r_4 : Option Nat) (x_5 : Int32) : z_Mo (B_X6_gather_20 a0 ih20 x_1 r_2 r_3 r_4 x_5) :=
  mo_bd (mo_ga (by decide)) (fun r3 => mo_bd (mo_ga (by decide)) (fun r4 => mo_bd (mo_rc (by decide)) (fun b6 => mo_bd (m_F_X0_count b6 x_1) (fun x5 => mo_if (m_F_X6_gather_124 a0 z_N (x_1, r_3, r_4, 0)) (mo_bd (mo_ga (by decide)) (fun r8 => mo_bd (mo_ga (by decide)) (fun r9 => mo_bd (mo_rc (by decide)) (fun b11 => mo_bd (m_F_X0_key b11 x_1 x_5) (fun x10 => mo_bd (m_F_X5_labelOf x10) (fun x12 => mo_bd mo_ret (fun x13 => mo_bd (mo_gi (by decide)) (fun x14 => mo_if (mo_bd (mo_gi (by decide)) (fun x16 => mo_if (m_F_X6_gather_115 a0 ih20 h_ih20 x_1 r_2 r_3 r_4 x_5) (m_F_X6_gather_78 a0 ih20 h_ih20 x_1 r_2 r_3 r_4 x_5 x10 x13))) (m_F_X6_gather_78 a0 ih20 h_ih20 x_1 r_2 r_3 r_4 x_5 x10 x13)))))))))))))
theorem m_F_X6_gather_20 (a0 : Nat) : ∀ (n : Nat) (s : Int32 × (Option Nat) × (Option Nat) × (Option Nat) × Int32), z_Mo (F_X6_gather_20 a0 n s) :=
  mo_fix (fun ih hih s => m_B_X6_gather_20 a0 (fun y0 y1 y2 y3 y4 => ih (y0, y1, y2, y3, y4)) (fun y0 y1 y2 y3 y4 => hih (y0, y1, y2, y3, y4)) s.1 s.2.1 s.2.2.1 s.2.2.2.1 s.2.2.2.2)
theorem m_F_X6_gather (a0 : Nat) (p0 : Int32) (q1 : Option Nat) (q2 : Option Nat) : z_Mo (F_X6_gather a0 p0 q1 q2) :=
  mo_bd (mo_pf (by decide)) (fun _ => mo_bd (mo_ga (by decide)) (fun r1 => mo_if (mo_ret) (m_F_X6_gather_20 a0 z_N (p0, q1, q2, r1, 0))))
theorem m_F_X6_giveArc_94 (a0 : Nat) (ih8 : Int32 → Option Nat → Option Nat → Option Nat → Int32 → zMn Unit) (h_ih8 : ∀ (y0 : Int32) (y1 : Option Nat) (y2 : Option Nat) (y3 : Option Nat) (y4 : Int32), z_Mo (ih8 y0 y1 y2 y3 y4)) (ih46 : Int32 → Option Nat → Option Nat → Option Nat → Int32 → Int32 → zMn Unit) (h_ih46 : ∀ (y0 : Int32) (y1 : Option Nat) (y2 : Option Nat) (y3 : Option Nat) (y4 : Int32) (y5 : Int32), z_Mo (ih46 y0 y1 y2 y3 y4 y5)) (x_1 : Int32) (r_2 : Option Nat) (r_3 : Option Nat) (r_4 : Option Nat) (x_5 : Int32) (x_6 : Int32) : z_Mo (F_X6_giveArc_94 a0 ih8 ih46 x_1 r_2 r_3 r_4 x_5 x_6) :=
  h_ih46 x_1 r_2 r_3 r_4 x_5 (x_6 + 1)
theorem m_B_X6_giveArc_46 (a0 : Nat) (ih8 : Int32 → Option Nat → Option Nat → Option Nat → Int32 → zMn Unit) (h_ih8 : ∀ (y0 : Int32) (y1 : Option Nat) (y2 : Option Nat) (y3 : Option Nat) (y4 : Int32), z_Mo (ih8 y0 y1 y2 y3 y4)) (ih46 : Int32 → Option Nat → Option Nat → Option Nat → Int32 → Int32 → zMn Unit) (h_ih46 : ∀ (y0 : Int32) (y1 : Option Nat) (y2 : Option Nat) (y3 : Option Nat) (y4 : Int32) (y5 : Int32), z_Mo (ih46 y0 y1 y2 y3 y4 y5)) (x_1 : Int32) (r_2 : Option Nat) (r_3 : Option Nat) (r_4 : Option Nat) (x_5 : Int32) (x_6 : Int32) : z_Mo (B_X6_giveArc_46 a0 ih8 ih46 x_1 r_2 r_3 r_4 x_5 x_6) :=
  mo_bd mo_len (fun n10 => mo_if (h_ih8 x_1 r_2 r_3 r_4 (x_5 + 1)) (mo_if (m_F_X6_giveArc_94 a0 ih8 h_ih8 ih46 h_ih46 x_1 r_2 r_3 r_4 x_5 x_6) (mo_bd (mo_ga (by decide)) (fun r13 => mo_bd mo_li (fun x14 => mo_bd mo_la (fun r15 => mo_bd (mo_gi (by decide)) (fun x16 => mo_bd (m_F_X1_ofOne x_6 x16) (fun x17 => mo_bd (mo_ga (by decide)) (fun r18 => mo_bd mo_li (fun x19 => mo_bd (mo_rc (by decide)) (fun b20 => mo_bd (m_F_X2_addTo b20 (x14 + x17) x19) (fun _ => m_F_X6_giveArc_94 a0 ih8 h_ih8 ih46 h_ih46 x_1 r_2 r_3 r_4 x_5 x_6))))))))))))
theorem m_F_X6_giveArc_46 (a0 : Nat) (ih8 : Int32 → Option Nat → Option Nat → Option Nat → Int32 → zMn Unit) (h_ih8 : ∀ (y0 : Int32) (y1 : Option Nat) (y2 : Option Nat) (y3 : Option Nat) (y4 : Int32), z_Mo (ih8 y0 y1 y2 y3 y4)) : ∀ (n : Nat) (s : Int32 × (Option Nat) × (Option Nat) × (Option Nat) × Int32 × Int32), z_Mo (F_X6_giveArc_46 a0 ih8 n s) :=
  mo_fix (fun ih hih s => m_B_X6_giveArc_46 a0 ih8 h_ih8 (fun y0 y1 y2 y3 y4 y5 => ih (y0, y1, y2, y3, y4, y5)) (fun y0 y1 y2 y3 y4 y5 => hih (y0, y1, y2, y3, y4, y5)) s.1 s.2.1 s.2.2.1 s.2.2.2.1 s.2.2.2.2.1 s.2.2.2.2.2)
theorem m_F_X6_giveArc_43 (a0 : Nat) (ih8 : Int32 → Option Nat → Option Nat → Option Nat → Int32 → zMn Unit) (h_ih8 : ∀ (y0 : Int32) (y1 : Option Nat) (y2 : Option Nat) (y3 : Option Nat) (y4 : Int32), z_Mo (ih8 y0 y1 y2 y3 y4)) (x_1 : Int32) (r_2 : Option Nat) (r_3 : Option Nat) (r_4 : Option Nat) (x_5 : Int32) : z_Mo (F_X6_giveArc_43 a0 ih8 x_1 r_2 r_3 r_4 x_5) :=
  m_F_X6_giveArc_46 a0 ih8 h_ih8 z_N (x_1, r_2, r_3, r_4, x_5, 0)
theorem m_B_X6_giveArc_8 (a0 : Nat) (ih8 : Int32 → Option Nat → Option Nat → Option Nat → Int32 → zMn Unit) (h_ih8 : ∀ (y0 : Int32) (y1 : Option Nat) (y2 : Option Nat) (y3 : Option Nat) (y4 : Int32), z_Mo (ih8 y0 y1 y2 y3 y4)) (x_1 : Int32) (r_2 : Option Nat) (r_3 : Option Nat) (r_4 : Option Nat) (x_5 : Int32) : z_Mo (B_X6_giveArc_8 a0 ih8 x_1 r_2 r_3 r_4 x_5) :=
  mo_bd (mo_gi (by decide)) (fun x2 => mo_if (mo_ret) (mo_if (m_F_X6_giveArc_43 a0 ih8 h_ih8 x_1 r_2 r_3 r_4 x_5) (mo_bd (mo_ga (by decide)) (fun r5 => mo_bd mo_li (fun x6 => mo_bd (mo_ga (by decide)) (fun r7 => mo_bd mo_li (fun x8 => mo_bd (mo_rc (by decide)) (fun b9 => mo_bd (m_F_X2_addTo b9 x6 x8) (fun _ => m_F_X6_giveArc_43 a0 ih8 h_ih8 x_1 r_2 r_3 r_4 x_5)))))))))
theorem m_F_X6_giveArc_8 (a0 : Nat) : ∀ (n : Nat) (s : Int32 × (Option Nat) × (Option Nat) × (Option Nat) × Int32), z_Mo (F_X6_giveArc_8 a0 n s) :=
  mo_fix (fun ih hih s => m_B_X6_giveArc_8 a0 (fun y0 y1 y2 y3 y4 => ih (y0, y1, y2, y3, y4)) (fun y0 y1 y2 y3 y4 => hih (y0, y1, y2, y3, y4)) s.1 s.2.1 s.2.2.1 s.2.2.2.1 s.2.2.2.2)
theorem m_F_X6_giveArc (a0 : Nat) (p0 : Int32) (q1 : Option Nat) (q2 : Option Nat) (q3 : Option Nat) : z_Mo (F_X6_giveArc a0 p0 q1 q2 q3) :=
  mo_bd (mo_rc (by decide)) (fun b1 => mo_bd (m_F_X2_clear b1) (fun _ => m_F_X6_giveArc_8 a0 z_N (p0, q1, q2, q3, 0)))
theorem m_F_X6_sumAllowed_39 (ih4 : Option Nat → Option Nat → Int32 → Int32 → zMn Int32) (h_ih4 : ∀ (y0 : Option Nat) (y1 : Option Nat) (y2 : Int32) (y3 : Int32), z_Mo (ih4 y0 y1 y2 y3)) (r_0 : Option Nat) (r_1 : Option Nat) (x_2 : Int32) (x_3 : Int32) : z_Mo (F_X6_sumAllowed_39 ih4 r_0 r_1 x_2 x_3) :=
  h_ih4 r_0 r_1 x_2 (x_3 + 1)
theorem m_B_X6_sumAllowed_4 (ih4 : Option Nat → Option Nat → Int32 → Int32 → zMn Int32) (h_ih4 : ∀ (y0 : Option Nat) (y1 : Option Nat) (y2 : Int32) (y3 : Int32), z_Mo (ih4 y0 y1 y2 y3)) (r_0 : Option Nat) (r_1 : Option Nat) (x_2 : Int32) (x_3 : Int32) : z_Mo (B_X6_sumAllowed_4 ih4 r_0 r_1 x_2 x_3) :=
  mo_bd mo_len (fun n1 => mo_if (mo_ret) (mo_bd mo_li (fun x3 => mo_bd (mo_rc (by decide)) (fun b5 => mo_bd (m_F_X2_spotOf b5 x3) (fun x4 => mo_if (m_F_X6_sumAllowed_39 ih4 h_ih4 r_0 r_1 x_2 x_3) (mo_bd (mo_ga (by decide)) (fun r7 => mo_bd mo_li (fun x8 => mo_bd mo_ret (fun x9 => m_F_X6_sumAllowed_39 ih4 h_ih4 r_0 r_1 x9 x_3)))))))))
theorem m_F_X6_sumAllowed_4  : ∀ (n : Nat) (s : (Option Nat) × (Option Nat) × Int32 × Int32), z_Mo (F_X6_sumAllowed_4 n s) :=
  mo_fix (fun ih hih s => m_B_X6_sumAllowed_4  (fun y0 y1 y2 y3 => ih (y0, y1, y2, y3)) (fun y0 y1 y2 y3 => hih (y0, y1, y2, y3)) s.1 s.2.1 s.2.2.1 s.2.2.2)
theorem m_F_X6_sumAllowed (q0 : Option Nat) (q1 : Option Nat) : z_Mo (F_X6_sumAllowed q0 q1) :=
  m_F_X6_sumAllowed_4 z_N (q0, q1, 0, 0)
theorem m_F_X6_countWays_102 (a0 : Nat) (r_4 : Option Nat) (r_5 : Option Nat) : z_Mo (F_X6_countWays_102 a0 r_4 r_5) :=
  mo_bd (mo_ga (by decide)) (fun r16 => mo_bd (m_F_X6_sumAllowed r16 r_5) (fun x17 => mo_ret))
theorem m_B_X6_countWays_47 (a0 : Nat) (ih47 : Option Nat → Option Nat → Option Nat → Int32 → zMn Int32) (h_ih47 : ∀ (y0 : Option Nat) (y1 : Option Nat) (y2 : Option Nat) (y3 : Int32), z_Mo (ih47 y0 y1 y2 y3)) (r_4 : Option Nat) (r_5 : Option Nat) (r_6 : Option Nat) (x_7 : Int32) : z_Mo (B_X6_countWays_47 a0 ih47 r_4 r_5 r_6 x_7) :=
  mo_bd (mo_gi (by decide)) (fun x8 => mo_if (m_F_X6_countWays_102 a0 r_4 r_5) (mo_bd (mo_gi (by decide)) (fun x10 => mo_if (m_F_X6_countWays_102 a0 r_4 r_5) (mo_bd (mo_ga (by decide)) (fun r12 => mo_bd mo_li (fun x13 => mo_bd (mo_ga (by decide)) (fun r14 => mo_bd (mo_rc (by decide)) (fun b15 => mo_bd (m_F_X6_giveArc b15 x13 r14 r_5 r_6) (fun _ => h_ih47 r_4 r_6 r_5 (x_7 + 1))))))))))
theorem m_F_X6_countWays_47 (a0 : Nat) : ∀ (n : Nat) (s : (Option Nat) × (Option Nat) × (Option Nat) × Int32), z_Mo (F_X6_countWays_47 a0 n s) :=
  mo_fix (fun ih hih s => m_B_X6_countWays_47 a0 (fun y0 y1 y2 y3 => ih (y0, y1, y2, y3)) (fun y0 y1 y2 y3 => hih (y0, y1, y2, y3)) s.1 s.2.1 s.2.2.1 s.2.2.2)
theorem m_F_X6_countWays (a0 : Nat) (p0 : Int32) (q1 : Option Nat) (q2 : Option Nat) : z_Mo (F_X6_countWays a0 p0 q1 q2) :=
  mo_bd (mo_ga (by decide)) (fun r1 => mo_if (mo_ret) (mo_bd (mo_rc (by decide)) (fun b3 => mo_bd (m_F_X6_gather b3 p0 q1 q2) (fun _ => mo_bd (mo_ga (by decide)) (fun r4 => mo_bd (mo_ga (by decide)) (fun r5 => mo_bd (mo_rc (by decide)) (fun b6 => mo_bd (m_F_X2_clear b6) (fun _ => mo_bd (mo_rc (by decide)) (fun b7 => mo_bd (m_F_X2_addTo b7 0 1) (fun _ => m_F_X6_countWays_47 a0 z_N (r1, r4, r5, 0)))))))))))
theorem m_F_X6_matching_44 (a0 : Nat) (ih6 : Int32 → Option Nat → Option Nat → Int32 → Int32 → zMn Int32) (h_ih6 : ∀ (y0 : Int32) (y1 : Option Nat) (y2 : Option Nat) (y3 : Int32) (y4 : Int32), z_Mo (ih6 y0 y1 y2 y3 y4)) (x_1 : Int32) (r_2 : Option Nat) (r_3 : Option Nat) (x_4 : Int32) (x_5 : Int32) : z_Mo (F_X6_matching_44 a0 ih6 x_1 r_2 r_3 x_4 x_5) :=
  h_ih6 x_1 r_2 r_3 x_4 (x_5 + 1)
theorem m_B_X6_matching_6 (a0 : Nat) (ih6 : Int32 → Option Nat → Option Nat → Int32 → Int32 → zMn Int32) (h_ih6 : ∀ (y0 : Int32) (y1 : Option Nat) (y2 : Option Nat) (y3 : Int32) (y4 : Int32), z_Mo (ih6 y0 y1 y2 y3 y4)) (x_1 : Int32) (r_2 : Option Nat) (r_3 : Option Nat) (x_4 : Int32) (x_5 : Int32) : z_Mo (B_X6_matching_6 a0 ih6 x_1 r_2 r_3 x_4 x_5) :=
  mo_if (mo_ret) (mo_bd mo_ret (fun x2 => mo_if (m_F_X6_matching_44 a0 ih6 h_ih6 x_1 r_2 r_3 x_4 x_5) (mo_bd (mo_rc (by decide)) (fun b5 => mo_bd (m_F_X6_countWays b5 x_5 r_2 r_3) (fun x4 => mo_if (m_F_X6_matching_44 a0 ih6 h_ih6 x_1 r_2 r_3 x_4 x_5) (mo_bd mo_ret (fun x7 => m_F_X6_matching_44 a0 ih6 h_ih6 x_1 r_2 r_3 x7 x_5)))))))
theorem m_F_X6_matching_6 (a0 : Nat) : ∀ (n : Nat) (s : Int32 × (Option Nat) × (Option Nat) × Int32 × Int32), z_Mo (F_X6_matching_6 a0 n s) :=
  mo_fix (fun ih hih s => m_B_X6_matching_6 a0 (fun y0 y1 y2 y3 y4 => ih (y0, y1, y2, y3, y4)) (fun y0 y1 y2 y3 y4 => hih (y0, y1, y2, y3, y4)) s.1 s.2.1 s.2.2.1 s.2.2.2.1 s.2.2.2.2)
theorem m_F_X6_matching (a0 : Nat) (p0 : Int32) (q1 : Option Nat) (q2 : Option Nat) : z_Mo (F_X6_matching a0 p0 q1 q2) :=
  m_F_X6_matching_6 a0 z_N (p0, q1, q2, 0, 0)
theorem m_F_X9_combined (a0 : Nat) (q0 : Option Nat) : z_Mo (F_X9_combined a0 q0) :=
  mo_bd (mo_gi (by decide)) (fun x1 => mo_if (mo_bd (mo_ga (by decide)) (fun r3 => mo_bd (mo_gi (by decide)) (fun x4 => mo_bd mo_li (fun x5 => mo_bd (mo_ga (by decide)) (fun r6 => mo_bd (mo_gi (by decide)) (fun x7 => mo_bd mo_li (fun x8 => mo_ret))))))) (mo_if (mo_bd (mo_ga (by decide)) (fun r10 => mo_bd (mo_gi (by decide)) (fun x11 => mo_bd mo_li (fun x12 => mo_bd (mo_ga (by decide)) (fun r13 => mo_bd (mo_gi (by decide)) (fun x14 => mo_bd mo_li (fun x15 => mo_ret))))))) (mo_if (mo_bd (mo_ga (by decide)) (fun r17 => mo_bd (mo_gi (by decide)) (fun x18 => mo_bd mo_li (fun x19 => mo_ret)))) (mo_if (mo_bd (mo_gi (by decide)) (fun x21 => mo_ret)) (mo_ret)))))
theorem m_F_X9_thoseThatReferTo_34 (a0 : Nat) (ih4 : Int32 → Int32 → Int32 → zMn Int32) (h_ih4 : ∀ (y0 : Int32) (y1 : Int32) (y2 : Int32), z_Mo (ih4 y0 y1 y2)) (x_1 : Int32) (x_3 : Int32) (s_0 : Int32) (s_1 : Int32) : z_Mo (F_X9_thoseThatReferTo_34 a0 ih4 x_1 x_3 s_0 s_1) :=
  mo_bd mo_ret (fun x6 => h_ih4 x_1 x6 (x_3 + 1))
theorem m_B_X9_thoseThatReferTo_4 (a0 : Nat) (ih4 : Int32 → Int32 → Int32 → zMn Int32) (h_ih4 : ∀ (y0 : Int32) (y1 : Int32) (y2 : Int32), z_Mo (ih4 y0 y1 y2)) (x_1 : Int32) (x_2 : Int32) (x_3 : Int32) : z_Mo (B_X9_thoseThatReferTo_4 a0 ih4 x_1 x_2 x_3) :=
  mo_if (mo_ret) (mo_bd (mo_ga (by decide)) (fun r2 => mo_bd mo_la (fun r3 => mo_bd (mo_gi (by decide)) (fun x4 => mo_if (m_F_X9_thoseThatReferTo_34 a0 ih4 h_ih4 x_1 x_3 x_2 0) (m_F_X9_thoseThatReferTo_34 a0 ih4 h_ih4 x_1 x_3 x_2 ((1 : Int32) <<< (x_3 &&& 31)))))))
theorem m_F_X9_thoseThatReferTo_4 (a0 : Nat) : ∀ (n : Nat) (s : Int32 × Int32 × Int32), z_Mo (F_X9_thoseThatReferTo_4 a0 n s) :=
  mo_fix (fun ih hih s => m_B_X9_thoseThatReferTo_4 a0 (fun y0 y1 y2 => ih (y0, y1, y2)) (fun y0 y1 y2 => hih (y0, y1, y2)) s.1 s.2.1 s.2.2)
theorem m_F_X9_thoseThatReferTo (a0 : Nat) (p0 : Int32) : z_Mo (F_X9_thoseThatReferTo a0 p0) :=
  m_F_X9_thoseThatReferTo_4 a0 z_N (p0, 0, 0)
theorem m_F_X9_settleGroup_146 (a0 : Nat) : z_Mo (F_X9_settleGroup_146 a0) :=
  mo_ret
theorem m_F_X9_settleGroup_140 (a0 : Nat) (ih34 : Int32 → Int32 → Int32 → zMn Unit) (h_ih34 : ∀ (y0 : Int32) (y1 : Int32) (y2 : Int32), z_Mo (ih34 y0 y1 y2)) (x_1 : Int32) (x_2 : Int32) (x_3 : Int32) : z_Mo (F_X9_settleGroup_140 a0 ih34 x_1 x_2 x_3) :=
  h_ih34 x_1 x_2 (x_3 + 1)
theorem m_F_X9_settleGroup_115 (a0 : Nat) (ih34 : Int32 → Int32 → Int32 → zMn Unit) (h_ih34 : ∀ (y0 : Int32) (y1 : Int32) (y2 : Int32), z_Mo (ih34 y0 y1 y2)) (x_1 : Int32) (x_2 : Int32) (x_3 : Int32) (x_4 : Int32) (x_6 : Int32) (t_0 : Option Nat) (s_1 : Int32) (s_2 : Int32) (s_3 : Int32) : z_Mo (F_X9_settleGroup_115 a0 ih34 x_1 x_2 x_3 x_4 x_6 t_0 s_1 s_2 s_3) :=
  mo_bd mo_si (fun _ => mo_bd (mo_ga (by decide)) (fun r22 => mo_bd mo_li (fun x23 => mo_if (m_F_X9_settleGroup_140 a0 ih34 h_ih34 x_1 x_2 x_3) (mo_bd (mo_rc (by decide)) (fun b26 => mo_bd (m_F_X9_thoseThatReferTo b26 x_4) (fun x25 => mo_bd mo_ret (fun x27 => m_F_X9_settleGroup_140 a0 ih34 h_ih34 x_1 x27 x_3)))))))
theorem m_B_X9_settleGroup_34 (a0 : Nat) (ih34 : Int32 → Int32 → Int32 → zMn Unit) (h_ih34 : ∀ (y0 : Int32) (y1 : Int32) (y2 : Int32), z_Mo (ih34 y0 y1 y2)) (x_1 : Int32) (x_2 : Int32) (x_3 : Int32) : z_Mo (B_X9_settleGroup_34 a0 ih34 x_1 x_2 x_3) :=
  mo_if (m_F_X9_settleGroup_146 a0) (mo_if (m_F_X9_settleGroup_146 a0) (mo_bd (m_F_J6_numberOfTrailingZeros_0f7a4 x_2) (fun x6 => mo_bd mo_ret (fun x7 => mo_bd (mo_ga (by decide)) (fun r8 => mo_bd mo_la (fun r9 => mo_bd (mo_ga (by decide)) (fun r10 => mo_bd mo_li (fun x11 => mo_bd (mo_ga (by decide)) (fun r12 => mo_bd mo_li (fun x13 => mo_bd (mo_gi (by decide)) (fun x14 => mo_if (mo_bd (mo_ga (by decide)) (fun r18 => mo_bd (mo_ga (by decide)) (fun r19 => mo_bd (mo_rc (by decide)) (fun b21 => mo_bd (m_F_X6_matching b21 x11 r9 r19) (fun x20 => m_F_X9_settleGroup_115 a0 ih34 h_ih34 x_1 x7 x_3 x6 x11 r12 x6 x13 x20))))) (mo_bd (mo_rc (by decide)) (fun b17 => mo_bd (m_F_X9_combined b17 r9) (fun x16 => m_F_X9_settleGroup_115 a0 ih34 h_ih34 x_1 x7 x_3 x6 x11 r12 x6 x13 x16))))))))))))))
theorem m_F_X9_settleGroup_34 (a0 : Nat) : ∀ (n : Nat) (s : Int32 × Int32 × Int32), z_Mo (F_X9_settleGroup_34 a0 n s) :=
  mo_fix (fun ih hih s => m_B_X9_settleGroup_34 a0 (fun y0 y1 y2 => ih (y0, y1, y2)) (fun y0 y1 y2 => hih (y0, y1, y2)) s.1 s.2.1 s.2.2)
theorem m_F_X9_settleGroup_24 (a0 : Nat) (ih2 : Int32 → Int32 → zMn Unit) (h_ih2 : ∀ (y0 : Int32) (y1 : Int32), z_Mo (ih2 y0 y1)) (x_1 : Int32) (x_2 : Int32) : z_Mo (F_X9_settleGroup_24 a0 ih2 x_1 x_2) :=
  h_ih2 x_1 (x_2 + 1)
theorem m_B_X9_settleGroup_2 (a0 : Nat) (ih2 : Int32 → Int32 → zMn Unit) (h_ih2 : ∀ (y0 : Int32) (y1 : Int32), z_Mo (ih2 y0 y1)) (x_1 : Int32) (x_2 : Int32) : z_Mo (B_X9_settleGroup_2 a0 ih2 x_1 x_2) :=
  mo_if (m_F_X9_settleGroup_34 a0 z_N (x_1, x_1, 0)) (mo_if (m_F_X9_settleGroup_24 a0 ih2 h_ih2 x_1 x_2) (mo_bd (mo_ga (by decide)) (fun r3 => mo_bd mo_si (fun _ => m_F_X9_settleGroup_24 a0 ih2 h_ih2 x_1 x_2))))
theorem m_F_X9_settleGroup_2 (a0 : Nat) : ∀ (n : Nat) (s : Int32 × Int32), z_Mo (F_X9_settleGroup_2 a0 n s) :=
  mo_fix (fun ih hih s => m_B_X9_settleGroup_2 a0 (fun y0 y1 => ih (y0, y1)) (fun y0 y1 => hih (y0, y1)) s.1 s.2)
theorem m_F_X9_settleGroup (a0 : Nat) (p0 : Int32) : z_Mo (F_X9_settleGroup a0 p0) :=
  m_F_X9_settleGroup_2 a0 z_N (p0, 0)
theorem m_F_X9_settled_66 (a0 : Nat) (ih25 : Int32 → zMn Int32) (h_ih25 : ∀ (y0 : Int32), z_Mo (ih25 y0)) (ih35 : Int32 → Int32 → Int32 → zMn Int32) (h_ih35 : ∀ (y0 : Int32) (y1 : Int32) (y2 : Int32), z_Mo (ih35 y0 y1 y2)) (x_1 : Int32) (x_3 : Int32) (s_0 : Int32) (s_1 : Int32) : z_Mo (F_X9_settled_66 a0 ih25 ih35 x_1 x_3 s_0 s_1) :=
  mo_bd mo_ret (fun x13 => h_ih35 x_1 x13 (x_3 + 1))
theorem m_B_X9_settled_35 (a0 : Nat) (ih25 : Int32 → zMn Int32) (h_ih25 : ∀ (y0 : Int32), z_Mo (ih25 y0)) (ih35 : Int32 → Int32 → Int32 → zMn Int32) (h_ih35 : ∀ (y0 : Int32) (y1 : Int32) (y2 : Int32), z_Mo (ih35 y0 y1 y2)) (x_1 : Int32) (x_2 : Int32) (x_3 : Int32) : z_Mo (B_X9_settled_35 a0 ih25 ih35 x_1 x_2 x_3) :=
  mo_if (mo_bd (mo_rc (by decide)) (fun b8 => mo_bd (m_F_X9_settleGroup b8 x_2) (fun _ => h_ih25 (x_1 + 1)))) (mo_bd (mo_ga (by decide)) (fun r9 => mo_bd mo_li (fun x10 => mo_bd (m_F_J6_bitCount_0f7a4 (x10 ||| ((1 : Int32) <<< (x_3 &&& 31)))) (fun x11 => mo_if (m_F_X9_settled_66 a0 ih25 h_ih25 ih35 h_ih35 x_1 x_3 x_2 ((1 : Int32) <<< (x_3 &&& 31))) (m_F_X9_settled_66 a0 ih25 h_ih25 ih35 h_ih35 x_1 x_3 x_2 0)))))
theorem m_F_X9_settled_35 (a0 : Nat) (ih25 : Int32 → zMn Int32) (h_ih25 : ∀ (y0 : Int32), z_Mo (ih25 y0)) : ∀ (n : Nat) (s : Int32 × Int32 × Int32), z_Mo (F_X9_settled_35 a0 ih25 n s) :=
  mo_fix (fun ih hih s => m_B_X9_settled_35 a0 ih25 h_ih25 (fun y0 y1 y2 => ih (y0, y1, y2)) (fun y0 y1 y2 => hih (y0, y1, y2)) s.1 s.2.1 s.2.2)
theorem m_B_X9_settled_25 (a0 : Nat) (ih25 : Int32 → zMn Int32) (h_ih25 : ∀ (y0 : Int32), z_Mo (ih25 y0)) (x_1 : Int32) : z_Mo (B_X9_settled_25 a0 ih25 x_1) :=
  mo_if (mo_rb) (m_F_X9_settled_35 a0 ih25 h_ih25 z_N (x_1, 0, 0))
theorem m_F_X9_settled_25 (a0 : Nat) : ∀ (n : Nat) (s : Int32), z_Mo (F_X9_settled_25 a0 n s) :=
  mo_fix (fun ih hih s => m_B_X9_settled_25 a0 (fun y0 => ih (y0)) (fun y0 => hih (y0)) s)
theorem m_F_X9_settled (a0 : Nat) : z_Mo (F_X9_settled a0) :=
  mo_bd (mo_rc (by decide)) (fun b2 => mo_bd (m_F_X9_leastWrong b2) (fun x1 => mo_if (mo_bd (mo_gi (by decide)) (fun x4 => mo_if (mo_rb) (mo_bd (mo_pf (by decide)) (fun _ => m_F_X9_settled_25 a0 z_N (1))))) (mo_rb)))
theorem m_F_X10_has_44 (a0 : Nat) (s_0 : Int32) : z_Mo (F_X10_has_44 a0 s_0) :=
  mo_ret
theorem m_F_X10_has_14 (a0 : Nat) : z_Mo (F_X10_has_14 a0) :=
  mo_ret
theorem m_F_X10_has (a0 : Nat) (p0 : Int32) (p1 : Int32) : z_Mo (F_X10_has a0 p0 p1) :=
  mo_bd (m_F_X10_isNode p0) (fun x1 => mo_if (m_F_X10_has_14 a0) (mo_bd (m_F_X10_isShape p1) (fun x3 => mo_if (m_F_X10_has_14 a0) (mo_bd (mo_ga (by decide)) (fun r5 => mo_bd (mo_rc (by decide)) (fun b7 => mo_bd (m_F_X9_settled b7) (fun x6 => mo_if (m_F_X10_has_44 a0 ((-3))) (mo_bd (mo_ga (by decide)) (fun r9 => mo_bd (mo_ga (by decide)) (fun r10 => mo_bd mo_li (fun x11 => m_F_X10_has_44 a0 ((x11 >>> (p0 &&& 31)) &&& 1))))))))))))
theorem m_F_X2_init (a0 : Nat) : z_Mo (F_X2_init a0) :=
  mo_bd (mo_nwa (by decide)) (fun a1 => mo_bd (mo_pf (by decide)) (fun _ => mo_bd (mo_nwa (by decide)) (fun a2 => mo_bd (mo_pf (by decide)) (fun _ => mo_bd (mo_nwa (by decide)) (fun a3 => mo_bd (mo_pf (by decide)) (fun _ => mo_ret))))))
theorem m_F_X4_init (a0 : Nat) (q0 : Option Nat) : z_Mo (F_X4_init a0 q0) :=
  mo_bd (mo_nwa (by decide)) (fun a1 => mo_bd (mo_pf (by decide)) (fun _ => mo_bd (mo_pf (by decide)) (fun _ => mo_ret)))
theorem m_F_X0_init (a0 : Nat) : z_Mo (F_X0_init a0) :=
  mo_bd (mo_nwa (by decide)) (fun a1 => mo_bd (mo_pf (by decide)) (fun _ => mo_bd (mo_nwa (by decide)) (fun a2 => mo_bd (mo_pf (by decide)) (fun _ => mo_ret))))
theorem m_F_X5_init (a0 : Nat) : z_Mo (F_X5_init a0) :=
  mo_bd (mo_nwo (by decide)) (fun a1 => mo_bd (m_F_X0_init a1) (fun _ => mo_bd (mo_pf (by decide)) (fun _ => mo_bd (mo_nwo (by decide)) (fun a2 => mo_bd (m_F_X0_init a2) (fun _ => mo_bd (mo_pf (by decide)) (fun _ => mo_ret))))))
theorem m_F_X6_init (a0 : Nat) (q0 : Option Nat) (q1 : Option Nat) (q2 : Option Nat) : z_Mo (F_X6_init a0 q0 q1 q2) :=
  mo_bd (mo_nwa (by decide)) (fun a1 => mo_bd (mo_pf (by decide)) (fun _ => mo_bd (mo_pf (by decide)) (fun _ => mo_bd (mo_pf (by decide)) (fun _ => mo_bd (mo_pf (by decide)) (fun _ => mo_ret)))))
theorem m_F_X8_init (a0 : Nat) : z_Mo (F_X8_init a0) :=
  mo_bd (mo_pf (by decide)) (fun _ => mo_ret)
theorem m_F_X9_init (a0 : Nat) (q0 : Option Nat) (q1 : Option Nat) : z_Mo (F_X9_init a0 q0 q1) :=
  mo_bd (mo_nwa (by decide)) (fun a1 => mo_bd (mo_pf (by decide)) (fun _ => mo_bd (mo_nwa (by decide)) (fun a2 => mo_bd (mo_pf (by decide)) (fun _ => mo_bd (mo_pf (by decide)) (fun _ => mo_bd (mo_pf (by decide)) (fun _ => mo_bd (mo_pf (by decide)) (fun _ => mo_bd (mo_pf (by decide)) (fun _ => mo_bd (mo_pf (by decide)) (fun _ => mo_ret)))))))))
theorem m_B_X10_init_46 (a0 : Nat) (ih46 : Option Nat → Int32 → zMn Unit) (h_ih46 : ∀ (y0 : Option Nat) (y1 : Int32), z_Mo (ih46 y0 y1)) (r_1 : Option Nat) (x_2 : Int32) : z_Mo (B_X10_init_46 a0 ih46 r_1 x_2) :=
  mo_if (mo_bd (mo_nwo (by decide)) (fun a6 => mo_bd (mo_ga (by decide)) (fun r7 => mo_bd (mo_nwo (by decide)) (fun a8 => mo_bd (m_F_X2_init a8) (fun _ => mo_bd (m_F_X6_init a6 r7 r_1 ((some a8))) (fun _ => mo_bd (mo_pf (by decide)) (fun _ => mo_bd (mo_nwo (by decide)) (fun a9 => mo_bd (mo_ga (by decide)) (fun r10 => mo_bd (mo_ga (by decide)) (fun r11 => mo_bd (m_F_X9_init a9 r10 r11) (fun _ => mo_bd (mo_pf (by decide)) (fun _ => mo_ret)))))))))))) (mo_bd (mo_ga (by decide)) (fun r12 => mo_bd (mo_nwo (by decide)) (fun a13 => mo_bd (m_F_X8_init a13) (fun _ => mo_bd mo_sa (fun _ => h_ih46 r_1 (x_2 + 1))))))
theorem m_F_X10_init_46 (a0 : Nat) : ∀ (n : Nat) (s : (Option Nat) × Int32), z_Mo (F_X10_init_46 a0 n s) :=
  mo_fix (fun ih hih s => m_B_X10_init_46 a0 (fun y0 y1 => ih (y0, y1)) (fun y0 y1 => hih (y0, y1)) s.1 s.2)
theorem m_F_X10_init (a0 : Nat) : z_Mo (F_X10_init a0) :=
  mo_bd (mo_nwo (by decide)) (fun a1 => mo_bd (m_F_X2_init a1) (fun _ => mo_bd (mo_nwo (by decide)) (fun a2 => mo_bd (m_F_X5_init a2) (fun _ => mo_bd (mo_pf (by decide)) (fun _ => mo_bd (mo_nwo (by decide)) (fun a3 => mo_bd (m_F_X4_init a3 ((some a1))) (fun _ => mo_bd (mo_pf (by decide)) (fun _ => mo_bd (mo_nwa (by decide)) (fun a4 => mo_bd (mo_pf (by decide)) (fun _ => m_F_X10_init_46 a0 z_N ((some a1), 0)))))))))))
theorem m_F_X10_isBare_24 (a0 : Nat) (s_0 : Int32) : z_Mo (F_X10_isBare_24 a0 s_0) :=
  mo_rb
theorem m_F_X10_isBare_23 (a0 : Nat) : z_Mo (F_X10_isBare_23 a0) :=
  m_F_X10_isBare_24 a0 0
theorem m_F_X10_isBare (a0 : Nat) (p0 : Int32) : z_Mo (F_X10_isBare a0 p0) :=
  mo_bd (m_F_X10_isShape p0) (fun x1 => mo_if (m_F_X10_isBare_23 a0) (mo_bd (mo_ga (by decide)) (fun r3 => mo_bd mo_la (fun r4 => mo_bd (mo_gi (by decide)) (fun x5 => mo_if (m_F_X10_isBare_24 a0 1) (m_F_X10_isBare_23 a0))))))
theorem m_F_X6_countLoose_39 (a0 : Nat) (ih13 : Int32 → Int32 → zMn Int32) (h_ih13 : ∀ (y0 : Int32) (y1 : Int32), z_Mo (ih13 y0 y1)) (x_5 : Int32) (s_0 : Int32) (s_1 : Int32) : z_Mo (F_X6_countLoose_39 a0 ih13 x_5 s_0 s_1) :=
  mo_bd mo_ret (fun x7 => h_ih13 x7 (x_5 + 1))
theorem m_B_X6_countLoose_13 (a0 : Nat) (ih13 : Int32 → Int32 → zMn Int32) (h_ih13 : ∀ (y0 : Int32) (y1 : Int32), z_Mo (ih13 y0 y1)) (x_4 : Int32) (x_5 : Int32) : z_Mo (B_X6_countLoose_13 a0 ih13 x_4 x_5) :=
  mo_bd (mo_gi (by decide)) (fun x2 => mo_if (mo_ret) (mo_bd (mo_ga (by decide)) (fun r4 => mo_bd mo_li (fun x5 => mo_if (m_F_X6_countLoose_39 a0 ih13 h_ih13 x_5 x_4 1) (m_F_X6_countLoose_39 a0 ih13 h_ih13 x_5 x_4 0)))))
theorem m_F_X6_countLoose_13 (a0 : Nat) : ∀ (n : Nat) (s : Int32 × Int32), z_Mo (F_X6_countLoose_13 a0 n s) :=
  mo_fix (fun ih hih s => m_B_X6_countLoose_13 a0 (fun y0 y1 => ih (y0, y1)) (fun y0 y1 => hih (y0, y1)) s.1 s.2)
theorem m_F_X6_countLoose (a0 : Nat) (p0 : Int32) (q1 : Option Nat) (q2 : Option Nat) : z_Mo (F_X6_countLoose a0 p0 q1 q2) :=
  mo_bd (mo_rc (by decide)) (fun b1 => mo_bd (m_F_X6_gather b1 p0 q1 q2) (fun _ => m_F_X6_countLoose_13 a0 z_N (0, 0)))
theorem m_F_X10_loose_53 (a0 : Nat) (s_0 : Int32) : z_Mo (F_X10_loose_53 a0 s_0) :=
  mo_ret
theorem m_F_X10_loose_15 (a0 : Nat) : z_Mo (F_X10_loose_15 a0) :=
  mo_ret
theorem m_F_X10_loose (a0 : Nat) (p0 : Int32) (p1 : Int32) : z_Mo (F_X10_loose a0 p0 p1) :=
  mo_bd (m_F_X10_isNode p0) (fun x1 => mo_if (m_F_X10_loose_15 a0) (mo_bd (mo_rc (by decide)) (fun b4 => mo_bd (m_F_X10_isBare b4 p1) (fun x3 => mo_if (m_F_X10_loose_15 a0) (mo_bd (mo_ga (by decide)) (fun r6 => mo_bd (mo_rc (by decide)) (fun b8 => mo_bd (m_F_X9_settled b8) (fun x7 => mo_if (m_F_X10_loose_53 a0 ((-3))) (mo_bd (mo_ga (by decide)) (fun r10 => mo_bd (mo_ga (by decide)) (fun r11 => mo_bd mo_la (fun r12 => mo_bd (mo_ga (by decide)) (fun r13 => mo_bd (mo_ga (by decide)) (fun r14 => mo_bd (mo_rc (by decide)) (fun b16 => mo_bd (m_F_X6_countLoose b16 p0 r12 r14) (fun x15 => m_F_X10_loose_53 a0 x15))))))))))))))))
theorem m_F_X10_nodes_33 (a0 : Nat) (s_0 : Int32) : z_Mo (F_X10_nodes_33 a0 s_0) :=
  mo_ret
theorem m_F_X10_nodes (a0 : Nat) (p0 : Int32) : z_Mo (F_X10_nodes a0 p0) :=
  mo_bd (m_F_X10_isShape p0) (fun x1 => mo_if (mo_ret) (mo_bd (mo_ga (by decide)) (fun r3 => mo_bd (mo_rc (by decide)) (fun b5 => mo_bd (m_F_X9_settled b5) (fun x4 => mo_if (m_F_X10_nodes_33 a0 ((-3))) (mo_bd (mo_ga (by decide)) (fun r7 => mo_bd (mo_ga (by decide)) (fun r8 => mo_bd mo_li (fun x9 => m_F_X10_nodes_33 a0 x9)))))))))
theorem m_F_X8_becomeNone (a0 : Nat) : z_Mo (F_X8_becomeNone a0) :=
  mo_bd (mo_pf (by decide)) (fun _ => mo_bd (mo_pf (by decide)) (fun _ => mo_bd (mo_pf (by decide)) (fun _ => mo_bd (mo_pf (by decide)) (fun _ => mo_bd (mo_pf (by decide)) (fun _ => mo_bd (mo_pf (by decide)) (fun _ => mo_bd (mo_pf (by decide)) (fun _ => mo_ret)))))))
theorem m_F_X8_becomeBare (a0 : Nat) (q0 : Option Nat) (p1 : Int32) (p2 : Int32) : z_Mo (F_X8_becomeBare a0 q0 p1 p2) :=
  mo_bd (mo_rc (by decide)) (fun b1 => mo_bd (m_F_X8_becomeNone b1) (fun _ => mo_bd (mo_pf (by decide)) (fun _ => mo_bd (mo_pf (by decide)) (fun _ => mo_bd (mo_pf (by decide)) (fun _ => mo_bd mo_ck (fun _ => mo_bd (mo_pf (by decide)) (fun _ => mo_bd (mo_gi (by decide)) (fun x3 => mo_bd (mo_pf (by decide)) (fun _ => mo_ret)))))))))
theorem m_F_X10_setBare_23 (a0 : Nat) : z_Mo (F_X10_setBare_23 a0) :=
  mo_rb
theorem m_F_X10_setBare (a0 : Nat) (q0 : Option Nat) (p1 : Int32) (p2 : Int32) (p3 : Int32) : z_Mo (F_X10_setBare a0 q0 p1 p2 p3) :=
  mo_bd (mo_ga (by decide)) (fun r1 => mo_bd (mo_rc (by decide)) (fun b3 => mo_bd (m_F_X4_find b3 p1) (fun r2 => mo_if (m_F_X10_setBare_23 a0) (mo_bd (mo_gi (by decide)) (fun x5 => mo_if (mo_bd (mo_rc (by decide)) (fun b7 => mo_bd (m_F_X8_becomeBare b7 r2 p2 p3) (fun _ => mo_rb))) (m_F_X10_setBare_23 a0))))))
theorem m_F_X8_becomeAmong (a0 : Nat) (p0 : Int32) : z_Mo (F_X8_becomeAmong a0 p0) :=
  mo_bd (mo_rc (by decide)) (fun b1 => mo_bd (m_F_X8_becomeNone b1) (fun _ => mo_bd (mo_pf (by decide)) (fun _ => mo_bd (mo_pf (by decide)) (fun _ => mo_ret))))
theorem m_F_X8_becomeNot (a0 : Nat) (p0 : Int32) : z_Mo (F_X8_becomeNot a0 p0) :=
  mo_bd (mo_rc (by decide)) (fun b1 => mo_bd (m_F_X8_becomeNone b1) (fun _ => mo_bd (mo_pf (by decide)) (fun _ => mo_bd (mo_pf (by decide)) (fun _ => mo_bd (mo_pf (by decide)) (fun _ => mo_ret)))))
theorem m_F_X8_becomePair (a0 : Nat) (p0 : Int32) (p1 : Int32) (p2 : Int32) : z_Mo (F_X8_becomePair a0 p0 p1 p2) :=
  mo_bd (mo_rc (by decide)) (fun b1 => mo_bd (m_F_X8_becomeNone b1) (fun _ => mo_bd (mo_pf (by decide)) (fun _ => mo_bd (mo_pf (by decide)) (fun _ => mo_bd (mo_pf (by decide)) (fun _ => mo_bd (mo_pf (by decide)) (fun _ => mo_ret))))))
theorem m_F_X10_setShape_85 (a0 : Nat) : z_Mo (F_X10_setShape_85 a0) :=
  mo_rb
theorem m_F_X10_setShape_66 (a0 : Nat) (t_0 : Option Nat) (t_1 : Option Nat) (s_2 : Int32) (s_3 : Int32) (s_4 : Int32) : z_Mo (F_X10_setShape_66 a0 t_0 t_1 s_2 s_3 s_4) :=
  mo_bd (mo_rc (by decide)) (fun b24 => mo_bd (m_F_X10_setBare b24 t_1 s_2 s_3 s_4) (fun x23 => mo_rb))
theorem m_F_X10_setShape (a0 : Nat) (q0 : Option Nat) (p1 : Int32) (p2 : Int32) (p3 : Int32) (p4 : Int32) : z_Mo (F_X10_setShape a0 q0 p1 p2 p3 p4) :=
  mo_if (mo_bd (mo_rc (by decide)) (fun b2 => mo_bd (m_F_X8_becomeNone b2) (fun _ => mo_rb))) (mo_if (mo_if (m_F_X10_setShape_66 a0 ((some a0)) q0 p2 (p3 &&& 255) 1) (m_F_X10_setShape_66 a0 ((some a0)) q0 p2 (p3 &&& 255) 0)) (mo_if (mo_bd (m_F_X10_isShape p2) (fun x6 => mo_if (m_F_X10_setShape_85 a0) (mo_bd (m_F_X10_isShape p3) (fun x8 => mo_if (m_F_X10_setShape_85 a0) (mo_bd (mo_rc (by decide)) (fun b10 => mo_bd (m_F_X8_becomePair b10 p1 p2 p3) (fun _ => mo_rb))))))) (mo_if (mo_bd (m_F_X10_isShape p2) (fun x12 => mo_if (m_F_X10_setShape_85 a0) (mo_bd (m_F_X10_isShape p3) (fun x14 => mo_if (m_F_X10_setShape_85 a0) (mo_bd (mo_rc (by decide)) (fun b16 => mo_bd (m_F_X8_becomePair b16 p1 p2 p3) (fun _ => mo_rb))))))) (mo_if (mo_bd (m_F_X10_isShape p2) (fun x18 => mo_if (mo_rb) (mo_bd (mo_rc (by decide)) (fun b20 => mo_bd (m_F_X8_becomeNot b20 p2) (fun _ => mo_rb))))) (mo_if (mo_bd (mo_rc (by decide)) (fun b22 => mo_bd (m_F_X8_becomeAmong b22 (p2 &&& 65535)) (fun _ => mo_rb))) (mo_rb))))))
theorem m_F_X9_noteShapes (a0 : Nat) : z_Mo (F_X9_noteShapes a0) :=
  mo_bd (mo_pf (by decide)) (fun _ => mo_bd (mo_pf (by decide)) (fun _ => mo_ret))
theorem m_F_X10_shape_26 (a0 : Nat) : z_Mo (F_X10_shape_26 a0) :=
  mo_ret
theorem m_F_X10_shape (a0 : Nat) (p0 : Int32) (p1 : Int32) (p2 : Int32) (p3 : Int32) (p4 : Int32) : z_Mo (F_X10_shape a0 p0 p1 p2 p3 p4) :=
  mo_bd (m_F_X10_isShape p0) (fun x1 => mo_if (m_F_X10_shape_26 a0) (mo_bd (mo_ga (by decide)) (fun r3 => mo_bd mo_la (fun r4 => mo_bd (mo_rc (by decide)) (fun b6 => mo_bd (m_F_X10_setShape b6 r4 p1 p2 p3 p4) (fun x5 => mo_if (m_F_X10_shape_26 a0) (mo_bd (mo_ga (by decide)) (fun r8 => mo_bd (mo_rc (by decide)) (fun b9 => mo_bd (m_F_X9_noteShapes b9) (fun _ => mo_ret))))))))))
theorem m_F_X10_ways_53 (a0 : Nat) (s_0 : Int32) : z_Mo (F_X10_ways_53 a0 s_0) :=
  mo_ret
theorem m_F_X10_ways_15 (a0 : Nat) : z_Mo (F_X10_ways_15 a0) :=
  mo_ret
