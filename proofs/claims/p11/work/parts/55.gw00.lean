theorem w_F_J6_bitCount_0f7a4 (p0 : Int32) : z_Gw 0 0 (F_J6_bitCount_0f7a4 p0) :=
  gz_bd gw_ret (fun x1 => gz_bd gw_ret (fun x2 => gz_bd gw_ret (fun x3 => gz_bd gw_ret (fun x4 => gz_bd gw_ret (fun x5 => gw_ret)))))
theorem w_F_J6_numberOfTrailingZeros_0f7a4_74 (x_0 : Int32) (x_1 : Int32) : z_Gw 0 0 (F_J6_numberOfTrailingZeros_0f7a4_74 x_0 x_1) :=
  gw_ret
theorem w_F_J6_numberOfTrailingZeros_0f7a4_62 (x_0 : Int32) (x_1 : Int32) : z_Gw 0 0 (F_J6_numberOfTrailingZeros_0f7a4_62 x_0 x_1) :=
  gw_if (w_F_J6_numberOfTrailingZeros_0f7a4_74 x_0 x_1) (gz_bd gw_ret (fun x10 => w_F_J6_numberOfTrailingZeros_0f7a4_74 x10 (x_1 + 2)))
theorem w_F_J6_numberOfTrailingZeros_0f7a4_49 (x_0 : Int32) (x_1 : Int32) : z_Gw 0 0 (F_J6_numberOfTrailingZeros_0f7a4_49 x_0 x_1) :=
  gw_if (w_F_J6_numberOfTrailingZeros_0f7a4_62 x_0 x_1) (gz_bd gw_ret (fun x8 => w_F_J6_numberOfTrailingZeros_0f7a4_62 x8 (x_1 + 4)))
theorem w_F_J6_numberOfTrailingZeros_0f7a4_34 (x_0 : Int32) (x_1 : Int32) : z_Gw 0 0 (F_J6_numberOfTrailingZeros_0f7a4_34 x_0 x_1) :=
  gw_if (w_F_J6_numberOfTrailingZeros_0f7a4_49 x_0 x_1) (gz_bd gw_ret (fun x6 => w_F_J6_numberOfTrailingZeros_0f7a4_49 x6 (x_1 + 8)))
theorem w_F_J6_numberOfTrailingZeros_0f7a4 (p0 : Int32) : z_Gw 0 0 (F_J6_numberOfTrailingZeros_0f7a4 p0) :=
  gz_bd gw_ret (fun x1 => gw_if (gw_if (w_F_J6_numberOfTrailingZeros_0f7a4_34 x1 1) (gz_bd gw_ret (fun x4 => w_F_J6_numberOfTrailingZeros_0f7a4_34 x4 (1 + 16)))) (gw_ret))
theorem w_F_X10_isLabel_15 (s_0 : Int32) : z_Gw 0 0 (F_X10_isLabel_15 s_0) :=
  gw_rb
theorem w_F_X10_isLabel_14  : z_Gw 0 0 (F_X10_isLabel_14) :=
  w_F_X10_isLabel_15 0
theorem w_F_X10_isLabel (p0 : Int32) : z_Gw 0 0 (F_X10_isLabel p0) :=
  gw_if (w_F_X10_isLabel_14) (gw_if (w_F_X10_isLabel_14) (w_F_X10_isLabel_15 1))
theorem w_F_X10_isNode_15 (s_0 : Int32) : z_Gw 0 0 (F_X10_isNode_15 s_0) :=
  gw_rb
theorem w_F_X10_isNode_14  : z_Gw 0 0 (F_X10_isNode_14) :=
  w_F_X10_isNode_15 0
theorem w_F_X10_isNode (p0 : Int32) : z_Gw 0 0 (F_X10_isNode p0) :=
  gw_if (w_F_X10_isNode_14) (gw_if (w_F_X10_isNode_14) (w_F_X10_isNode_15 1))
theorem w_F_X0_key (a0 : Nat) (p0 : Int32) (p1 : Int32) : z_Gw 0 0 (F_X0_key a0 p0 p1) :=
  gz_bd gw_rd (fun r1 => gz_bd gw_rd (fun x2 => gw_ret))
theorem w_B_X0_indexOf_2 (a0 : Nat) (ih2 : Int32 → Int32 → Int32 → zMn Int32) (h_ih2 : ∀ (y0 : Int32) (y1 : Int32) (y2 : Int32), z_Gw 0 0 (ih2 y0 y1 y2)) (x_1 : Int32) (x_2 : Int32) (x_3 : Int32) : z_Gw 0 0 (B_X0_indexOf_2 a0 ih2 x_1 x_2 x_3) :=
  gz_bd gw_rd (fun r1 => gz_bd gw_rd (fun x2 => gw_if (gw_ret) (gz_bd gw_rd (fun b5 => gz_bd (w_F_X0_key b5 x_1 x_3) (fun x4 => gw_if (gw_ret) (h_ih2 x_1 x_2 (x_3 + 1)))))))
theorem w_F_X0_indexOf_2 (a0 : Nat) : ∀ (n : Nat) (s : Int32 × Int32 × Int32), z_Gw 0 0 (F_X0_indexOf_2 a0 n s) :=
  gw_fix (fun ih hih s => w_B_X0_indexOf_2 a0 (fun y0 y1 y2 => ih (y0, y1, y2)) (fun y0 y1 y2 => hih (y0, y1, y2)) s.1 s.2.1 s.2.2)
theorem w_F_X0_indexOf (a0 : Nat) (p0 : Int32) (p1 : Int32) : z_Gw 0 0 (F_X0_indexOf a0 p0 p1) :=
  w_F_X0_indexOf_2 a0 z_N (p0, p1, 0)
theorem w_B_X0_remove_20 (a0 : Nat) (ih20 : Int32 → Int32 → Int32 → zMn Unit) (h_ih20 : ∀ (y0 : Int32) (y1 : Int32) (y2 : Int32), z_Gw 0 0 (ih20 y0 y1 y2)) (x_1 : Int32) (x_4 : Int32) (x_5 : Int32) : z_Gw 0 0 (B_X0_remove_20 a0 ih20 x_1 x_4 x_5) :=
  gz_bd gw_rd (fun r5 => gz_bd gw_rd (fun x6 => gw_if (gz_bd gw_rd (fun r8 => gz_bd gw_rd (fun x9 => gz_bd gw_wr (fun _ => gw_ret)))) (gz_bd gw_rd (fun r10 => gz_bd gw_rd (fun r11 => gz_bd gw_rd (fun x12 => gz_bd gw_wr (fun _ => h_ih20 x_1 x_4 (x_5 + 1))))))))
theorem w_F_X0_remove_20 (a0 : Nat) : ∀ (n : Nat) (s : Int32 × Int32 × Int32), z_Gw 0 0 (F_X0_remove_20 a0 n s) :=
  gw_fix (fun ih hih s => w_B_X0_remove_20 a0 (fun y0 y1 y2 => ih (y0, y1, y2)) (fun y0 y1 y2 => hih (y0, y1, y2)) s.1 s.2.1 s.2.2)
theorem w_F_X0_remove (a0 : Nat) (p0 : Int32) (p1 : Int32) : z_Gw 0 0 (F_X0_remove a0 p0 p1) :=
  gz_bd gw_rd (fun b2 => gz_bd (w_F_X0_indexOf b2 p0 p1) (fun x1 => gw_if (gz_bd gw_ret (fun x4 => w_F_X0_remove_20 a0 z_N (p0, x4, x1))) (gw_ret)))
theorem w_F_X5_keyOf (p0 : Int32) (p1 : Int32) : z_Gw 0 0 (F_X5_keyOf p0 p1) :=
  gw_ret
theorem w_F_X5_drop (a0 : Nat) (p0 : Int32) (p1 : Int32) (p2 : Int32) : z_Gw 0 0 (F_X5_drop a0 p0 p1 p2) :=
  gz_bd (w_F_X5_keyOf p1 p2) (fun x1 => gz_bd gw_rd (fun r2 => gz_bd gw_rd (fun b4 => gz_bd (w_F_X0_indexOf b4 p0 x1) (fun x3 => gw_if (gz_bd gw_rd (fun r6 => gz_bd gw_rd (fun b7 => gz_bd (w_F_X0_remove b7 p0 x1) (fun _ => gz_bd gw_rd (fun r8 => gz_bd (w_F_X5_keyOf p1 p0) (fun x9 => gz_bd gw_rd (fun b10 => gz_bd (w_F_X0_remove b10 p2 x9) (fun _ => gz_bd gw_rd (fun x11 => gz_bd gw_wr (fun _ => gw_ret)))))))))) (gw_ret)))))
theorem w_F_X0_isFull_15 (a0 : Nat) (s_0 : Int32) : z_Gw 0 0 (F_X0_isFull_15 a0 s_0) :=
  gw_rb
theorem w_F_X0_isFull (a0 : Nat) (p0 : Int32) : z_Gw 0 0 (F_X0_isFull a0 p0) :=
  gz_bd gw_rd (fun r1 => gz_bd gw_rd (fun x2 => gw_if (w_F_X0_isFull_15 a0 0) (w_F_X0_isFull_15 a0 1)))
theorem w_F_X0_insert_64 (a0 : Nat) (x_1 : Int32) (x_2 : Int32) (x_4 : Int32) : z_Gw 0 0 (F_X0_insert_64 a0 x_1 x_2 x_4) :=
  gz_bd gw_rd (fun r15 => gz_bd gw_wr (fun _ => gz_bd gw_rd (fun r16 => gz_bd gw_rd (fun x17 => gz_bd gw_wr (fun _ => gw_ret)))))
theorem w_B_X0_insert_23 (a0 : Nat) (ih23 : Int32 → Int32 → Int32 → Int32 → zMn Unit) (h_ih23 : ∀ (y0 : Int32) (y1 : Int32) (y2 : Int32) (y3 : Int32), z_Gw 0 0 (ih23 y0 y1 y2 y3)) (x_1 : Int32) (x_2 : Int32) (x_3 : Int32) (x_4 : Int32) : z_Gw 0 0 (B_X0_insert_23 a0 ih23 x_1 x_2 x_3 x_4) :=
  gw_if (w_F_X0_insert_64 a0 x_1 x_2 x_4) (gz_bd gw_rd (fun r9 => gz_bd gw_rd (fun x10 => gw_if (w_F_X0_insert_64 a0 x_1 x_2 x_4) (gz_bd gw_rd (fun r12 => gz_bd gw_rd (fun r13 => gz_bd gw_rd (fun x14 => gz_bd gw_wr (fun _ => h_ih23 x_1 x_2 x_3 (x_4 + (-1))))))))))
theorem w_F_X0_insert_23 (a0 : Nat) : ∀ (n : Nat) (s : Int32 × Int32 × Int32 × Int32), z_Gw 0 0 (F_X0_insert_23 a0 n s) :=
  gw_fix (fun ih hih s => w_B_X0_insert_23 a0 (fun y0 y1 y2 y3 => ih (y0, y1, y2, y3)) (fun y0 y1 y2 y3 => hih (y0, y1, y2, y3)) s.1 s.2.1 s.2.2.1 s.2.2.2)
theorem w_F_X0_insert (a0 : Nat) (p0 : Int32) (p1 : Int32) : z_Gw 0 0 (F_X0_insert a0 p0 p1) :=
  gz_bd gw_rd (fun b2 => gz_bd (w_F_X0_isFull b2 p0) (fun x1 => gw_if (gz_bd gw_ret (fun x4 => gz_bd gw_rd (fun r5 => gz_bd gw_rd (fun x6 => gz_bd gw_ret (fun x7 => w_F_X0_insert_23 a0 z_N (p0, p1, x4, x7)))))) (gw_ret)))
theorem w_F_X5_put_53 (a0 : Nat) : z_Gw 0 0 (F_X5_put_53 a0) :=
  gw_ret
theorem w_F_X5_put (a0 : Nat) (p0 : Int32) (p1 : Int32) (p2 : Int32) : z_Gw 0 0 (F_X5_put a0 p0 p1 p2) :=
  gz_bd (w_F_X5_keyOf p1 p2) (fun x1 => gz_bd gw_rd (fun r2 => gz_bd gw_rd (fun b4 => gz_bd (w_F_X0_indexOf b4 p0 x1) (fun x3 => gw_if (gz_bd gw_rd (fun x6 => gw_if (w_F_X5_put_53 a0) (gz_bd gw_rd (fun r8 => gz_bd gw_rd (fun b10 => gz_bd (w_F_X0_isFull b10 p0) (fun x9 => gw_if (gz_bd gw_rd (fun r12 => gz_bd gw_rd (fun b14 => gz_bd (w_F_X0_isFull b14 p2) (fun x13 => gw_if (gz_bd gw_rd (fun r16 => gz_bd gw_rd (fun b17 => gz_bd (w_F_X0_insert b17 p0 x1) (fun _ => gz_bd gw_rd (fun r18 => gz_bd (w_F_X5_keyOf p1 p0) (fun x19 => gz_bd gw_rd (fun b20 => gz_bd (w_F_X0_insert b20 p2 x19) (fun _ => gz_bd gw_rd (fun x21 => gz_bd gw_wr (fun _ => gw_ret)))))))))) (w_F_X5_put_53 a0))))) (w_F_X5_put_53 a0))))))) (gw_ret)))))
theorem w_F_X9_noteArcs (a0 : Nat) : z_Gw 0 0 (F_X9_noteArcs a0) :=
  gz_bd gw_wr (fun _ => gw_ret)
theorem w_F_X10_arc_66 (a0 : Nat) (x_5 : Int32) : z_Gw 0 0 (F_X10_arc_66 a0 x_5) :=
  gw_ret
theorem w_F_X10_arc_51 (a0 : Nat) (s_0 : Int32) : z_Gw 0 0 (F_X10_arc_51 a0 s_0) :=
  gw_if (gz_bd gw_rd (fun r15 => gz_bd gw_rd (fun b16 => gz_bd (w_F_X9_noteArcs b16) (fun _ => w_F_X10_arc_66 a0 s_0)))) (w_F_X10_arc_66 a0 s_0)
theorem w_F_X10_arc_21 (a0 : Nat) : z_Gw 0 0 (F_X10_arc_21 a0) :=
  gw_ret
theorem w_F_X10_arc (a0 : Nat) (p0 : Int32) (p1 : Int32) (p2 : Int32) (p3 : Int32) : z_Gw 0 0 (F_X10_arc a0 p0 p1 p2 p3) :=
  gz_bd (w_F_X10_isNode p0) (fun x1 => gw_if (w_F_X10_arc_21 a0) (gz_bd (w_F_X10_isLabel p1) (fun x3 => gw_if (w_F_X10_arc_21 a0) (gz_bd (w_F_X10_isNode p2) (fun x5 => gw_if (w_F_X10_arc_21 a0) (gw_if (gz_bd gw_rd (fun r8 => gz_bd gw_rd (fun b10 => gz_bd (w_F_X5_drop b10 p0 p1 p2) (fun x9 => w_F_X10_arc_51 a0 x9)))) (gz_bd gw_rd (fun r11 => gz_bd gw_rd (fun b13 => gz_bd (w_F_X5_put b13 p0 p1 p2) (fun x12 => w_F_X10_arc_51 a0 x12))))))))))
theorem w_F_X10_arcs (a0 : Nat) : z_Gw 0 0 (F_X10_arcs a0) :=
  gz_bd gw_rd (fun r1 => gz_bd gw_rd (fun x2 => gw_ret))
theorem w_F_X1_indexesOf_23 (s_0 : Int32) : z_Gw 0 0 (F_X1_indexesOf_23 s_0) :=
  gw_ret
theorem w_F_X1_indexesOf_20  : z_Gw 0 0 (F_X1_indexesOf_20) :=
  w_F_X1_indexesOf_23 3125
theorem w_F_X1_indexesOf (p0 : Int32) : z_Gw 0 0 (F_X1_indexesOf p0) :=
  gw_if (w_F_X1_indexesOf_20) (gz_bd gw_rd (fun n2 => gw_if (w_F_X1_indexesOf_20) (gz_bd gw_rd (fun x4 => w_F_X1_indexesOf_23 x4))))
theorem w_B_X7_slotOf_2 (ih2 : Option Nat → Int32 → Int32 → zMn Int32) (h_ih2 : ∀ (y0 : Option Nat) (y1 : Int32) (y2 : Int32), z_Gw 0 0 (ih2 y0 y1 y2)) (r_0 : Option Nat) (x_1 : Int32) (x_2 : Int32) : z_Gw 0 0 (B_X7_slotOf_2 ih2 r_0 x_1 x_2) :=
  gz_bd gw_rd (fun n1 => gw_if (gw_ret) (gz_bd gw_rd (fun r3 => gz_bd gw_rd (fun x4 => gw_if (gw_ret) (h_ih2 r_0 x_1 (x_2 + 1))))))
theorem w_F_X7_slotOf_2  : ∀ (n : Nat) (s : (Option Nat) × Int32 × Int32), z_Gw 0 0 (F_X7_slotOf_2 n s) :=
  gw_fix (fun ih hih s => w_B_X7_slotOf_2  (fun y0 y1 y2 => ih (y0, y1, y2)) (fun y0 y1 y2 => hih (y0, y1, y2)) s.1 s.2.1 s.2.2)
theorem w_F_X7_slotOf (q0 : Option Nat) (p1 : Int32) : z_Gw 0 0 (F_X7_slotOf q0 p1) :=
  w_F_X7_slotOf_2 z_N (q0, p1, 0)
theorem w_B_X1_moved_14 (ih14 : Option Nat → Option Nat → Int32 → Int32 → Int32 → zMn Int32) (h_ih14 : ∀ (y0 : Option Nat) (y1 : Option Nat) (y2 : Int32) (y3 : Int32) (y4 : Int32), z_Gw 0 0 (ih14 y0 y1 y2 y3 y4)) (r_1 : Option Nat) (r_2 : Option Nat) (x_3 : Int32) (x_4 : Int32) (x_5 : Int32) : z_Gw 0 0 (B_X1_moved_14 ih14 r_1 r_2 x_3 x_4 x_5) :=
  gz_bd gw_rd (fun n3 => gw_if (gw_ret) (gz_bd gw_rd (fun r5 => gz_bd gw_rd (fun x6 => gz_bd (w_F_X7_slotOf r_2 x6) (fun x7 => gz_bd (w_F_X1_indexesOf x7) (fun x8 => gz_bd gw_ret (fun x9 => gz_bd gw_ret (fun x10 => h_ih14 r_1 r_2 x10 x9 (x_5 + 1)))))))))
theorem w_F_X1_moved_14  : ∀ (n : Nat) (s : (Option Nat) × (Option Nat) × Int32 × Int32 × Int32), z_Gw 0 0 (F_X1_moved_14 n s) :=
  gw_fix (fun ih hih s => w_B_X1_moved_14  (fun y0 y1 y2 y3 y4 => ih (y0, y1, y2, y3, y4)) (fun y0 y1 y2 y3 y4 => hih (y0, y1, y2, y3, y4)) s.1 s.2.1 s.2.2.1 s.2.2.2.1 s.2.2.2.2)
theorem w_F_X1_moved (p0 : Int32) (q1 : Option Nat) (q2 : Option Nat) : z_Gw 0 0 (F_X1_moved p0 q1 q2) :=
  gz_bd gw_ret (fun x1 => gz_bd gw_ret (fun x2 => w_F_X1_moved_14 z_N (q1, q2, x1, x2, 0)))
theorem w_B_X2_clear_2 (a0 : Nat) (ih2 : Int32 → zMn Unit) (h_ih2 : ∀ (y0 : Int32), z_Gw 0 0 (ih2 y0)) (x_1 : Int32) : z_Gw 0 0 (B_X2_clear_2 a0 ih2 x_1) :=
  gz_bd gw_rd (fun x1 => gw_if (gz_bd gw_wr (fun _ => gw_ret)) (gz_bd gw_rd (fun r3 => gz_bd gw_rd (fun r4 => gz_bd gw_rd (fun x5 => gz_bd gw_wr (fun _ => h_ih2 (x_1 + 1)))))))
theorem w_F_X2_clear_2 (a0 : Nat) : ∀ (n : Nat) (s : Int32), z_Gw 0 0 (F_X2_clear_2 a0 n s) :=
  gw_fix (fun ih hih s => w_B_X2_clear_2 a0 (fun y0 => ih (y0)) (fun y0 => hih (y0)) s)
theorem w_F_X2_clear (a0 : Nat) : z_Gw 0 0 (F_X2_clear a0) :=
  w_F_X2_clear_2 a0 z_N (0)
theorem w_F_X2_enter_74 (a0 : Nat) (x_2 : Int32) : z_Gw 0 0 (F_X2_enter_74 a0 x_2) :=
  gz_bd gw_rd (fun r15 => gz_bd gw_rd (fun x16 => gw_ret))
theorem w_F_X2_enter (a0 : Nat) (p0 : Int32) : z_Gw 0 0 (F_X2_enter a0 p0) :=
  gz_bd gw_ret (fun x1 => gw_if (gz_bd gw_rd (fun r3 => gz_bd gw_rd (fun x4 => gw_if (gz_bd gw_rd (fun x6 => gw_if (w_F_X2_enter_74 a0 x1) (gz_bd gw_rd (fun r8 => gz_bd gw_rd (fun x9 => gz_bd gw_wr (fun _ => gz_bd gw_rd (fun r10 => gz_bd gw_rd (fun x11 => gz_bd gw_wr (fun _ => gz_bd gw_rd (fun x12 => gz_bd gw_wr (fun _ => gz_bd gw_rd (fun r13 => gz_bd gw_rd (fun x14 => gz_bd gw_wr (fun _ => w_F_X2_enter_74 a0 x1)))))))))))))) (w_F_X2_enter_74 a0 x1)))) (gw_ret))
theorem w_F_X3_init_114 (a0 : Nat) (ih31 : Option Nat → Int32 → Int32 → Int32 → Int32 → zMn Unit) (h_ih31 : ∀ (y0 : Option Nat) (y1 : Int32) (y2 : Int32) (y3 : Int32) (y4 : Int32), z_Gw 0 0 (ih31 y0 y1 y2 y3 y4)) (r_2 : Option Nat) (x_4 : Int32) (x_5 : Int32) (x_7 : Int32) (s_0 : Int32) (s_1 : Int32) : z_Gw 0 0 (F_X3_init_114 a0 ih31 r_2 x_4 x_5 x_7 s_0 s_1) :=
  gz_bd gw_ret (fun x16 => h_ih31 r_2 x_4 x_5 x16 (x_7 + 1))
theorem w_F_X3_init_89 (a0 : Nat) (ih31 : Option Nat → Int32 → Int32 → Int32 → Int32 → zMn Unit) (h_ih31 : ∀ (y0 : Option Nat) (y1 : Int32) (y2 : Int32) (y3 : Int32) (y4 : Int32), z_Gw 0 0 (ih31 y0 y1 y2 y3 y4)) (r_2 : Option Nat) (x_4 : Int32) (x_6 : Int32) (x_7 : Int32) (r_8 : Option Nat) (s_0 : Int32) (s_1 : Int32) : z_Gw 0 0 (F_X3_init_89 a0 ih31 r_2 x_4 x_6 x_7 r_8 s_0 s_1) :=
  gz_bd gw_ret (fun x12 => gz_bd gw_rd (fun x13 => gw_if (w_F_X3_init_114 a0 ih31 h_ih31 r_2 x_4 x12 x_7 x_6 0) (gz_bd gw_rd (fun x15 => w_F_X3_init_114 a0 ih31 h_ih31 r_2 x_4 x12 x_7 x_6 ((1 : Int32) <<< (x15 &&& 31))))))
theorem w_F_X3_init_65 (a0 : Nat) (ih31 : Option Nat → Int32 → Int32 → Int32 → Int32 → zMn Unit) (h_ih31 : ∀ (y0 : Option Nat) (y1 : Int32) (y2 : Int32) (y3 : Int32) (y4 : Int32), z_Gw 0 0 (ih31 y0 y1 y2 y3 y4)) (r_2 : Option Nat) (x_5 : Int32) (x_6 : Int32) (x_7 : Int32) (r_8 : Option Nat) (s_0 : Int32) (s_1 : Int32) : z_Gw 0 0 (F_X3_init_65 a0 ih31 r_2 x_5 x_6 x_7 r_8 s_0 s_1) :=
  gz_bd gw_ret (fun x8 => gz_bd gw_rd (fun x9 => gw_if (gz_bd gw_rd (fun x11 => w_F_X3_init_89 a0 ih31 h_ih31 r_2 x8 x_6 x_7 r_8 x_5 ((1 : Int32) <<< (x11 &&& 31)))) (w_F_X3_init_89 a0 ih31 h_ih31 r_2 x8 x_6 x_7 r_8 x_5 0)))
theorem w_B_X3_init_31 (a0 : Nat) (ih31 : Option Nat → Int32 → Int32 → Int32 → Int32 → zMn Unit) (h_ih31 : ∀ (y0 : Option Nat) (y1 : Int32) (y2 : Int32) (y3 : Int32) (y4 : Int32), z_Gw 0 0 (ih31 y0 y1 y2 y3 y4)) (r_2 : Option Nat) (x_4 : Int32) (x_5 : Int32) (x_6 : Int32) (x_7 : Int32) : z_Gw 0 0 (B_X3_init_31 a0 ih31 r_2 x_4 x_5 x_6 x_7) :=
  gz_bd gw_rd (fun n2 => gw_if (gz_bd gw_wr (fun _ => gz_bd gw_wr (fun _ => gz_bd gw_wr (fun _ => gw_ret)))) (gz_bd gw_rd (fun r4 => gz_bd gw_rd (fun x5 => gw_if (w_F_X3_init_65 a0 ih31 h_ih31 r_2 x_5 x_6 x_7 r4 x_4 0) (gz_bd gw_rd (fun x7 => w_F_X3_init_65 a0 ih31 h_ih31 r_2 x_5 x_6 x_7 r4 x_4 ((1 : Int32) <<< (x7 &&& 31))))))))
theorem w_F_X3_init_31 (a0 : Nat) : ∀ (n : Nat) (s : (Option Nat) × Int32 × Int32 × Int32 × Int32), z_Gw 0 0 (F_X3_init_31 a0 n s) :=
  gw_fix (fun ih hih s => w_B_X3_init_31 a0 (fun y0 y1 y2 y3 y4 => ih (y0, y1, y2, y3, y4)) (fun y0 y1 y2 y3 y4 => hih (y0, y1, y2, y3, y4)) s.1 s.2.1 s.2.2.1 s.2.2.2.1 s.2.2.2.2)
theorem w_F_X3_init (a0 : Nat) (p0 : Int32) (q1 : Option Nat) (q2 : Option Nat) : z_Gw 0 0 (F_X3_init a0 p0 q1 q2) :=
  gz_bd gw_ck (fun _ => gz_bd gw_wr (fun _ => gz_bd gw_wr (fun _ => gz_bd gw_wr (fun _ => w_F_X3_init_31 a0 z_N (q1, 0, 0, 0, 0)))))
theorem w_F_X4_isFull_14 (a0 : Nat) (s_0 : Int32) : z_Gw 0 0 (F_X4_isFull_14 a0 s_0) :=
  gw_rb
theorem w_F_X4_isFull (a0 : Nat) : z_Gw 0 0 (F_X4_isFull a0) :=
  gz_bd gw_rd (fun x1 => gw_if (w_F_X4_isFull_14 a0 0) (w_F_X4_isFull_14 a0 1))
theorem w_F_X4_keep (a0 : Nat) (p0 : Int32) (q1 : Option Nat) (q2 : Option Nat) : z_Gw 1 6 (F_X4_keep a0 p0 q1 q2) :=
  gw_b2 (k := 0) (n := 0) (k' := 1) (n' := 6) gw_rd (fun b2 => gw_b2 (k := 0) (n := 0) (k' := 1) (n' := 6) (w_F_X4_isFull b2) (fun x1 => gw_if (gw_b2 (k := 0) (n := 0) (k' := 1) (n' := 6) gw_rd (fun r4 => gw_b2 (k := 0) (n := 0) (k' := 1) (n' := 6) gw_rd (fun x5 => gw_b2 (k := 1) (n := 6) (k' := 0) (n' := 0) (gw_nw (n := 6) (by decide)) (fun a6 => gz_bd (w_F_X3_init a6 p0 q1 q2) (fun _ => gz_bd gw_wr (fun _ => gz_bd gw_rd (fun x7 => gz_bd gw_wr (fun _ => gz_bd gw_rd (fun x8 => gw_ret)))))) (by decide) (by decide)) (by decide) (by decide)) (by decide) (by decide)) (gw_le (k := 0) (n := 0) (gw_ret) (by decide) (by decide))) (by decide) (by decide)) (by decide) (by decide)
theorem w_F_X4_keepWide (a0 : Nat) : z_Gw 3 6 (F_X4_keepWide a0) :=
  gw_b2 (k := 1) (n := 0) (k' := 2) (n' := 6) (gw_nwa (m := 0) (by decide)) (fun a1 => gw_b2 (k := 1) (n := 0) (k' := 1) (n' := 6) (gw_nwa (m := 0) (by decide)) (fun a2 => gw_b2 (k := 0) (n := 0) (k' := 1) (n' := 6) gw_rd (fun b4 => gw_b2 (k := 1) (n := 6) (k' := 0) (n' := 0) (w_F_X4_keep b4 1 ((some a1)) ((some a2))) (fun x3 => gw_ret) (by decide) (by decide)) (by decide) (by decide)) (by decide) (by decide)) (by decide) (by decide)
theorem w_F_X1_fits_15 (s_0 : Int32) : z_Gw 0 0 (F_X1_fits_15 s_0) :=
  gw_rb
theorem w_F_X1_fits (p0 : Int32) : z_Gw 0 0 (F_X1_fits p0) :=
  gw_if (w_F_X1_fits_15 1) (w_F_X1_fits_15 0)
theorem w_F_X4_together_55 (a0 : Nat) (ih9 : Option Nat → Option Nat → Int32 → zMn (Option Nat)) (h_ih9 : ∀ (y0 : Option Nat) (y1 : Option Nat) (y2 : Int32), z_Gw 0 0 (ih9 y0 y1 y2)) (ih18 : Option Nat → Option Nat → Int32 → Int32 → zMn (Option Nat)) (h_ih18 : ∀ (y0 : Option Nat) (y1 : Option Nat) (y2 : Int32) (y3 : Int32), z_Gw 0 0 (ih18 y0 y1 y2 y3)) (r_1 : Option Nat) (r_2 : Option Nat) (x_3 : Int32) (x_4 : Int32) : z_Gw 0 0 (F_X4_together_55 a0 ih9 ih18 r_1 r_2 x_3 x_4) :=
  h_ih18 r_1 r_2 x_3 (x_4 + 1)
theorem w_B_X4_together_18 (a0 : Nat) (ih9 : Option Nat → Option Nat → Int32 → zMn (Option Nat)) (h_ih9 : ∀ (y0 : Option Nat) (y1 : Option Nat) (y2 : Int32), z_Gw 0 0 (ih9 y0 y1 y2)) (ih18 : Option Nat → Option Nat → Int32 → Int32 → zMn (Option Nat)) (h_ih18 : ∀ (y0 : Option Nat) (y1 : Option Nat) (y2 : Int32) (y3 : Int32), z_Gw 0 0 (ih18 y0 y1 y2 y3)) (r_1 : Option Nat) (r_2 : Option Nat) (x_3 : Int32) (x_4 : Int32) : z_Gw 0 0 (B_X4_together_18 a0 ih9 ih18 r_1 r_2 x_3 x_4) :=
  gz_bd gw_rd (fun n10 => gw_if (h_ih9 r_1 r_2 (x_3 + 1)) (gz_bd gw_rd (fun x12 => gz_bd gw_rd (fun x13 => gz_bd (w_F_X1_fits (x12 + x13)) (fun x14 => gw_if (w_F_X4_together_55 a0 ih9 h_ih9 ih18 h_ih18 r_1 r_2 x_3 x_4) (gz_bd gw_rd (fun r16 => gz_bd gw_rd (fun x17 => gz_bd gw_rd (fun x18 => gz_bd gw_rd (fun b20 => gz_bd (w_F_X2_enter b20 (x17 + x18)) (fun x19 => w_F_X4_together_55 a0 ih9 h_ih9 ih18 h_ih18 r_1 r_2 x_3 x_4)))))))))))
theorem w_F_X4_together_18 (a0 : Nat) (ih9 : Option Nat → Option Nat → Int32 → zMn (Option Nat)) (h_ih9 : ∀ (y0 : Option Nat) (y1 : Option Nat) (y2 : Int32), z_Gw 0 0 (ih9 y0 y1 y2)) : ∀ (n : Nat) (s : (Option Nat) × (Option Nat) × Int32 × Int32), z_Gw 0 0 (F_X4_together_18 a0 ih9 n s) :=
  gw_fix (fun ih hih s => w_B_X4_together_18 a0 ih9 h_ih9 (fun y0 y1 y2 y3 => ih (y0, y1, y2, y3)) (fun y0 y1 y2 y3 => hih (y0, y1, y2, y3)) s.1 s.2.1 s.2.2.1 s.2.2.2)
theorem w_F_X7_union_112 (ih74 : Option Nat → Option Nat → Int32 → Option Nat → Int32 → Int32 → zMn (Option Nat)) (h_ih74 : ∀ (y0 : Option Nat) (y1 : Option Nat) (y2 : Int32) (y3 : Option Nat) (y4 : Int32) (y5 : Int32), z_Gw 0 0 (ih74 y0 y1 y2 y3 y4 y5)) (r_0 : Option Nat) (r_1 : Option Nat) (x_2 : Int32) (r_3 : Option Nat) (x_4 : Int32) (x_5 : Int32) : z_Gw 0 0 (F_X7_union_112 ih74 r_0 r_1 x_2 r_3 x_4 x_5) :=
  h_ih74 r_0 r_1 x_2 r_3 x_4 (x_5 + 1)
theorem w_B_X7_union_74 (ih74 : Option Nat → Option Nat → Int32 → Option Nat → Int32 → Int32 → zMn (Option Nat)) (h_ih74 : ∀ (y0 : Option Nat) (y1 : Option Nat) (y2 : Int32) (y3 : Option Nat) (y4 : Int32) (y5 : Int32), z_Gw 0 0 (ih74 y0 y1 y2 y3 y4 y5)) (r_0 : Option Nat) (r_1 : Option Nat) (x_2 : Int32) (r_3 : Option Nat) (x_4 : Int32) (x_5 : Int32) : z_Gw 0 0 (B_X7_union_74 ih74 r_0 r_1 x_2 r_3 x_4 x_5) :=
  gz_bd gw_rd (fun n14 => gw_if (gw_ret) (gz_bd gw_rd (fun r16 => gz_bd gw_rd (fun x17 => gz_bd (w_F_X7_slotOf r_0 x17) (fun x18 => gw_if (w_F_X7_union_112 ih74 h_ih74 r_0 r_1 x_2 r_3 x_4 x_5) (gw_if (w_F_X7_union_112 ih74 h_ih74 r_0 r_1 x_2 r_3 x_4 x_5) (gz_bd gw_rd (fun r21 => gz_bd gw_wr (fun _ => w_F_X7_union_112 ih74 h_ih74 r_0 r_1 x_2 r_3 (x_4 + 1) x_5)))))))))
theorem w_F_X7_union_74  : ∀ (n : Nat) (s : (Option Nat) × (Option Nat) × Int32 × (Option Nat) × Int32 × Int32), z_Gw 0 0 (F_X7_union_74 n s) :=
  gw_fix (fun ih hih s => w_B_X7_union_74  (fun y0 y1 y2 y3 y4 y5 => ih (y0, y1, y2, y3, y4, y5)) (fun y0 y1 y2 y3 y4 y5 => hih (y0, y1, y2, y3, y4, y5)) s.1 s.2.1 s.2.2.1 s.2.2.2.1 s.2.2.2.2.1 s.2.2.2.2.2)
theorem w_B_X7_union_46 (ih46 : Option Nat → Option Nat → Int32 → Option Nat → Int32 → zMn (Option Nat)) (h_ih46 : ∀ (y0 : Option Nat) (y1 : Option Nat) (y2 : Int32) (y3 : Option Nat) (y4 : Int32), z_Gw 0 0 (ih46 y0 y1 y2 y3 y4)) (r_0 : Option Nat) (r_1 : Option Nat) (x_2 : Int32) (r_3 : Option Nat) (x_4 : Int32) : z_Gw 0 0 (B_X7_union_46 ih46 r_0 r_1 x_2 r_3 x_4) :=
  gz_bd gw_rd (fun n10 => gw_if (gz_bd gw_rd (fun n12 => w_F_X7_union_74 z_N (r_0, r_1, x_2, r_3, n12, 0))) (gz_bd gw_rd (fun r13 => gz_bd gw_wr (fun _ => h_ih46 r_0 r_1 x_2 r_3 (x_4 + 1)))))
theorem w_F_X7_union_46  : ∀ (n : Nat) (s : (Option Nat) × (Option Nat) × Int32 × (Option Nat) × Int32), z_Gw 0 0 (F_X7_union_46 n s) :=
  gw_fix (fun ih hih s => w_B_X7_union_46  (fun y0 y1 y2 y3 y4 => ih (y0, y1, y2, y3, y4)) (fun y0 y1 y2 y3 y4 => hih (y0, y1, y2, y3, y4)) s.1 s.2.1 s.2.2.1 s.2.2.2.1 s.2.2.2.2)
theorem w_F_X7_union_30 (ih5 : Option Nat → Option Nat → Int32 → Int32 → zMn (Option Nat)) (h_ih5 : ∀ (y0 : Option Nat) (y1 : Option Nat) (y2 : Int32) (y3 : Int32), z_Gw 0 0 (ih5 y0 y1 y2 y3)) (r_0 : Option Nat) (r_1 : Option Nat) (x_3 : Int32) (s_0 : Int32) (s_1 : Int32) : z_Gw 0 0 (F_X7_union_30 ih5 r_0 r_1 x_3 s_0 s_1) :=
  gz_bd gw_ret (fun x9 => h_ih5 r_0 r_1 x9 (x_3 + 1))
theorem w_F_X4_addPair_122 (a0 : Nat) (t_0 : Option Nat) (s_1 : Int32) (t_2 : Option Nat) (t_3 : Option Nat) : z_Gw 1 6 (F_X4_addPair_122 a0 t_0 s_1 t_2 t_3) :=
  gw_b2 (k := 0) (n := 0) (k' := 1) (n' := 6) gw_rd (fun b29 => gw_b2 (k := 1) (n := 6) (k' := 0) (n' := 0) (w_F_X4_keep b29 s_1 t_2 t_3) (fun x28 => gw_ret) (by decide) (by decide)) (by decide) (by decide)
theorem w_F_X4_addPair_14 (a0 : Nat) : z_Gw 3 6 (F_X4_addPair_14 a0) :=
  gw_b2 (k := 0) (n := 0) (k' := 3) (n' := 6) gw_rd (fun b31 => gw_b2 (k := 3) (n := 6) (k' := 0) (n' := 0) (w_F_X4_keepWide b31) (fun x30 => gw_ret) (by decide) (by decide)) (by decide) (by decide)
theorem w_F_X4_find_22 (a0 : Nat) (t_0 : Option Nat) : z_Gw 0 0 (F_X4_find_22 a0 t_0) :=
  gw_ret
theorem w_F_X4_find_12 (a0 : Nat) : z_Gw 0 0 (F_X4_find_12 a0) :=
  w_F_X4_find_22 a0 none
theorem w_F_X4_find (a0 : Nat) (p0 : Int32) : z_Gw 0 0 (F_X4_find a0 p0) :=
  gw_if (w_F_X4_find_12 a0) (gz_bd gw_rd (fun x2 => gw_if (gz_bd gw_rd (fun r4 => gz_bd gw_rd (fun r5 => w_F_X4_find_22 a0 r5))) (w_F_X4_find_12 a0)))
theorem w_F_X10_addPair_59 (a0 : Nat) (s_0 : Int32) : z_Gw 0 0 (F_X10_addPair_59 a0 s_0) :=
  gw_ret
theorem w_F_X10_addPair_30 (a0 : Nat) : z_Gw 0 0 (F_X10_addPair_30 a0) :=
  gw_ret
theorem w_F_X10_isShape_15 (s_0 : Int32) : z_Gw 0 0 (F_X10_isShape_15 s_0) :=
  gw_rb
theorem w_F_X10_isShape_14  : z_Gw 0 0 (F_X10_isShape_14) :=
  w_F_X10_isShape_15 0
theorem w_F_X10_isShape (p0 : Int32) : z_Gw 0 0 (F_X10_isShape p0) :=
  gw_if (w_F_X10_isShape_14) (gw_if (w_F_X10_isShape_14) (w_F_X10_isShape_15 1))
theorem w_F_X1_ofOne_16 (s_0 : Int32) (s_1 : Int32) : z_Gw 0 0 (F_X1_ofOne_16 s_0 s_1) :=
  gw_ret
theorem w_F_X1_ofOne (p0 : Int32) (p1 : Int32) : z_Gw 0 0 (F_X1_ofOne p0 p1) :=
  gz_bd (w_F_X1_indexesOf p0) (fun x1 => gw_if (w_F_X1_ofOne_16 x1 262144) (w_F_X1_ofOne_16 x1 16384))
theorem w_F_X7_init (a0 : Nat) (p0 : Int32) (p1 : Int32) (p2 : Int32) (p3 : Int32) : z_Gw 0 0 (F_X7_init a0 p0 p1 p2 p3) :=
  gz_bd gw_wr (fun _ => gz_bd gw_ck (fun _ => gz_bd gw_wr (fun _ => gz_bd gw_wr (fun _ => gz_bd gw_wr (fun _ => gw_ret)))))
theorem w_F_X4_addPlace (a0 : Nat) (p0 : Int32) (p1 : Int32) (p2 : Int32) : z_Gw 4 12 (F_X4_addPlace a0 p0 p1 p2) :=
  gw_b2 (k := 1) (n := 1) (k' := 3) (n' := 11) (gw_nwa (m := 1) (by decide)) (fun a1 => gw_b2 (k := 1) (n := 4) (k' := 2) (n' := 7) (gw_nw (n := 4) (by decide)) (fun a2 => gw_b2 (k := 0) (n := 0) (k' := 2) (n' := 7) gw_rd (fun x3 => gw_b2 (k := 0) (n := 0) (k' := 2) (n' := 7) (w_F_X7_init a2 x3 p0 p1 p2) (fun _ => gw_b2 (k := 0) (n := 0) (k' := 2) (n' := 7) gw_wr (fun _ => gw_b2 (k := 1) (n := 1) (k' := 1) (n' := 6) (gw_nwa (m := 1) (by decide)) (fun a4 => gw_b2 (k := 0) (n := 0) (k' := 1) (n' := 6) (w_F_X1_ofOne 0 p0) (fun x5 => gw_b2 (k := 0) (n := 0) (k' := 1) (n' := 6) gw_wr (fun _ => gw_b2 (k := 0) (n := 0) (k' := 1) (n' := 6) gw_rd (fun b7 => gw_b2 (k := 1) (n := 6) (k' := 0) (n' := 0) (w_F_X4_keep b7 0 ((some a1)) ((some a4))) (fun x6 => gw_ret) (by decide) (by decide)) (by decide) (by decide)) (by decide) (by decide)) (by decide) (by decide)) (by decide) (by decide)) (by decide) (by decide)) (by decide) (by decide)) (by decide) (by decide)) (by decide) (by decide)) (by decide) (by decide)
theorem w_F_X10_addPlace_46 (a0 : Nat) (s_0 : Int32) : z_Gw 0 0 (F_X10_addPlace_46 a0 s_0) :=
  gw_ret
theorem w_F_X10_addPlace_21 (a0 : Nat) (x_1 : Int32) (x_2 : Int32) (x_3 : Int32) : z_Gw 4 12 (F_X10_addPlace_21 a0 x_1 x_2 x_3) :=
  gw_b2 (k := 0) (n := 0) (k' := 4) (n' := 12) gw_rd (fun r6 => gw_b2 (k := 0) (n := 0) (k' := 4) (n' := 12) gw_rd (fun b8 => gw_b2 (k := 0) (n := 0) (k' := 4) (n' := 12) (w_F_X4_isFull b8) (fun x7 => gw_if (gw_b2 (k := 0) (n := 0) (k' := 4) (n' := 12) gw_rd (fun r10 => gw_b2 (k := 0) (n := 0) (k' := 4) (n' := 12) gw_rd (fun b12 => gw_b2 (k := 4) (n := 12) (k' := 0) (n' := 0) (w_F_X4_addPlace b12 x_1 x_2 x_3) (fun x11 => w_F_X10_addPlace_46 a0 x11) (by decide) (by decide)) (by decide) (by decide)) (by decide) (by decide)) (gw_le (k := 0) (n := 0) (w_F_X10_addPlace_46 a0 ((-2))) (by decide) (by decide))) (by decide) (by decide)) (by decide) (by decide)) (by decide) (by decide)
theorem w_F_X10_addPlace_19 (a0 : Nat) : z_Gw 0 0 (F_X10_addPlace_19 a0) :=
  gw_ret
theorem w_F_X10_addPlace (a0 : Nat) (p0 : Int32) (p1 : Int32) (p2 : Int32) : z_Gw 4 12 (F_X10_addPlace a0 p0 p1 p2) :=
  gw_b2 (k := 0) (n := 0) (k' := 4) (n' := 12) (w_F_X10_isLabel p1) (fun x1 => gw_if (gw_le (k := 0) (n := 0) (w_F_X10_addPlace_19 a0) (by decide) (by decide)) (gw_if (w_F_X10_addPlace_21 a0 p0 p1 p2) (gw_b2 (k := 0) (n := 0) (k' := 4) (n' := 12) (w_F_X10_isShape p2) (fun x4 => gw_if (gw_le (k := 0) (n := 0) (w_F_X10_addPlace_19 a0) (by decide) (by decide)) (w_F_X10_addPlace_21 a0 p0 p1 p2)) (by decide) (by decide)))) (by decide) (by decide)
theorem w_F_X4_bagsMarked_103 (a0 : Nat) (ih53 : Int32 → Int32 → Option Nat → Int32 → Int32 → zMn (Option Nat)) (h_ih53 : ∀ (y0 : Int32) (y1 : Int32) (y2 : Option Nat) (y3 : Int32) (y4 : Int32), z_Gw 0 0 (ih53 y0 y1 y2 y3 y4)) (x_1 : Int32) (x_2 : Int32) (r_3 : Option Nat) (x_4 : Int32) (x_5 : Int32) : z_Gw 0 0 (F_X4_bagsMarked_103 a0 ih53 x_1 x_2 r_3 x_4 x_5) :=
  h_ih53 x_1 x_2 r_3 x_4 (x_5 + 1)
theorem w_B_X4_bagsMarked_53 (a0 : Nat) (ih53 : Int32 → Int32 → Option Nat → Int32 → Int32 → zMn (Option Nat)) (h_ih53 : ∀ (y0 : Int32) (y1 : Int32) (y2 : Option Nat) (y3 : Int32) (y4 : Int32), z_Gw 0 0 (ih53 y0 y1 y2 y3 y4)) (x_1 : Int32) (x_2 : Int32) (r_3 : Option Nat) (x_4 : Int32) (x_5 : Int32) : z_Gw 0 0 (B_X4_bagsMarked_53 a0 ih53 x_1 x_2 r_3 x_4 x_5) :=
  gz_bd gw_rd (fun r10 => gz_bd gw_rd (fun x11 => gw_if (gw_ret) (gz_bd gw_rd (fun r13 => gz_bd gw_rd (fun r14 => gz_bd gw_rd (fun x15 => gw_if (w_F_X4_bagsMarked_103 a0 ih53 h_ih53 x_1 x_2 r_3 x_4 x_5) (gw_if (w_F_X4_bagsMarked_103 a0 ih53 h_ih53 x_1 x_2 r_3 x_4 x_5) (gz_bd gw_rd (fun r18 => gz_bd gw_rd (fun r19 => gz_bd gw_rd (fun x20 => gz_bd gw_wr (fun _ => w_F_X4_bagsMarked_103 a0 ih53 h_ih53 x_1 x_2 r_3 (x_4 + 1) x_5))))))))))))
theorem w_F_X4_bagsMarked_53 (a0 : Nat) : ∀ (n : Nat) (s : Int32 × Int32 × (Option Nat) × Int32 × Int32), z_Gw 0 0 (F_X4_bagsMarked_53 a0 n s) :=
  gw_fix (fun ih hih s => w_B_X4_bagsMarked_53 a0 (fun y0 y1 y2 y3 y4 => ih (y0, y1, y2, y3, y4)) (fun y0 y1 y2 y3 y4 => hih (y0, y1, y2, y3, y4)) s.1 s.2.1 s.2.2.1 s.2.2.2.1 s.2.2.2.2)
theorem w_F_X4_bagsMarked_35 (a0 : Nat) (ih4 : Int32 → Int32 → Int32 → zMn (Option Nat)) (h_ih4 : ∀ (y0 : Int32) (y1 : Int32) (y2 : Int32), z_Gw 0 0 (ih4 y0 y1 y2)) (x_1 : Int32) (x_3 : Int32) (s_0 : Int32) (s_1 : Int32) : z_Gw 0 0 (F_X4_bagsMarked_35 a0 ih4 x_1 x_3 s_0 s_1) :=
  gz_bd gw_ret (fun x9 => h_ih4 x_1 x9 (x_3 + 1))
theorem w_F_X2_markIn_20 (a0 : Nat) : z_Gw 0 0 (F_X2_markIn_20 a0) :=
  gw_ret
theorem w_F_X2_markIn (a0 : Nat) (p0 : Int32) (p1 : Int32) : z_Gw 0 0 (F_X2_markIn a0 p0 p1) :=
  gz_bd gw_rd (fun b2 => gz_bd (w_F_X2_enter b2 p0) (fun x1 => gw_if (w_F_X2_markIn_20 a0) (gz_bd gw_rd (fun r4 => gz_bd gw_rd (fun x5 => gz_bd gw_wr (fun _ => w_F_X2_markIn_20 a0))))))
theorem w_F_X2_spotOf_25 (a0 : Nat) (s_0 : Int32) : z_Gw 0 0 (F_X2_spotOf_25 a0 s_0) :=
  gw_ret
theorem w_F_X2_spotOf (a0 : Nat) (p0 : Int32) : z_Gw 0 0 (F_X2_spotOf a0 p0) :=
  gz_bd gw_ret (fun x1 => gw_if (gz_bd gw_rd (fun r3 => gz_bd gw_rd (fun x4 => w_F_X2_spotOf_25 a0 (x4 - 1)))) (w_F_X2_spotOf_25 a0 ((-1))))
theorem w_F_X4_countParts_125 (a0 : Nat) (ih27 : Option Nat → Int32 → Int32 → zMn Unit) (h_ih27 : ∀ (y0 : Option Nat) (y1 : Int32) (y2 : Int32), z_Gw 0 0 (ih27 y0 y1 y2)) (r_1 : Option Nat) (x_2 : Int32) (x_3 : Int32) : z_Gw 0 0 (F_X4_countParts_125 a0 ih27 r_1 x_2 x_3) :=
  h_ih27 r_1 x_2 (x_3 + 1)
theorem w_F_X4_countParts_119 (a0 : Nat) (ih27 : Option Nat → Int32 → Int32 → zMn Unit) (h_ih27 : ∀ (y0 : Option Nat) (y1 : Int32) (y2 : Int32), z_Gw 0 0 (ih27 y0 y1 y2)) (ih45 : Option Nat → Int32 → Int32 → Int32 → Int32 → zMn Unit) (h_ih45 : ∀ (y0 : Option Nat) (y1 : Int32) (y2 : Int32) (y3 : Int32) (y4 : Int32), z_Gw 0 0 (ih45 y0 y1 y2 y3 y4)) (r_1 : Option Nat) (x_2 : Int32) (x_3 : Int32) (x_4 : Int32) (x_5 : Int32) : z_Gw 0 0 (F_X4_countParts_119 a0 ih27 ih45 r_1 x_2 x_3 x_4 x_5) :=
  h_ih45 r_1 x_2 x_3 x_4 (x_5 + 1)
theorem w_B_X4_countParts_45 (a0 : Nat) (ih27 : Option Nat → Int32 → Int32 → zMn Unit) (h_ih27 : ∀ (y0 : Option Nat) (y1 : Int32) (y2 : Int32), z_Gw 0 0 (ih27 y0 y1 y2)) (ih45 : Option Nat → Int32 → Int32 → Int32 → Int32 → zMn Unit) (h_ih45 : ∀ (y0 : Option Nat) (y1 : Int32) (y2 : Int32) (y3 : Int32) (y4 : Int32), z_Gw 0 0 (ih45 y0 y1 y2 y3 y4)) (r_1 : Option Nat) (x_2 : Int32) (x_3 : Int32) (x_4 : Int32) (x_5 : Int32) : z_Gw 0 0 (B_X4_countParts_45 a0 ih27 ih45 r_1 x_2 x_3 x_4 x_5) :=
  gw_if (w_F_X4_countParts_125 a0 ih27 h_ih27 r_1 x_2 x_3) (gz_bd gw_rd (fun r13 => gz_bd gw_rd (fun n14 => gw_if (w_F_X4_countParts_125 a0 ih27 h_ih27 r_1 x_2 x_3) (gz_bd gw_rd (fun r16 => gz_bd gw_rd (fun r17 => gz_bd gw_rd (fun x18 => gz_bd gw_rd (fun r19 => gz_bd gw_rd (fun x20 => gz_bd gw_ret (fun x21 => gz_bd gw_rd (fun r22 => gz_bd gw_rd (fun x23 => gw_if (w_F_X4_countParts_119 a0 ih27 h_ih27 ih45 h_ih45 r_1 x_2 x_3 x_4 x_5) (gz_bd (w_F_X1_fits x21) (fun x25 => gw_if (w_F_X4_countParts_119 a0 ih27 h_ih27 ih45 h_ih45 r_1 x_2 x_3 x_4 x_5) (gz_bd gw_rd (fun r27 => gz_bd gw_rd (fun r28 => gz_bd gw_rd (fun r29 => gz_bd gw_rd (fun x30 => gz_bd gw_rd (fun b31 => gz_bd (w_F_X2_markIn b31 x21 (x30 <<< (1 &&& 31))) (fun _ => w_F_X4_countParts_119 a0 ih27 h_ih27 ih45 h_ih45 r_1 x_2 x_3 x_4 x_5)))))))))))))))))))))
theorem w_F_X4_countParts_45 (a0 : Nat) (ih27 : Option Nat → Int32 → Int32 → zMn Unit) (h_ih27 : ∀ (y0 : Option Nat) (y1 : Int32) (y2 : Int32), z_Gw 0 0 (ih27 y0 y1 y2)) : ∀ (n : Nat) (s : (Option Nat) × Int32 × Int32 × Int32 × Int32), z_Gw 0 0 (F_X4_countParts_45 a0 ih27 n s) :=
  gw_fix (fun ih hih s => w_B_X4_countParts_45 a0 ih27 h_ih27 (fun y0 y1 y2 y3 y4 => ih (y0, y1, y2, y3, y4)) (fun y0 y1 y2 y3 y4 => hih (y0, y1, y2, y3, y4)) s.1 s.2.1 s.2.2.1 s.2.2.2.1 s.2.2.2.2)
theorem w_B_X4_countParts_27 (a0 : Nat) (ih27 : Option Nat → Int32 → Int32 → zMn Unit) (h_ih27 : ∀ (y0 : Option Nat) (y1 : Int32) (y2 : Int32), z_Gw 0 0 (ih27 y0 y1 y2)) (r_1 : Option Nat) (x_2 : Int32) (x_3 : Int32) : z_Gw 0 0 (B_X4_countParts_27 a0 ih27 r_1 x_2 x_3) :=
  gw_if (gw_ret) (gz_bd gw_rd (fun r9 => gz_bd gw_rd (fun b11 => gz_bd (w_F_X2_spotOf b11 x_3) (fun x10 => w_F_X4_countParts_45 a0 ih27 h_ih27 z_N (r_1, x_2, x_3, x10, 0)))))
theorem w_F_X4_countParts_27 (a0 : Nat) : ∀ (n : Nat) (s : (Option Nat) × Int32 × Int32), z_Gw 0 0 (F_X4_countParts_27 a0 n s) :=
  gw_fix (fun ih hih s => w_B_X4_countParts_27 a0 (fun y0 y1 y2 => ih (y0, y1, y2)) (fun y0 y1 y2 => hih (y0, y1, y2)) s.1 s.2.1 s.2.2)
theorem w_F_X4_countParts (a0 : Nat) (q0 : Option Nat) : z_Gw 0 0 (F_X4_countParts a0 q0) :=
  gz_bd gw_rd (fun r1 => gz_bd gw_rd (fun b2 => gz_bd (w_F_X2_clear b2) (fun _ => gz_bd gw_rd (fun r3 => gz_bd gw_rd (fun b4 => gz_bd (w_F_X2_markIn b4 0 1) (fun _ => gz_bd gw_rd (fun r5 => gz_bd gw_rd (fun n6 => gz_bd (w_F_X1_indexesOf n6) (fun x7 => w_F_X4_countParts_27 a0 z_N (q0, x7, 0))))))))))
theorem w_B_X4_holdsEmpty_2 (ih2 : Option Nat → Int32 → zMn Int32) (h_ih2 : ∀ (y0 : Option Nat) (y1 : Int32), z_Gw 0 0 (ih2 y0 y1)) (r_0 : Option Nat) (x_1 : Int32) : z_Gw 0 0 (B_X4_holdsEmpty_2 ih2 r_0 x_1) :=
  gz_bd gw_rd (fun n1 => gw_if (gw_rb) (gz_bd gw_rd (fun x3 => gw_if (gw_rb) (h_ih2 r_0 (x_1 + 1)))))
theorem w_F_X4_holdsEmpty_2  : ∀ (n : Nat) (s : (Option Nat) × Int32), z_Gw 0 0 (F_X4_holdsEmpty_2 n s) :=
  gw_fix (fun ih hih s => w_B_X4_holdsEmpty_2  (fun y0 y1 => ih (y0, y1)) (fun y0 y1 => hih (y0, y1)) s.1 s.2)
theorem w_F_X4_holdsEmpty (q0 : Option Nat) : z_Gw 0 0 (F_X4_holdsEmpty q0) :=
  w_F_X4_holdsEmpty_2 z_N (q0, 0)
theorem w_F_X10_addRepeated_47 (a0 : Nat) (s_0 : Int32) : z_Gw 0 0 (F_X10_addRepeated_47 a0 s_0) :=
  gw_ret
theorem w_F_X10_addRepeated_19 (a0 : Nat) : z_Gw 0 0 (F_X10_addRepeated_19 a0) :=
  gw_ret
theorem w_F_X4_addNothing (a0 : Nat) : z_Gw 3 7 (F_X4_addNothing a0) :=
  gw_b2 (k := 1) (n := 1) (k' := 2) (n' := 6) (gw_nwa (m := 1) (by decide)) (fun a1 => gw_b2 (k := 0) (n := 0) (k' := 2) (n' := 6) gw_wr (fun _ => gw_b2 (k := 1) (n := 0) (k' := 1) (n' := 6) (gw_nwa (m := 0) (by decide)) (fun a2 => gw_b2 (k := 0) (n := 0) (k' := 1) (n' := 6) gw_rd (fun b4 => gw_b2 (k := 1) (n := 6) (k' := 0) (n' := 0) (w_F_X4_keep b4 0 ((some a2)) ((some a1))) (fun x3 => gw_ret) (by decide) (by decide)) (by decide) (by decide)) (by decide) (by decide)) (by decide) (by decide)) (by decide) (by decide)
theorem w_F_X10_expression_104 (a0 : Nat) (s_0 : Int32) : z_Gw 0 0 (F_X10_expression_104 a0 s_0) :=
  gw_ret
theorem w_F_X10_expression_50 (a0 : Nat) (x_2 : Int32) (x_3 : Int32) (t_0 : Option Nat) (s_1 : Int32) : z_Gw 4 12 (F_X10_expression_50 a0 x_2 x_3 t_0 s_1) :=
  gw_b2 (k := 0) (n := 0) (k' := 4) (n' := 12) gw_rd (fun b23 => gw_b2 (k := 4) (n := 12) (k' := 0) (n' := 0) (w_F_X10_addPlace b23 s_1 x_2 x_3) (fun x22 => gw_ret) (by decide) (by decide)) (by decide) (by decide)
theorem w_F_X9_leads_18 (a0 : Nat) (s_0 : Int32) : z_Gw 0 0 (F_X9_leads_18 a0 s_0) :=
  gw_rb
theorem w_F_X9_leads (a0 : Nat) (p0 : Int32) (p1 : Int32) : z_Gw 0 0 (F_X9_leads a0 p0 p1) :=
  gz_bd gw_rd (fun r1 => gz_bd gw_rd (fun x2 => gw_if (w_F_X9_leads_18 a0 0) (w_F_X9_leads_18 a0 1)))
theorem w_F_X9_findLeastWrong_49 (a0 : Nat) (ih2 : Int32 → zMn Int32) (h_ih2 : ∀ (y0 : Int32), z_Gw 0 0 (ih2 y0)) (ih10 : Int32 → Int32 → zMn Int32) (h_ih10 : ∀ (y0 : Int32) (y1 : Int32), z_Gw 0 0 (ih10 y0 y1)) (x_1 : Int32) (x_2 : Int32) : z_Gw 0 0 (F_X9_findLeastWrong_49 a0 ih2 ih10 x_1 x_2) :=
  h_ih10 x_1 (x_2 + 1)
theorem w_B_X9_findLeastWrong_10 (a0 : Nat) (ih2 : Int32 → zMn Int32) (h_ih2 : ∀ (y0 : Int32), z_Gw 0 0 (ih2 y0)) (ih10 : Int32 → Int32 → zMn Int32) (h_ih10 : ∀ (y0 : Int32) (y1 : Int32), z_Gw 0 0 (ih10 y0 y1)) (x_1 : Int32) (x_2 : Int32) : z_Gw 0 0 (B_X9_findLeastWrong_10 a0 ih2 ih10 x_1 x_2) :=
  gw_if (h_ih2 (x_1 + 1)) (gz_bd gw_rd (fun r3 => gz_bd gw_rd (fun r4 => gz_bd gw_rd (fun x5 => gw_if (gz_bd gw_rd (fun b8 => gz_bd (w_F_X9_leads b8 x_1 x_2) (fun x7 => gw_if (w_F_X9_findLeastWrong_49 a0 ih2 h_ih2 ih10 h_ih10 x_1 x_2) (gz_bd gw_rd (fun b11 => gz_bd (w_F_X9_leads b11 x_2 x_1) (fun x10 => gw_if (w_F_X9_findLeastWrong_49 a0 ih2 h_ih2 ih10 h_ih10 x_1 x_2) (gw_ret))))))) (w_F_X9_findLeastWrong_49 a0 ih2 h_ih2 ih10 h_ih10 x_1 x_2)))))
theorem w_F_X9_findLeastWrong_10 (a0 : Nat) (ih2 : Int32 → zMn Int32) (h_ih2 : ∀ (y0 : Int32), z_Gw 0 0 (ih2 y0)) : ∀ (n : Nat) (s : Int32 × Int32), z_Gw 0 0 (F_X9_findLeastWrong_10 a0 ih2 n s) :=
  gw_fix (fun ih hih s => w_B_X9_findLeastWrong_10 a0 ih2 h_ih2 (fun y0 y1 => ih (y0, y1)) (fun y0 y1 => hih (y0, y1)) s.1 s.2)
theorem w_B_X9_findLeastWrong_2 (a0 : Nat) (ih2 : Int32 → zMn Int32) (h_ih2 : ∀ (y0 : Int32), z_Gw 0 0 (ih2 y0)) (x_1 : Int32) : z_Gw 0 0 (B_X9_findLeastWrong_2 a0 ih2 x_1) :=
  gw_if (gw_ret) (w_F_X9_findLeastWrong_10 a0 ih2 h_ih2 z_N (x_1, 0))
theorem w_F_X9_findLeastWrong_2 (a0 : Nat) : ∀ (n : Nat) (s : Int32), z_Gw 0 0 (F_X9_findLeastWrong_2 a0 n s) :=
  gw_fix (fun ih hih s => w_B_X9_findLeastWrong_2 a0 (fun y0 => ih (y0)) (fun y0 => hih (y0)) s)
theorem w_F_X9_findLeastWrong (a0 : Nat) : z_Gw 0 0 (F_X9_findLeastWrong a0) :=
  w_F_X9_findLeastWrong_2 a0 z_N (0)
theorem w_F_X9_findReach_69 (a0 : Nat) (ih31 : Int32 → zMn Unit) (h_ih31 : ∀ (y0 : Int32), z_Gw 0 0 (ih31 y0)) (ih39 : Int32 → Int32 → zMn Unit) (h_ih39 : ∀ (y0 : Int32) (y1 : Int32), z_Gw 0 0 (ih39 y0 y1)) (x_1 : Int32) (x_2 : Int32) : z_Gw 0 0 (F_X9_findReach_69 a0 ih31 ih39 x_1 x_2) :=
  h_ih39 x_1 (x_2 + 1)
theorem w_B_X9_findReach_39 (a0 : Nat) (ih31 : Int32 → zMn Unit) (h_ih31 : ∀ (y0 : Int32), z_Gw 0 0 (ih31 y0)) (ih39 : Int32 → Int32 → zMn Unit) (h_ih39 : ∀ (y0 : Int32) (y1 : Int32), z_Gw 0 0 (ih39 y0 y1)) (x_1 : Int32) (x_2 : Int32) : z_Gw 0 0 (B_X9_findReach_39 a0 ih31 ih39 x_1 x_2) :=
  gw_if (h_ih31 (x_1 + 1)) (gz_bd gw_rd (fun b9 => gz_bd (w_F_X9_leads b9 x_2 x_1) (fun x8 => gw_if (w_F_X9_findReach_69 a0 ih31 h_ih31 ih39 h_ih39 x_1 x_2) (gz_bd gw_rd (fun r11 => gz_bd gw_rd (fun x12 => gz_bd gw_rd (fun r13 => gz_bd gw_rd (fun x14 => gz_bd gw_wr (fun _ => w_F_X9_findReach_69 a0 ih31 h_ih31 ih39 h_ih39 x_1 x_2)))))))))
theorem w_F_X9_findReach_39 (a0 : Nat) (ih31 : Int32 → zMn Unit) (h_ih31 : ∀ (y0 : Int32), z_Gw 0 0 (ih31 y0)) : ∀ (n : Nat) (s : Int32 × Int32), z_Gw 0 0 (F_X9_findReach_39 a0 ih31 n s) :=
  gw_fix (fun ih hih s => w_B_X9_findReach_39 a0 ih31 h_ih31 (fun y0 y1 => ih (y0, y1)) (fun y0 y1 => hih (y0, y1)) s.1 s.2)
theorem w_B_X9_findReach_31 (a0 : Nat) (ih31 : Int32 → zMn Unit) (h_ih31 : ∀ (y0 : Int32), z_Gw 0 0 (ih31 y0)) (x_1 : Int32) : z_Gw 0 0 (B_X9_findReach_31 a0 ih31 x_1) :=
  gw_if (gw_ret) (w_F_X9_findReach_39 a0 ih31 h_ih31 z_N (x_1, 0))
theorem w_F_X9_findReach_31 (a0 : Nat) : ∀ (n : Nat) (s : Int32), z_Gw 0 0 (F_X9_findReach_31 a0 n s) :=
  gw_fix (fun ih hih s => w_B_X9_findReach_31 a0 (fun y0 => ih (y0)) (fun y0 => hih (y0)) s)
theorem w_B_X9_findReach_2 (a0 : Nat) (ih2 : Int32 → zMn Unit) (h_ih2 : ∀ (y0 : Int32), z_Gw 0 0 (ih2 y0)) (x_1 : Int32) : z_Gw 0 0 (B_X9_findReach_2 a0 ih2 x_1) :=
  gw_if (w_F_X9_findReach_31 a0 z_N (0)) (gz_bd gw_rd (fun r2 => gz_bd gw_rd (fun r3 => gz_bd gw_rd (fun r4 => gz_bd gw_rd (fun x5 => gz_bd gw_wr (fun _ => h_ih2 (x_1 + 1)))))))
theorem w_F_X9_findReach_2 (a0 : Nat) : ∀ (n : Nat) (s : Int32), z_Gw 0 0 (F_X9_findReach_2 a0 n s) :=
  gw_fix (fun ih hih s => w_B_X9_findReach_2 a0 (fun y0 => ih (y0)) (fun y0 => hih (y0)) s)
theorem w_F_X9_findReach (a0 : Nat) : z_Gw 0 0 (F_X9_findReach a0) :=
  w_F_X9_findReach_2 a0 z_N (0)
theorem w_F_X9_leastWrong_24 (a0 : Nat) : z_Gw 0 0 (F_X9_leastWrong_24 a0) :=
  gz_bd gw_rd (fun x6 => gw_ret)
theorem w_F_X9_leastWrong (a0 : Nat) : z_Gw 0 0 (F_X9_leastWrong a0) :=
  gz_bd gw_rd (fun x1 => gw_if (w_F_X9_leastWrong_24 a0) (gz_bd gw_wr (fun _ => gz_bd gw_rd (fun b3 => gz_bd (w_F_X9_findReach b3) (fun _ => gz_bd gw_rd (fun b5 => gz_bd (w_F_X9_findLeastWrong b5) (fun x4 => gz_bd gw_wr (fun _ => w_F_X9_leastWrong_24 a0))))))))
theorem w_F_X2_addTo_20 (a0 : Nat) : z_Gw 0 0 (F_X2_addTo_20 a0) :=
  gw_ret
