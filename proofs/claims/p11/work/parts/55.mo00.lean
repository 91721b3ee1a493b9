theorem m_F_J7_copyOf_59c91 (q0 : Option Nat) (p1 : Int32) : z_Mo (F_J7_copyOf_59c91 q0 p1) := by
  unfold F_J7_copyOf_59c91
  exact mo_bd mo_len (fun _ => mo_if (mo_bd mo_ia (fun vs => mo_bd (mo_nw (fun y e => by cases e; show 0 < 900; decide) (fun e => by cases e)) (fun a => mo_bd mo_ia (fun _ => mo_ret)))) (mo_bd (mo_nwa (by decide)) (fun a => mo_bd mo_len (fun _ => mo_bd mo_cp (fun _ => mo_ret)))))
theorem m_F_J6_bitCount_0f7a4 (p0 : Int32) : z_Mo (F_J6_bitCount_0f7a4 p0) :=
  mo_bd mo_ret (fun x1 => mo_bd mo_ret (fun x2 => mo_bd mo_ret (fun x3 => mo_bd mo_ret (fun x4 => mo_bd mo_ret (fun x5 => mo_ret)))))
theorem m_F_J6_numberOfTrailingZeros_0f7a4_74 (x_0 : Int32) (x_1 : Int32) : z_Mo (F_J6_numberOfTrailingZeros_0f7a4_74 x_0 x_1) :=
  mo_ret
theorem m_F_J6_numberOfTrailingZeros_0f7a4_62 (x_0 : Int32) (x_1 : Int32) : z_Mo (F_J6_numberOfTrailingZeros_0f7a4_62 x_0 x_1) :=
  mo_if (m_F_J6_numberOfTrailingZeros_0f7a4_74 x_0 x_1) (mo_bd mo_ret (fun x10 => m_F_J6_numberOfTrailingZeros_0f7a4_74 x10 (x_1 + 2)))
theorem m_F_J6_numberOfTrailingZeros_0f7a4_49 (x_0 : Int32) (x_1 : Int32) : z_Mo (F_J6_numberOfTrailingZeros_0f7a4_49 x_0 x_1) :=
  mo_if (m_F_J6_numberOfTrailingZeros_0f7a4_62 x_0 x_1) (mo_bd mo_ret (fun x8 => m_F_J6_numberOfTrailingZeros_0f7a4_62 x8 (x_1 + 4)))
theorem m_F_J6_numberOfTrailingZeros_0f7a4_34 (x_0 : Int32) (x_1 : Int32) : z_Mo (F_J6_numberOfTrailingZeros_0f7a4_34 x_0 x_1) :=
  mo_if (m_F_J6_numberOfTrailingZeros_0f7a4_49 x_0 x_1) (mo_bd mo_ret (fun x6 => m_F_J6_numberOfTrailingZeros_0f7a4_49 x6 (x_1 + 8)))
theorem m_F_J6_numberOfTrailingZeros_0f7a4 (p0 : Int32) : z_Mo (F_J6_numberOfTrailingZeros_0f7a4 p0) :=
  mo_bd mo_ret (fun x1 => mo_if (mo_if (m_F_J6_numberOfTrailingZeros_0f7a4_34 x1 1) (mo_bd mo_ret (fun x4 => m_F_J6_numberOfTrailingZeros_0f7a4_34 x4 (1 + 16)))) (mo_ret))
theorem m_F_X10_isLabel_15 (s_0 : Int32) : z_Mo (F_X10_isLabel_15 s_0) :=
  mo_rb
theorem m_F_X10_isLabel_14  : z_Mo (F_X10_isLabel_14) :=
  m_F_X10_isLabel_15 0
theorem m_F_X10_isLabel (p0 : Int32) : z_Mo (F_X10_isLabel p0) :=
  mo_if (m_F_X10_isLabel_14) (mo_if (m_F_X10_isLabel_14) (m_F_X10_isLabel_15 1))
theorem m_F_X10_isNode_15 (s_0 : Int32) : z_Mo (F_X10_isNode_15 s_0) :=
  mo_rb
theorem m_F_X10_isNode_14  : z_Mo (F_X10_isNode_14) :=
  m_F_X10_isNode_15 0
theorem m_F_X10_isNode (p0 : Int32) : z_Mo (F_X10_isNode p0) :=
  mo_if (m_F_X10_isNode_14) (mo_if (m_F_X10_isNode_14) (m_F_X10_isNode_15 1))
theorem m_F_X0_key (a0 : Nat) (p0 : Int32) (p1 : Int32) : z_Mo (F_X0_key a0 p0 p1) :=
  mo_bd (mo_ga (by decide)) (fun r1 => mo_bd mo_li (fun x2 => mo_ret))
theorem m_B_X0_indexOf_2 (a0 : Nat) (ih2 : Int32 → Int32 → Int32 → zMn Int32) (h_ih2 : ∀ (y0 : Int32) (y1 : Int32) (y2 : Int32), z_Mo (ih2 y0 y1 y2)) (x_1 : Int32) (x_2 : Int32) (x_3 : Int32) : z_Mo (B_X0_indexOf_2 a0 ih2 x_1 x_2 x_3) :=
  mo_bd (mo_ga (by decide)) (fun r1 => mo_bd mo_li (fun x2 => mo_if (mo_ret) (mo_bd (mo_rc (by decide)) (fun b5 => mo_bd (m_F_X0_key b5 x_1 x_3) (fun x4 => mo_if (mo_ret) (h_ih2 x_1 x_2 (x_3 + 1)))))))
theorem m_F_X0_indexOf_2 (a0 : Nat) : ∀ (n : Nat) (s : Int32 × Int32 × Int32), z_Mo (F_X0_indexOf_2 a0 n s) :=
  mo_fix (fun ih hih s => m_B_X0_indexOf_2 a0 (fun y0 y1 y2 => ih (y0, y1, y2)) (fun y0 y1 y2 => hih (y0, y1, y2)) s.1 s.2.1 s.2.2)
theorem m_F_X0_indexOf (a0 : Nat) (p0 : Int32) (p1 : Int32) : z_Mo (F_X0_indexOf a0 p0 p1) :=
  m_F_X0_indexOf_2 a0 z_N (p0, p1, 0)
theorem m_B_X0_remove_20 (a0 : Nat) (ih20 : Int32 → Int32 → Int32 → zMn Unit) (h_ih20 : ∀ (y0 : Int32) (y1 : Int32) (y2 : Int32), z_Mo (ih20 y0 y1 y2)) (x_1 : Int32) (x_4 : Int32) (x_5 : Int32) : z_Mo (B_X0_remove_20 a0 ih20 x_1 x_4 x_5) :=
  mo_bd (mo_ga (by decide)) (fun r5 => mo_bd mo_li (fun x6 => mo_if (mo_bd (mo_ga (by decide)) (fun r8 => mo_bd mo_li (fun x9 => mo_bd mo_si (fun _ => mo_ret)))) (mo_bd (mo_ga (by decide)) (fun r10 => mo_bd (mo_ga (by decide)) (fun r11 => mo_bd mo_li (fun x12 => mo_bd mo_si (fun _ => h_ih20 x_1 x_4 (x_5 + 1))))))))
theorem m_F_X0_remove_20 (a0 : Nat) : ∀ (n : Nat) (s : Int32 × Int32 × Int32), z_Mo (F_X0_remove_20 a0 n s) :=
  mo_fix (fun ih hih s => m_B_X0_remove_20 a0 (fun y0 y1 y2 => ih (y0, y1, y2)) (fun y0 y1 y2 => hih (y0, y1, y2)) s.1 s.2.1 s.2.2)
theorem m_F_X0_remove (a0 : Nat) (p0 : Int32) (p1 : Int32) : z_Mo (F_X0_remove a0 p0 p1) :=
  mo_bd (mo_rc (by decide)) (fun b2 => mo_bd (m_F_X0_indexOf b2 p0 p1) (fun x1 => mo_if (mo_bd mo_ret (fun x4 => m_F_X0_remove_20 a0 z_N (p0, x4, x1))) (mo_ret)))
theorem m_F_X5_keyOf (p0 : Int32) (p1 : Int32) : z_Mo (F_X5_keyOf p0 p1) :=
  mo_ret
theorem m_F_X5_drop (a0 : Nat) (p0 : Int32) (p1 : Int32) (p2 : Int32) : z_Mo (F_X5_drop a0 p0 p1 p2) :=
  mo_bd (m_F_X5_keyOf p1 p2) (fun x1 => mo_bd (mo_ga (by decide)) (fun r2 => mo_bd (mo_rc (by decide)) (fun b4 => mo_bd (m_F_X0_indexOf b4 p0 x1) (fun x3 => mo_if (mo_bd (mo_ga (by decide)) (fun r6 => mo_bd (mo_rc (by decide)) (fun b7 => mo_bd (m_F_X0_remove b7 p0 x1) (fun _ => mo_bd (mo_ga (by decide)) (fun r8 => mo_bd (m_F_X5_keyOf p1 p0) (fun x9 => mo_bd (mo_rc (by decide)) (fun b10 => mo_bd (m_F_X0_remove b10 p2 x9) (fun _ => mo_bd (mo_gi (by decide)) (fun x11 => mo_bd (mo_pf (by decide)) (fun _ => mo_ret)))))))))) (mo_ret)))))
theorem m_F_X0_isFull_15 (a0 : Nat) (s_0 : Int32) : z_Mo (F_X0_isFull_15 a0 s_0) :=
  mo_rb
theorem m_F_X0_isFull (a0 : Nat) (p0 : Int32) : z_Mo (F_X0_isFull a0 p0) :=
  mo_bd (mo_ga (by decide)) (fun r1 => mo_bd mo_li (fun x2 => mo_if (m_F_X0_isFull_15 a0 0) (m_F_X0_isFull_15 a0 1)))
theorem m_F_X0_insert_64 (a0 : Nat) (x_1 : Int32) (x_2 : Int32) (x_4 : Int32) : z_Mo (F_X0_insert_64 a0 x_1 x_2 x_4) :=
  mo_bd (mo_ga (by decide)) (fun r15 => mo_bd mo_si (fun _ => mo_bd (mo_ga (by decide)) (fun r16 => mo_bd mo_li (fun x17 => mo_bd mo_si (fun _ => mo_ret)))))
theorem m_B_X0_insert_23 (a0 : Nat) (ih23 : Int32 → Int32 → Int32 → Int32 → zMn Unit) (h_ih23 : ∀ (y0 : Int32) (y1 : Int32) (y2 : Int32) (y3 : Int32), z_Mo (ih23 y0 y1 y2 y3)) (x_1 : Int32) (x_2 : Int32) (x_3 : Int32) (x_4 : Int32) : z_Mo (B_X0_insert_23 a0 ih23 x_1 x_2 x_3 x_4) :=
  mo_if (m_F_X0_insert_64 a0 x_1 x_2 x_4) (mo_bd (mo_ga (by decide)) (fun r9 => mo_bd mo_li (fun x10 => mo_if (m_F_X0_insert_64 a0 x_1 x_2 x_4) (mo_bd (mo_ga (by decide)) (fun r12 => mo_bd (mo_ga (by decide)) (fun r13 => mo_bd mo_li (fun x14 => mo_bd mo_si (fun _ => h_ih23 x_1 x_2 x_3 (x_4 + (-1))))))))))
theorem m_F_X0_insert_23 (a0 : Nat) : ∀ (n : Nat) (s : Int32 × Int32 × Int32 × Int32), z_Mo (F_X0_insert_23 a0 n s) :=
  mo_fix (fun ih hih s => m_B_X0_insert_23 a0 (fun y0 y1 y2 y3 => ih (y0, y1, y2, y3)) (fun y0 y1 y2 y3 => hih (y0, y1, y2, y3)) s.1 s.2.1 s.2.2.1 s.2.2.2)
theorem m_F_X0_insert (a0 : Nat) (p0 : Int32) (p1 : Int32) : z_Mo (F_X0_insert a0 p0 p1) :=
  mo_bd (mo_rc (by decide)) (fun b2 => mo_bd (m_F_X0_isFull b2 p0) (fun x1 => mo_if (mo_bd mo_ret (fun x4 => mo_bd (mo_ga (by decide)) (fun r5 => mo_bd mo_li (fun x6 => mo_bd mo_ret (fun x7 => m_F_X0_insert_23 a0 z_N (p0, p1, x4, x7)))))) (mo_ret)))
theorem m_F_X5_put_53 (a0 : Nat) : z_Mo (F_X5_put_53 a0) :=
  mo_ret
theorem m_F_X5_put (a0 : Nat) (p0 : Int32) (p1 : Int32) (p2 : Int32) : z_Mo (F_X5_put a0 p0 p1 p2) :=
  mo_bd (m_F_X5_keyOf p1 p2) (fun x1 => mo_bd (mo_ga (by decide)) (fun r2 => mo_bd (mo_rc (by decide)) (fun b4 => mo_bd (m_F_X0_indexOf b4 p0 x1) (fun x3 => mo_if (mo_bd (mo_gi (by decide)) (fun x6 => mo_if (m_F_X5_put_53 a0) (mo_bd (mo_ga (by decide)) (fun r8 => mo_bd (mo_rc (by decide)) (fun b10 => mo_bd (m_F_X0_isFull b10 p0) (fun x9 => mo_if (mo_bd (mo_ga (by decide)) (fun r12 => mo_bd (mo_rc (by decide)) (fun b14 => mo_bd (m_F_X0_isFull b14 p2) (fun x13 => mo_if (mo_bd (mo_ga (by decide)) (fun r16 => mo_bd (mo_rc (by decide)) (fun b17 => mo_bd (m_F_X0_insert b17 p0 x1) (fun _ => mo_bd (mo_ga (by decide)) (fun r18 => mo_bd (m_F_X5_keyOf p1 p0) (fun x19 => mo_bd (mo_rc (by decide)) (fun b20 => mo_bd (m_F_X0_insert b20 p2 x19) (fun _ => mo_bd (mo_gi (by decide)) (fun x21 => mo_bd (mo_pf (by decide)) (fun _ => mo_ret)))))))))) (m_F_X5_put_53 a0))))) (m_F_X5_put_53 a0))))))) (mo_ret)))))
theorem m_F_X9_noteArcs (a0 : Nat) : z_Mo (F_X9_noteArcs a0) :=
  mo_bd (mo_pf (by decide)) (fun _ => mo_ret)
theorem m_F_X10_arc_66 (a0 : Nat) (x_5 : Int32) : z_Mo (F_X10_arc_66 a0 x_5) :=
  mo_ret
theorem m_F_X10_arc_51 (a0 : Nat) (s_0 : Int32) : z_Mo (F_X10_arc_51 a0 s_0) :=
  mo_if (mo_bd (mo_ga (by decide)) (fun r15 => mo_bd (mo_rc (by decide)) (fun b16 => mo_bd (m_F_X9_noteArcs b16) (fun _ => m_F_X10_arc_66 a0 s_0)))) (m_F_X10_arc_66 a0 s_0)
theorem m_F_X10_arc_21 (a0 : Nat) : z_Mo (F_X10_arc_21 a0) :=
  mo_ret
theorem m_F_X10_arc (a0 : Nat) (p0 : Int32) (p1 : Int32) (p2 : Int32) (p3 : Int32) : z_Mo (F_X10_arc a0 p0 p1 p2 p3) :=
  mo_bd (m_F_X10_isNode p0) (fun x1 => mo_if (m_F_X10_arc_21 a0) (mo_bd (m_F_X10_isLabel p1) (fun x3 => mo_if (m_F_X10_arc_21 a0) (mo_bd (m_F_X10_isNode p2) (fun x5 => mo_if (m_F_X10_arc_21 a0) (mo_if (mo_bd (mo_ga (by decide)) (fun r8 => mo_bd (mo_rc (by decide)) (fun b10 => mo_bd (m_F_X5_drop b10 p0 p1 p2) (fun x9 => m_F_X10_arc_51 a0 x9)))) (mo_bd (mo_ga (by decide)) (fun r11 => mo_bd (mo_rc (by decide)) (fun b13 => mo_bd (m_F_X5_put b13 p0 p1 p2) (fun x12 => m_F_X10_arc_51 a0 x12))))))))))
theorem m_F_X10_arcs (a0 : Nat) : z_Mo (F_X10_arcs a0) :=
  mo_bd (mo_ga (by decide)) (fun r1 => mo_bd (mo_gi (by decide)) (fun x2 => mo_ret))
theorem m_F_X1_indexesOf_23 (s_0 : Int32) : z_Mo (F_X1_indexesOf_23 s_0) :=
  mo_ret
theorem m_F_X1_indexesOf_20  : z_Mo (F_X1_indexesOf_20) :=
  m_F_X1_indexesOf_23 3125
theorem m_F_X1_indexesOf (p0 : Int32) : z_Mo (F_X1_indexesOf p0) :=
  mo_if (m_F_X1_indexesOf_20) (mo_bd mo_len (fun n2 => mo_if (m_F_X1_indexesOf_20) (mo_bd mo_li (fun x4 => m_F_X1_indexesOf_23 x4))))
theorem m_B_X7_slotOf_2 (ih2 : Option Nat → Int32 → Int32 → zMn Int32) (h_ih2 : ∀ (y0 : Option Nat) (y1 : Int32) (y2 : Int32), z_Mo (ih2 y0 y1 y2)) (r_0 : Option Nat) (x_1 : Int32) (x_2 : Int32) : z_Mo (B_X7_slotOf_2 ih2 r_0 x_1 x_2) :=
  mo_bd mo_len (fun n1 => mo_if (mo_ret) (mo_bd mo_la (fun r3 => mo_bd (mo_gi (by decide)) (fun x4 => mo_if (mo_ret) (h_ih2 r_0 x_1 (x_2 + 1))))))
theorem m_F_X7_slotOf_2  : ∀ (n : Nat) (s : (Option Nat) × Int32 × Int32), z_Mo (F_X7_slotOf_2 n s) :=
  mo_fix (fun ih hih s => m_B_X7_slotOf_2  (fun y0 y1 y2 => ih (y0, y1, y2)) (fun y0 y1 y2 => hih (y0, y1, y2)) s.1 s.2.1 s.2.2)
theorem m_F_X7_slotOf (q0 : Option Nat) (p1 : Int32) : z_Mo (F_X7_slotOf q0 p1) :=
  m_F_X7_slotOf_2 z_N (q0, p1, 0)
theorem m_B_X1_moved_14 (ih14 : Option Nat → Option Nat → Int32 → Int32 → Int32 → zMn Int32) (h_ih14 : ∀ (y0 : Option Nat) (y1 : Option Nat) (y2 : Int32) (y3 : Int32) (y4 : Int32), z_Mo (ih14 y0 y1 y2 y3 y4)) (r_1 : Option Nat) (r_2 : Option Nat) (x_3 : Int32) (x_4 : Int32) (x_5 : Int32) : z_Mo (B_X1_moved_14 ih14 r_1 r_2 x_3 x_4 x_5) :=
  mo_bd mo_len (fun n3 => mo_if (mo_ret) (mo_bd mo_la (fun r5 => mo_bd (mo_gi (by decide)) (fun x6 => mo_bd (m_F_X7_slotOf r_2 x6) (fun x7 => mo_bd (m_F_X1_indexesOf x7) (fun x8 => mo_bd mo_ret (fun x9 => mo_bd mo_ret (fun x10 => h_ih14 r_1 r_2 x10 x9 (x_5 + 1)))))))))
theorem m_F_X1_moved_14  : ∀ (n : Nat) (s : (Option Nat) × (Option Nat) × Int32 × Int32 × Int32), z_Mo (F_X1_moved_14 n s) :=
  mo_fix (fun ih hih s => m_B_X1_moved_14  (fun y0 y1 y2 y3 y4 => ih (y0, y1, y2, y3, y4)) (fun y0 y1 y2 y3 y4 => hih (y0, y1, y2, y3, y4)) s.1 s.2.1 s.2.2.1 s.2.2.2.1 s.2.2.2.2)
theorem m_F_X1_moved (p0 : Int32) (q1 : Option Nat) (q2 : Option Nat) : z_Mo (F_X1_moved p0 q1 q2) :=
  mo_bd mo_ret (fun x1 => mo_bd mo_ret (fun x2 => m_F_X1_moved_14 z_N (q1, q2, x1, x2, 0)))
theorem m_B_X2_clear_2 (a0 : Nat) (ih2 : Int32 → zMn Unit) (h_ih2 : ∀ (y0 : Int32), z_Mo (ih2 y0)) (x_1 : Int32) : z_Mo (B_X2_clear_2 a0 ih2 x_1) :=
  mo_bd (mo_gi (by decide)) (fun x1 => mo_if (mo_bd (mo_pf (by decide)) (fun _ => mo_ret)) (mo_bd (mo_ga (by decide)) (fun r3 => mo_bd (mo_ga (by decide)) (fun r4 => mo_bd mo_li (fun x5 => mo_bd mo_si (fun _ => h_ih2 (x_1 + 1)))))))
theorem m_F_X2_clear_2 (a0 : Nat) : ∀ (n : Nat) (s : Int32), z_Mo (F_X2_clear_2 a0 n s) :=
  mo_fix (fun ih hih s => m_B_X2_clear_2 a0 (fun y0 => ih (y0)) (fun y0 => hih (y0)) s)
theorem m_F_X2_clear (a0 : Nat) : z_Mo (F_X2_clear a0) :=
  m_F_X2_clear_2 a0 z_N (0)
theorem m_F_X2_enter_74 (a0 : Nat) (x_2 : Int32) : z_Mo (F_X2_enter_74 a0 x_2) :=
  mo_bd (mo_ga (by decide)) (fun r15 => mo_bd mo_li (fun x16 => mo_ret))
theorem m_F_X2_enter (a0 : Nat) (p0 : Int32) : z_Mo (F_X2_enter a0 p0) :=
  mo_bd mo_ret (fun x1 => mo_if (mo_bd (mo_ga (by decide)) (fun r3 => mo_bd mo_li (fun x4 => mo_if (mo_bd (mo_gi (by decide)) (fun x6 => mo_if (m_F_X2_enter_74 a0 x1) (mo_bd (mo_ga (by decide)) (fun r8 => mo_bd (mo_gi (by decide)) (fun x9 => mo_bd mo_si (fun _ => mo_bd (mo_ga (by decide)) (fun r10 => mo_bd (mo_gi (by decide)) (fun x11 => mo_bd mo_si (fun _ => mo_bd (mo_gi (by decide)) (fun x12 => mo_bd (mo_pf (by decide)) (fun _ => mo_bd (mo_ga (by decide)) (fun r13 => mo_bd (mo_gi (by decide)) (fun x14 => mo_bd mo_si (fun _ => m_F_X2_enter_74 a0 x1)))))))))))))) (m_F_X2_enter_74 a0 x1)))) (mo_ret))
theorem m_B_X4_eitherOf_34 (a0 : Nat) (ih34 : Option Nat → Int32 → zMn (Option Nat)) (h_ih34 : ∀ (y0 : Option Nat) (y1 : Int32), z_Mo (ih34 y0 y1)) (r_2 : Option Nat) (x_3 : Int32) : z_Mo (B_X4_eitherOf_34 a0 ih34 r_2 x_3) :=
  mo_bd mo_len (fun n9 => mo_if (mo_bd (mo_ga (by decide)) (fun r11 => mo_bd (mo_ga (by decide)) (fun r12 => mo_bd (mo_ga (by decide)) (fun r13 => mo_bd (mo_gi (by decide)) (fun x14 => mo_bd (m_F_J7_copyOf_59c91 r12 x14) (fun r15 => mo_ret)))))) (mo_bd (mo_ga (by decide)) (fun r16 => mo_bd mo_li (fun x17 => mo_bd (mo_rc (by decide)) (fun b19 => mo_bd (m_F_X2_enter b19 x17) (fun x18 => h_ih34 r_2 (x_3 + 1)))))))
theorem m_F_X4_eitherOf_34 (a0 : Nat) : ∀ (n : Nat) (s : (Option Nat) × Int32), z_Mo (F_X4_eitherOf_34 a0 n s) :=
  mo_fix (fun ih hih s => m_B_X4_eitherOf_34 a0 (fun y0 y1 => ih (y0, y1)) (fun y0 y1 => hih (y0, y1)) s.1 s.2)
theorem m_B_X4_eitherOf_9 (a0 : Nat) (ih9 : Option Nat → Option Nat → Int32 → zMn (Option Nat)) (h_ih9 : ∀ (y0 : Option Nat) (y1 : Option Nat) (y2 : Int32), z_Mo (ih9 y0 y1 y2)) (r_1 : Option Nat) (r_2 : Option Nat) (x_3 : Int32) : z_Mo (B_X4_eitherOf_9 a0 ih9 r_1 r_2 x_3) :=
  mo_bd mo_len (fun n3 => mo_if (m_F_X4_eitherOf_34 a0 z_N (r_2, 0)) (mo_bd (mo_ga (by decide)) (fun r5 => mo_bd mo_li (fun x6 => mo_bd (mo_rc (by decide)) (fun b8 => mo_bd (m_F_X2_enter b8 x6) (fun x7 => h_ih9 r_1 r_2 (x_3 + 1)))))))
theorem m_F_X4_eitherOf_9 (a0 : Nat) : ∀ (n : Nat) (s : (Option Nat) × (Option Nat) × Int32), z_Mo (F_X4_eitherOf_9 a0 n s) :=
  mo_fix (fun ih hih s => m_B_X4_eitherOf_9 a0 (fun y0 y1 y2 => ih (y0, y1, y2)) (fun y0 y1 y2 => hih (y0, y1, y2)) s.1 s.2.1 s.2.2)
theorem m_F_X4_eitherOf (a0 : Nat) (q0 : Option Nat) (q1 : Option Nat) : z_Mo (F_X4_eitherOf a0 q0 q1) :=
  mo_bd (mo_ga (by decide)) (fun r1 => mo_bd (mo_rc (by decide)) (fun b2 => mo_bd (m_F_X2_clear b2) (fun _ => m_F_X4_eitherOf_9 a0 z_N (q0, q1, 0))))
theorem m_F_X3_init_114 (a0 : Nat) (ih31 : Option Nat → Int32 → Int32 → Int32 → Int32 → zMn Unit) (h_ih31 : ∀ (y0 : Option Nat) (y1 : Int32) (y2 : Int32) (y3 : Int32) (y4 : Int32), z_Mo (ih31 y0 y1 y2 y3 y4)) (r_2 : Option Nat) (x_4 : Int32) (x_5 : Int32) (x_7 : Int32) (s_0 : Int32) (s_1 : Int32) : z_Mo (F_X3_init_114 a0 ih31 r_2 x_4 x_5 x_7 s_0 s_1) :=
  mo_bd mo_ret (fun x16 => h_ih31 r_2 x_4 x_5 x16 (x_7 + 1))
theorem m_F_X3_init_89 (a0 : Nat) (ih31 : Option Nat → Int32 → Int32 → Int32 → Int32 → zMn Unit) (h_ih31 : ∀ (y0 : Option Nat) (y1 : Int32) (y2 : Int32) (y3 : Int32) (y4 : Int32), z_Mo (ih31 y0 y1 y2 y3 y4)) (r_2 : Option Nat) (x_4 : Int32) (x_6 : Int32) (x_7 : Int32) (r_8 : Option Nat) (s_0 : Int32) (s_1 : Int32) : z_Mo (F_X3_init_89 a0 ih31 r_2 x_4 x_6 x_7 r_8 s_0 s_1) :=
  mo_bd mo_ret (fun x12 => mo_bd (mo_gi (by decide)) (fun x13 => mo_if (m_F_X3_init_114 a0 ih31 h_ih31 r_2 x_4 x12 x_7 x_6 0) (mo_bd (mo_gi (by decide)) (fun x15 => m_F_X3_init_114 a0 ih31 h_ih31 r_2 x_4 x12 x_7 x_6 ((1 : Int32) <<< (x15 &&& 31))))))
theorem m_F_X3_init_65 (a0 : Nat) (ih31 : Option Nat → Int32 → Int32 → Int32 → Int32 → zMn Unit) (h_ih31 : ∀ (y0 : Option Nat) (y1 : Int32) (y2 : Int32) (y3 : Int32) (y4 : Int32), z_Mo (ih31 y0 y1 y2 y3 y4)) (r_2 : Option Nat) (x_5 : Int32) (x_6 : Int32) (x_7 : Int32) (r_8 : Option Nat) (s_0 : Int32) (s_1 : Int32) : z_Mo (F_X3_init_65 a0 ih31 r_2 x_5 x_6 x_7 r_8 s_0 s_1) :=
  mo_bd mo_ret (fun x8 => mo_bd (mo_gi (by decide)) (fun x9 => mo_if (mo_bd (mo_gi (by decide)) (fun x11 => m_F_X3_init_89 a0 ih31 h_ih31 r_2 x8 x_6 x_7 r_8 x_5 ((1 : Int32) <<< (x11 &&& 31)))) (m_F_X3_init_89 a0 ih31 h_ih31 r_2 x8 x_6 x_7 r_8 x_5 0)))
theorem m_B_X3_init_31 (a0 : Nat) (ih31 : Option Nat → Int32 → Int32 → Int32 → Int32 → zMn Unit) (h_ih31 : ∀ (y0 : Option Nat) (y1 : Int32) (y2 : Int32) (y3 : Int32) (y4 : Int32), z_Mo (ih31 y0 y1 y2 y3 y4)) (r_2 : Option Nat) (x_4 : Int32) (x_5 : Int32) (x_6 : Int32) (x_7 : Int32) : z_Mo (B_X3_init_31 a0 ih31 r_2 x_4 x_5 x_6 x_7) :=
  mo_bd mo_len (fun n2 => mo_if (mo_bd (mo_pf (by decide)) (fun _ => mo_bd (mo_pf (by decide)) (fun _ => mo_bd (mo_pf (by decide)) (fun _ => mo_ret)))) (mo_bd mo_la (fun r4 => mo_bd (mo_gi (by decide)) (fun x5 => mo_if (m_F_X3_init_65 a0 ih31 h_ih31 r_2 x_5 x_6 x_7 r4 x_4 0) (mo_bd (mo_gi (by decide)) (fun x7 => m_F_X3_init_65 a0 ih31 h_ih31 r_2 x_5 x_6 x_7 r4 x_4 ((1 : Int32) <<< (x7 &&& 31))))))))
theorem m_F_X3_init_31 (a0 : Nat) : ∀ (n : Nat) (s : (Option Nat) × Int32 × Int32 × Int32 × Int32), z_Mo (F_X3_init_31 a0 n s) :=
  mo_fix (fun ih hih s => m_B_X3_init_31 a0 (fun y0 y1 y2 y3 y4 => ih (y0, y1, y2, y3, y4)) (fun y0 y1 y2 y3 y4 => hih (y0, y1, y2, y3, y4)) s.1 s.2.1 s.2.2.1 s.2.2.2.1 s.2.2.2.2)
theorem m_F_X3_init (a0 : Nat) (p0 : Int32) (q1 : Option Nat) (q2 : Option Nat) : z_Mo (F_X3_init a0 p0 q1 q2) :=
  mo_bd mo_ck (fun _ => mo_bd (mo_pf (by decide)) (fun _ => mo_bd (mo_pf (by decide)) (fun _ => mo_bd (mo_pf (by decide)) (fun _ => m_F_X3_init_31 a0 z_N (q1, 0, 0, 0, 0)))))
theorem m_F_X4_isFull_14 (a0 : Nat) (s_0 : Int32) : z_Mo (F_X4_isFull_14 a0 s_0) :=
  mo_rb
theorem m_F_X4_isFull (a0 : Nat) : z_Mo (F_X4_isFull a0) :=
  mo_bd (mo_gi (by decide)) (fun x1 => mo_if (m_F_X4_isFull_14 a0 0) (m_F_X4_isFull_14 a0 1))
theorem m_F_X4_keep (a0 : Nat) (p0 : Int32) (q1 : Option Nat) (q2 : Option Nat) : z_Mo (F_X4_keep a0 p0 q1 q2) :=
  mo_bd (mo_rc (by decide)) (fun b2 => mo_bd (m_F_X4_isFull b2) (fun x1 => mo_if (mo_bd (mo_ga (by decide)) (fun r4 => mo_bd (mo_gi (by decide)) (fun x5 => mo_bd (mo_nwo (by decide)) (fun a6 => mo_bd (m_F_X3_init a6 p0 q1 q2) (fun _ => mo_bd mo_sa (fun _ => mo_bd (mo_gi (by decide)) (fun x7 => mo_bd (mo_pf (by decide)) (fun _ => mo_bd (mo_gi (by decide)) (fun x8 => mo_ret))))))))) (mo_ret)))
theorem m_F_X4_keepWide (a0 : Nat) : z_Mo (F_X4_keepWide a0) :=
  mo_bd (mo_nwa (by decide)) (fun a1 => mo_bd (mo_nwa (by decide)) (fun a2 => mo_bd (mo_rc (by decide)) (fun b4 => mo_bd (m_F_X4_keep b4 1 ((some a1)) ((some a2))) (fun x3 => mo_ret))))
theorem m_F_X1_fits_15 (s_0 : Int32) : z_Mo (F_X1_fits_15 s_0) :=
  mo_rb
theorem m_F_X1_fits (p0 : Int32) : z_Mo (F_X1_fits p0) :=
  mo_if (m_F_X1_fits_15 1) (m_F_X1_fits_15 0)
theorem m_F_X4_together_55 (a0 : Nat) (ih9 : Option Nat → Option Nat → Int32 → zMn (Option Nat)) (h_ih9 : ∀ (y0 : Option Nat) (y1 : Option Nat) (y2 : Int32), z_Mo (ih9 y0 y1 y2)) (ih18 : Option Nat → Option Nat → Int32 → Int32 → zMn (Option Nat)) (h_ih18 : ∀ (y0 : Option Nat) (y1 : Option Nat) (y2 : Int32) (y3 : Int32), z_Mo (ih18 y0 y1 y2 y3)) (r_1 : Option Nat) (r_2 : Option Nat) (x_3 : Int32) (x_4 : Int32) : z_Mo (F_X4_together_55 a0 ih9 ih18 r_1 r_2 x_3 x_4) :=
  h_ih18 r_1 r_2 x_3 (x_4 + 1)
theorem m_B_X4_together_18 (a0 : Nat) (ih9 : Option Nat → Option Nat → Int32 → zMn (Option Nat)) (h_ih9 : ∀ (y0 : Option Nat) (y1 : Option Nat) (y2 : Int32), z_Mo (ih9 y0 y1 y2)) (ih18 : Option Nat → Option Nat → Int32 → Int32 → zMn (Option Nat)) (h_ih18 : ∀ (y0 : Option Nat) (y1 : Option Nat) (y2 : Int32) (y3 : Int32), z_Mo (ih18 y0 y1 y2 y3)) (r_1 : Option Nat) (r_2 : Option Nat) (x_3 : Int32) (x_4 : Int32) : z_Mo (B_X4_together_18 a0 ih9 ih18 r_1 r_2 x_3 x_4) :=
  mo_bd mo_len (fun n10 => mo_if (h_ih9 r_1 r_2 (x_3 + 1)) (mo_bd mo_li (fun x12 => mo_bd mo_li (fun x13 => mo_bd (m_F_X1_fits (x12 + x13)) (fun x14 => mo_if (m_F_X4_together_55 a0 ih9 h_ih9 ih18 h_ih18 r_1 r_2 x_3 x_4) (mo_bd (mo_ga (by decide)) (fun r16 => mo_bd mo_li (fun x17 => mo_bd mo_li (fun x18 => mo_bd (mo_rc (by decide)) (fun b20 => mo_bd (m_F_X2_enter b20 (x17 + x18)) (fun x19 => m_F_X4_together_55 a0 ih9 h_ih9 ih18 h_ih18 r_1 r_2 x_3 x_4)))))))))))
theorem m_F_X4_together_18 (a0 : Nat) (ih9 : Option Nat → Option Nat → Int32 → zMn (Option Nat)) (h_ih9 : ∀ (y0 : Option Nat) (y1 : Option Nat) (y2 : Int32), z_Mo (ih9 y0 y1 y2)) : ∀ (n : Nat) (s : (Option Nat) × (Option Nat) × Int32 × Int32), z_Mo (F_X4_together_18 a0 ih9 n s) :=
  mo_fix (fun ih hih s => m_B_X4_together_18 a0 ih9 h_ih9 (fun y0 y1 y2 y3 => ih (y0, y1, y2, y3)) (fun y0 y1 y2 y3 => hih (y0, y1, y2, y3)) s.1 s.2.1 s.2.2.1 s.2.2.2)
theorem m_B_X4_together_9 (a0 : Nat) (ih9 : Option Nat → Option Nat → Int32 → zMn (Option Nat)) (h_ih9 : ∀ (y0 : Option Nat) (y1 : Option Nat) (y2 : Int32), z_Mo (ih9 y0 y1 y2)) (r_1 : Option Nat) (r_2 : Option Nat) (x_3 : Int32) : z_Mo (B_X4_together_9 a0 ih9 r_1 r_2 x_3) :=
  mo_bd mo_len (fun n3 => mo_if (mo_bd (mo_ga (by decide)) (fun r5 => mo_bd (mo_ga (by decide)) (fun r6 => mo_bd (mo_ga (by decide)) (fun r7 => mo_bd (mo_gi (by decide)) (fun x8 => mo_bd (m_F_J7_copyOf_59c91 r6 x8) (fun r9 => mo_ret)))))) (m_F_X4_together_18 a0 ih9 h_ih9 z_N (r_1, r_2, x_3, 0)))
theorem m_F_X4_together_9 (a0 : Nat) : ∀ (n : Nat) (s : (Option Nat) × (Option Nat) × Int32), z_Mo (F_X4_together_9 a0 n s) :=
  mo_fix (fun ih hih s => m_B_X4_together_9 a0 (fun y0 y1 y2 => ih (y0, y1, y2)) (fun y0 y1 y2 => hih (y0, y1, y2)) s.1 s.2.1 s.2.2)
theorem m_F_X4_together (a0 : Nat) (q0 : Option Nat) (q1 : Option Nat) : z_Mo (F_X4_together a0 q0 q1) :=
  mo_bd (mo_ga (by decide)) (fun r1 => mo_bd (mo_rc (by decide)) (fun b2 => mo_bd (m_F_X2_clear b2) (fun _ => m_F_X4_together_9 a0 z_N (q0, q1, 0))))
theorem m_F_X7_union_112 (ih74 : Option Nat → Option Nat → Int32 → Option Nat → Int32 → Int32 → zMn (Option Nat)) (h_ih74 : ∀ (y0 : Option Nat) (y1 : Option Nat) (y2 : Int32) (y3 : Option Nat) (y4 : Int32) (y5 : Int32), z_Mo (ih74 y0 y1 y2 y3 y4 y5)) (r_0 : Option Nat) (r_1 : Option Nat) (x_2 : Int32) (r_3 : Option Nat) (x_4 : Int32) (x_5 : Int32) : z_Mo (F_X7_union_112 ih74 r_0 r_1 x_2 r_3 x_4 x_5) :=
  h_ih74 r_0 r_1 x_2 r_3 x_4 (x_5 + 1)
theorem m_B_X7_union_74 (ih74 : Option Nat → Option Nat → Int32 → Option Nat → Int32 → Int32 → zMn (Option Nat)) (h_ih74 : ∀ (y0 : Option Nat) (y1 : Option Nat) (y2 : Int32) (y3 : Option Nat) (y4 : Int32) (y5 : Int32), z_Mo (ih74 y0 y1 y2 y3 y4 y5)) (r_0 : Option Nat) (r_1 : Option Nat) (x_2 : Int32) (r_3 : Option Nat) (x_4 : Int32) (x_5 : Int32) : z_Mo (B_X7_union_74 ih74 r_0 r_1 x_2 r_3 x_4 x_5) :=
  mo_bd mo_len (fun n14 => mo_if (mo_ret) (mo_bd mo_la (fun r16 => mo_bd (mo_gi (by decide)) (fun x17 => mo_bd (m_F_X7_slotOf r_0 x17) (fun x18 => mo_if (m_F_X7_union_112 ih74 h_ih74 r_0 r_1 x_2 r_3 x_4 x_5) (mo_if (m_F_X7_union_112 ih74 h_ih74 r_0 r_1 x_2 r_3 x_4 x_5) (mo_bd mo_la (fun r21 => mo_bd mo_sa (fun _ => m_F_X7_union_112 ih74 h_ih74 r_0 r_1 x_2 r_3 (x_4 + 1) x_5)))))))))
theorem m_F_X7_union_74  : ∀ (n : Nat) (s : (Option Nat) × (Option Nat) × Int32 × (Option Nat) × Int32 × Int32), z_Mo (F_X7_union_74 n s) :=
  mo_fix (fun ih hih s => m_B_X7_union_74  (fun y0 y1 y2 y3 y4 y5 => ih (y0, y1, y2, y3, y4, y5)) (fun y0 y1 y2 y3 y4 y5 => hih (y0, y1, y2, y3, y4, y5)) s.1 s.2.1 s.2.2.1 s.2.2.2.1 s.2.2.2.2.1 s.2.2.2.2.2)
theorem m_B_X7_union_46 (ih46 : Option Nat → Option Nat → Int32 → Option Nat → Int32 → zMn (Option Nat)) (h_ih46 : ∀ (y0 : Option Nat) (y1 : Option Nat) (y2 : Int32) (y3 : Option Nat) (y4 : Int32), z_Mo (ih46 y0 y1 y2 y3 y4)) (r_0 : Option Nat) (r_1 : Option Nat) (x_2 : Int32) (r_3 : Option Nat) (x_4 : Int32) : z_Mo (B_X7_union_46 ih46 r_0 r_1 x_2 r_3 x_4) :=
  mo_bd mo_len (fun n10 => mo_if (mo_bd mo_len (fun n12 => m_F_X7_union_74 z_N (r_0, r_1, x_2, r_3, n12, 0))) (mo_bd mo_la (fun r13 => mo_bd mo_sa (fun _ => h_ih46 r_0 r_1 x_2 r_3 (x_4 + 1)))))
theorem m_F_X7_union_46  : ∀ (n : Nat) (s : (Option Nat) × (Option Nat) × Int32 × (Option Nat) × Int32), z_Mo (F_X7_union_46 n s) :=
  mo_fix (fun ih hih s => m_B_X7_union_46  (fun y0 y1 y2 y3 y4 => ih (y0, y1, y2, y3, y4)) (fun y0 y1 y2 y3 y4 => hih (y0, y1, y2, y3, y4)) s.1 s.2.1 s.2.2.1 s.2.2.2.1 s.2.2.2.2)
theorem m_F_X7_union_30 (ih5 : Option Nat → Option Nat → Int32 → Int32 → zMn (Option Nat)) (h_ih5 : ∀ (y0 : Option Nat) (y1 : Option Nat) (y2 : Int32) (y3 : Int32), z_Mo (ih5 y0 y1 y2 y3)) (r_0 : Option Nat) (r_1 : Option Nat) (x_3 : Int32) (s_0 : Int32) (s_1 : Int32) : z_Mo (F_X7_union_30 ih5 r_0 r_1 x_3 s_0 s_1) :=
  mo_bd mo_ret (fun x9 => h_ih5 r_0 r_1 x9 (x_3 + 1))
theorem m_B_X7_union_5 (ih5 : Option Nat → Option Nat → Int32 → Int32 → zMn (Option Nat)) (h_ih5 : ∀ (y0 : Option Nat) (y1 : Option Nat) (y2 : Int32) (y3 : Int32), z_Mo (ih5 y0 y1 y2 y3)) (r_0 : Option Nat) (r_1 : Option Nat) (x_2 : Int32) (x_3 : Int32) : z_Mo (B_X7_union_5 ih5 r_0 r_1 x_2 x_3) :=
  mo_bd mo_len (fun n2 => mo_if (mo_bd (mo_nwa (by decide)) (fun a4 => m_F_X7_union_46 z_N (r_0, r_1, x_2, (some a4), 0))) (mo_bd mo_la (fun r5 => mo_bd (mo_gi (by decide)) (fun x6 => mo_bd (m_F_X7_slotOf r_0 x6) (fun x7 => mo_if (m_F_X7_union_30 ih5 h_ih5 r_0 r_1 x_3 x_2 0) (m_F_X7_union_30 ih5 h_ih5 r_0 r_1 x_3 x_2 1))))))
theorem m_F_X7_union_5  : ∀ (n : Nat) (s : (Option Nat) × (Option Nat) × Int32 × Int32), z_Mo (F_X7_union_5 n s) :=
  mo_fix (fun ih hih s => m_B_X7_union_5  (fun y0 y1 y2 y3 => ih (y0, y1, y2, y3)) (fun y0 y1 y2 y3 => hih (y0, y1, y2, y3)) s.1 s.2.1 s.2.2.1 s.2.2.2)
theorem m_F_X7_union (q0 : Option Nat) (q1 : Option Nat) : z_Mo (F_X7_union q0 q1) :=
  mo_bd mo_len (fun n1 => m_F_X7_union_5 z_N (q0, q1, n1, 0))
theorem m_F_X4_addPair_122 (a0 : Nat) (t_0 : Option Nat) (s_1 : Int32) (t_2 : Option Nat) (t_3 : Option Nat) : z_Mo (F_X4_addPair_122 a0 t_0 s_1 t_2 t_3) :=
  mo_bd (mo_rc (by decide)) (fun b29 => mo_bd (m_F_X4_keep b29 s_1 t_2 t_3) (fun x28 => mo_ret))
theorem m_B_X4_addPair_56 (a0 : Nat) (ih56 : Int32 → Option Nat → Option Nat → Option Nat → Option Nat → Int32 → zMn Int32) (h_ih56 : ∀ (y0 : Int32) (y1 : Option Nat) (y2 : Option Nat) (y3 : Option Nat) (y4 : Option Nat) (y5 : Int32), z_Mo (ih56 y0 y1 y2 y3 y4 y5)) (x_1 : Int32) (r_2 : Option Nat) (r_3 : Option Nat) (r_4 : Option Nat) (r_5 : Option Nat) (x_6 : Int32) : z_Mo (B_X4_addPair_56 a0 ih56 x_1 r_2 r_3 r_4 r_5 x_6) :=
  mo_bd mo_len (fun n15 => mo_if (mo_if (mo_bd (mo_ga (by decide)) (fun r18 => mo_bd (mo_rc (by decide)) (fun b20 => mo_bd (m_F_X4_eitherOf b20 r18 r_5) (fun r19 => m_F_X4_addPair_122 a0 ((some a0)) 0 r_4 r19)))) (mo_bd (mo_ga (by decide)) (fun r21 => mo_bd (mo_rc (by decide)) (fun b23 => mo_bd (m_F_X4_together b23 r21 r_5) (fun r22 => m_F_X4_addPair_122 a0 ((some a0)) 0 r_4 r22))))) (mo_bd (mo_ga (by decide)) (fun r24 => mo_bd mo_li (fun x25 => mo_bd (mo_ga (by decide)) (fun r26 => mo_bd (m_F_X1_moved x25 r26 r_4) (fun x27 => mo_bd mo_si (fun _ => h_ih56 x_1 r_2 r_3 r_4 r_5 (x_6 + 1))))))))
theorem m_F_X4_addPair_56 (a0 : Nat) : ∀ (n : Nat) (s : Int32 × (Option Nat) × (Option Nat) × (Option Nat) × (Option Nat) × Int32), z_Mo (F_X4_addPair_56 a0 n s) :=
  mo_fix (fun ih hih s => m_B_X4_addPair_56 a0 (fun y0 y1 y2 y3 y4 y5 => ih (y0, y1, y2, y3, y4, y5)) (fun y0 y1 y2 y3 y4 y5 => hih (y0, y1, y2, y3, y4, y5)) s.1 s.2.1 s.2.2.1 s.2.2.2.1 s.2.2.2.2.1 s.2.2.2.2.2)
theorem m_F_X4_addPair_14 (a0 : Nat) : z_Mo (F_X4_addPair_14 a0) :=
  mo_bd (mo_rc (by decide)) (fun b31 => mo_bd (m_F_X4_keepWide b31) (fun x30 => mo_ret))
theorem m_F_X4_addPair (a0 : Nat) (p0 : Int32) (q1 : Option Nat) (q2 : Option Nat) : z_Mo (F_X4_addPair a0 p0 q1 q2) :=
  mo_bd (mo_gi (by decide)) (fun x1 => mo_if (mo_bd (mo_gi (by decide)) (fun x3 => mo_if (mo_bd (mo_ga (by decide)) (fun r5 => mo_bd (mo_ga (by decide)) (fun r6 => mo_bd (m_F_X7_union r5 r6) (fun r7 => mo_bd mo_len (fun n8 => mo_if (mo_bd (mo_ga (by decide)) (fun r10 => mo_bd mo_len (fun n11 => mo_bd (mo_nwa (by decide)) (fun a12 => m_F_X4_addPair_56 a0 z_N (p0, q1, q2, r7, (some a12), 0))))) (mo_bd (mo_rc (by decide)) (fun b14 => mo_bd (m_F_X4_keepWide b14) (fun x13 => mo_ret)))))))) (m_F_X4_addPair_14 a0))) (m_F_X4_addPair_14 a0))
theorem m_F_X4_find_22 (a0 : Nat) (t_0 : Option Nat) : z_Mo (F_X4_find_22 a0 t_0) :=
  mo_ret
theorem m_F_X4_find_12 (a0 : Nat) : z_Mo (F_X4_find_12 a0) :=
  m_F_X4_find_22 a0 none
theorem m_F_X4_find (a0 : Nat) (p0 : Int32) : z_Mo (F_X4_find a0 p0) :=
  mo_if (m_F_X4_find_12 a0) (mo_bd (mo_gi (by decide)) (fun x2 => mo_if (mo_bd (mo_ga (by decide)) (fun r4 => mo_bd mo_la (fun r5 => m_F_X4_find_22 a0 r5))) (m_F_X4_find_12 a0)))
theorem m_F_X10_addPair_59 (a0 : Nat) (s_0 : Int32) : z_Mo (F_X10_addPair_59 a0 s_0) :=
  mo_ret
theorem m_F_X10_addPair_30 (a0 : Nat) : z_Mo (F_X10_addPair_30 a0) :=
  mo_ret
theorem m_F_X10_addPair (a0 : Nat) (p0 : Int32) (p1 : Int32) (p2 : Int32) : z_Mo (F_X10_addPair a0 p0 p1 p2) :=
  mo_bd (mo_ga (by decide)) (fun r1 => mo_bd (mo_rc (by decide)) (fun b3 => mo_bd (m_F_X4_find b3 p1) (fun r2 => mo_bd (mo_ga (by decide)) (fun r4 => mo_bd (mo_rc (by decide)) (fun b6 => mo_bd (m_F_X4_find b6 p2) (fun r5 => mo_if (m_F_X10_addPair_30 a0) (mo_if (m_F_X10_addPair_30 a0) (mo_bd (mo_ga (by decide)) (fun r9 => mo_bd (mo_rc (by decide)) (fun b11 => mo_bd (m_F_X4_isFull b11) (fun x10 => mo_if (mo_bd (mo_ga (by decide)) (fun r13 => mo_bd (mo_rc (by decide)) (fun b15 => mo_bd (m_F_X4_addPair b15 p0 r2 r5) (fun x14 => m_F_X10_addPair_59 a0 x14)))) (m_F_X10_addPair_59 a0 ((-2))))))))))))))
theorem m_F_X10_isShape_15 (s_0 : Int32) : z_Mo (F_X10_isShape_15 s_0) :=
  mo_rb
theorem m_F_X10_isShape_14  : z_Mo (F_X10_isShape_14) :=
  m_F_X10_isShape_15 0
theorem m_F_X10_isShape (p0 : Int32) : z_Mo (F_X10_isShape p0) :=
  mo_if (m_F_X10_isShape_14) (mo_if (m_F_X10_isShape_14) (m_F_X10_isShape_15 1))
theorem m_F_X1_ofOne_16 (s_0 : Int32) (s_1 : Int32) : z_Mo (F_X1_ofOne_16 s_0 s_1) :=
  mo_ret
theorem m_F_X1_ofOne (p0 : Int32) (p1 : Int32) : z_Mo (F_X1_ofOne p0 p1) :=
  mo_bd (m_F_X1_indexesOf p0) (fun x1 => mo_if (m_F_X1_ofOne_16 x1 262144) (m_F_X1_ofOne_16 x1 16384))
theorem m_F_X7_init (a0 : Nat) (p0 : Int32) (p1 : Int32) (p2 : Int32) (p3 : Int32) : z_Mo (F_X7_init a0 p0 p1 p2 p3) :=
  mo_bd (mo_pf (by decide)) (fun _ => mo_bd mo_ck (fun _ => mo_bd (mo_pf (by decide)) (fun _ => mo_bd (mo_pf (by decide)) (fun _ => mo_bd (mo_pf (by decide)) (fun _ => mo_ret)))))
theorem m_F_X4_addPlace (a0 : Nat) (p0 : Int32) (p1 : Int32) (p2 : Int32) : z_Mo (F_X4_addPlace a0 p0 p1 p2) :=
  mo_bd (mo_nwa (by decide)) (fun a1 => mo_bd (mo_nwo (by decide)) (fun a2 => mo_bd (mo_gi (by decide)) (fun x3 => mo_bd (m_F_X7_init a2 x3 p0 p1 p2) (fun _ => mo_bd mo_sa (fun _ => mo_bd (mo_nwa (by decide)) (fun a4 => mo_bd (m_F_X1_ofOne 0 p0) (fun x5 => mo_bd mo_si (fun _ => mo_bd (mo_rc (by decide)) (fun b7 => mo_bd (m_F_X4_keep b7 0 ((some a1)) ((some a4))) (fun x6 => mo_ret))))))))))
theorem m_F_X10_addPlace_46 (a0 : Nat) (s_0 : Int32) : z_Mo (F_X10_addPlace_46 a0 s_0) :=
  mo_ret
theorem m_F_X10_addPlace_21 (a0 : Nat) (x_1 : Int32) (x_2 : Int32) (x_3 : Int32) : z_Mo (F_X10_addPlace_21 a0 x_1 x_2 x_3) :=
  mo_bd (mo_ga (by decide)) (fun r6 => mo_bd (mo_rc (by decide)) (fun b8 => mo_bd (m_F_X4_isFull b8) (fun x7 => mo_if (mo_bd (mo_ga (by decide)) (fun r10 => mo_bd (mo_rc (by decide)) (fun b12 => mo_bd (m_F_X4_addPlace b12 x_1 x_2 x_3) (fun x11 => m_F_X10_addPlace_46 a0 x11)))) (m_F_X10_addPlace_46 a0 ((-2))))))
theorem m_F_X10_addPlace_19 (a0 : Nat) : z_Mo (F_X10_addPlace_19 a0) :=
  mo_ret
theorem m_F_X10_addPlace (a0 : Nat) (p0 : Int32) (p1 : Int32) (p2 : Int32) : z_Mo (F_X10_addPlace a0 p0 p1 p2) :=
  mo_bd (m_F_X10_isLabel p1) (fun x1 => mo_if (m_F_X10_addPlace_19 a0) (mo_if (m_F_X10_addPlace_21 a0 p0 p1 p2) (mo_bd (m_F_X10_isShape p2) (fun x4 => mo_if (m_F_X10_addPlace_19 a0) (m_F_X10_addPlace_21 a0 p0 p1 p2)))))
theorem m_F_X4_bagsMarked_103 (a0 : Nat) (ih53 : Int32 → Int32 → Option Nat → Int32 → Int32 → zMn (Option Nat)) (h_ih53 : ∀ (y0 : Int32) (y1 : Int32) (y2 : Option Nat) (y3 : Int32) (y4 : Int32), z_Mo (ih53 y0 y1 y2 y3 y4)) (x_1 : Int32) (x_2 : Int32) (r_3 : Option Nat) (x_4 : Int32) (x_5 : Int32) : z_Mo (F_X4_bagsMarked_103 a0 ih53 x_1 x_2 r_3 x_4 x_5) :=
  h_ih53 x_1 x_2 r_3 x_4 (x_5 + 1)
theorem m_B_X4_bagsMarked_53 (a0 : Nat) (ih53 : Int32 → Int32 → Option Nat → Int32 → Int32 → zMn (Option Nat)) (h_ih53 : ∀ (y0 : Int32) (y1 : Int32) (y2 : Option Nat) (y3 : Int32) (y4 : Int32), z_Mo (ih53 y0 y1 y2 y3 y4)) (x_1 : Int32) (x_2 : Int32) (r_3 : Option Nat) (x_4 : Int32) (x_5 : Int32) : z_Mo (B_X4_bagsMarked_53 a0 ih53 x_1 x_2 r_3 x_4 x_5) :=
  mo_bd (mo_ga (by decide)) (fun r10 => mo_bd (mo_gi (by decide)) (fun x11 => mo_if (mo_ret) (mo_bd (mo_ga (by decide)) (fun r13 => mo_bd (mo_ga (by decide)) (fun r14 => mo_bd mo_li (fun x15 => mo_if (m_F_X4_bagsMarked_103 a0 ih53 h_ih53 x_1 x_2 r_3 x_4 x_5) (mo_if (m_F_X4_bagsMarked_103 a0 ih53 h_ih53 x_1 x_2 r_3 x_4 x_5) (mo_bd (mo_ga (by decide)) (fun r18 => mo_bd (mo_ga (by decide)) (fun r19 => mo_bd mo_li (fun x20 => mo_bd mo_si (fun _ => m_F_X4_bagsMarked_103 a0 ih53 h_ih53 x_1 x_2 r_3 (x_4 + 1) x_5))))))))))))
theorem m_F_X4_bagsMarked_53 (a0 : Nat) : ∀ (n : Nat) (s : Int32 × Int32 × (Option Nat) × Int32 × Int32), z_Mo (F_X4_bagsMarked_53 a0 n s) :=
  mo_fix (fun ih hih s => m_B_X4_bagsMarked_53 a0 (fun y0 y1 y2 y3 y4 => ih (y0, y1, y2, y3, y4)) (fun y0 y1 y2 y3 y4 => hih (y0, y1, y2, y3, y4)) s.1 s.2.1 s.2.2.1 s.2.2.2.1 s.2.2.2.2)
theorem m_F_X4_bagsMarked_35 (a0 : Nat) (ih4 : Int32 → Int32 → Int32 → zMn (Option Nat)) (h_ih4 : ∀ (y0 : Int32) (y1 : Int32) (y2 : Int32), z_Mo (ih4 y0 y1 y2)) (x_1 : Int32) (x_3 : Int32) (s_0 : Int32) (s_1 : Int32) : z_Mo (F_X4_bagsMarked_35 a0 ih4 x_1 x_3 s_0 s_1) :=
  mo_bd mo_ret (fun x9 => h_ih4 x_1 x9 (x_3 + 1))
theorem m_B_X4_bagsMarked_4 (a0 : Nat) (ih4 : Int32 → Int32 → Int32 → zMn (Option Nat)) (h_ih4 : ∀ (y0 : Int32) (y1 : Int32) (y2 : Int32), z_Mo (ih4 y0 y1 y2)) (x_1 : Int32) (x_2 : Int32) (x_3 : Int32) : z_Mo (B_X4_bagsMarked_4 a0 ih4 x_1 x_2 x_3) :=
  mo_bd (mo_ga (by decide)) (fun r1 => mo_bd (mo_gi (by decide)) (fun x2 => mo_if (mo_bd (mo_nwa (by decide)) (fun a4 => m_F_X4_bagsMarked_53 a0 z_N (x_1, x_2, (some a4), 0, 0))) (mo_bd (mo_ga (by decide)) (fun r5 => mo_bd (mo_ga (by decide)) (fun r6 => mo_bd mo_li (fun x7 => mo_if (m_F_X4_bagsMarked_35 a0 ih4 h_ih4 x_1 x_3 x_2 0) (m_F_X4_bagsMarked_35 a0 ih4 h_ih4 x_1 x_3 x_2 1)))))))
theorem m_F_X4_bagsMarked_4 (a0 : Nat) : ∀ (n : Nat) (s : Int32 × Int32 × Int32), z_Mo (F_X4_bagsMarked_4 a0 n s) :=
  mo_fix (fun ih hih s => m_B_X4_bagsMarked_4 a0 (fun y0 y1 y2 => ih (y0, y1, y2)) (fun y0 y1 y2 => hih (y0, y1, y2)) s.1 s.2.1 s.2.2)
theorem m_F_X4_bagsMarked (a0 : Nat) (p0 : Int32) : z_Mo (F_X4_bagsMarked a0 p0) :=
  m_F_X4_bagsMarked_4 a0 z_N (p0, 0, 0)
theorem m_F_X2_markIn_20 (a0 : Nat) : z_Mo (F_X2_markIn_20 a0) :=
  mo_ret
theorem m_F_X2_markIn (a0 : Nat) (p0 : Int32) (p1 : Int32) : z_Mo (F_X2_markIn a0 p0 p1) :=
  mo_bd (mo_rc (by decide)) (fun b2 => mo_bd (m_F_X2_enter b2 p0) (fun x1 => mo_if (m_F_X2_markIn_20 a0) (mo_bd (mo_ga (by decide)) (fun r4 => mo_bd mo_li (fun x5 => mo_bd mo_si (fun _ => m_F_X2_markIn_20 a0))))))
theorem m_F_X2_spotOf_25 (a0 : Nat) (s_0 : Int32) : z_Mo (F_X2_spotOf_25 a0 s_0) :=
  mo_ret
theorem m_F_X2_spotOf (a0 : Nat) (p0 : Int32) : z_Mo (F_X2_spotOf a0 p0) :=
  mo_bd mo_ret (fun x1 => mo_if (mo_bd (mo_ga (by decide)) (fun r3 => mo_bd mo_li (fun x4 => m_F_X2_spotOf_25 a0 (x4 - 1)))) (m_F_X2_spotOf_25 a0 ((-1))))
theorem m_F_X4_countParts_125 (a0 : Nat) (ih27 : Option Nat → Int32 → Int32 → zMn Unit) (h_ih27 : ∀ (y0 : Option Nat) (y1 : Int32) (y2 : Int32), z_Mo (ih27 y0 y1 y2)) (r_1 : Option Nat) (x_2 : Int32) (x_3 : Int32) : z_Mo (F_X4_countParts_125 a0 ih27 r_1 x_2 x_3) :=
  h_ih27 r_1 x_2 (x_3 + 1)
theorem m_F_X4_countParts_119 (a0 : Nat) (ih27 : Option Nat → Int32 → Int32 → zMn Unit) (h_ih27 : ∀ (y0 : Option Nat) (y1 : Int32) (y2 : Int32), z_Mo (ih27 y0 y1 y2)) (ih45 : Option Nat → Int32 → Int32 → Int32 → Int32 → zMn Unit) (h_ih45 : ∀ (y0 : Option Nat) (y1 : Int32) (y2 : Int32) (y3 : Int32) (y4 : Int32), z_Mo (ih45 y0 y1 y2 y3 y4)) (r_1 : Option Nat) (x_2 : Int32) (x_3 : Int32) (x_4 : Int32) (x_5 : Int32) : z_Mo (F_X4_countParts_119 a0 ih27 ih45 r_1 x_2 x_3 x_4 x_5) :=
  h_ih45 r_1 x_2 x_3 x_4 (x_5 + 1)
theorem m_B_X4_countParts_45 (a0 : Nat) (ih27 : Option Nat → Int32 → Int32 → zMn Unit) (h_ih27 : ∀ (y0 : Option Nat) (y1 : Int32) (y2 : Int32), z_Mo (ih27 y0 y1 y2)) (ih45 : Option Nat → Int32 → Int32 → Int32 → Int32 → zMn Unit) (h_ih45 : ∀ (y0 : Option Nat) (y1 : Int32) (y2 : Int32) (y3 : Int32) (y4 : Int32), z_Mo (ih45 y0 y1 y2 y3 y4)) (r_1 : Option Nat) (x_2 : Int32) (x_3 : Int32) (x_4 : Int32) (x_5 : Int32) : z_Mo (B_X4_countParts_45 a0 ih27 ih45 r_1 x_2 x_3 x_4 x_5) :=
  mo_if (m_F_X4_countParts_125 a0 ih27 h_ih27 r_1 x_2 x_3) (mo_bd (mo_ga (by decide)) (fun r13 => mo_bd mo_len (fun n14 => mo_if (m_F_X4_countParts_125 a0 ih27 h_ih27 r_1 x_2 x_3) (mo_bd (mo_ga (by decide)) (fun r16 => mo_bd (mo_ga (by decide)) (fun r17 => mo_bd mo_li (fun x18 => mo_bd (mo_ga (by decide)) (fun r19 => mo_bd mo_li (fun x20 => mo_bd mo_ret (fun x21 => mo_bd (mo_ga (by decide)) (fun r22 => mo_bd mo_li (fun x23 => mo_if (m_F_X4_countParts_119 a0 ih27 h_ih27 ih45 h_ih45 r_1 x_2 x_3 x_4 x_5) (mo_bd (m_F_X1_fits x21) (fun x25 => mo_if (m_F_X4_countParts_119 a0 ih27 h_ih27 ih45 h_ih45 r_1 x_2 x_3 x_4 x_5) (mo_bd (mo_ga (by decide)) (fun r27 => mo_bd (mo_ga (by decide)) (fun r28 => mo_bd (mo_ga (by decide)) (fun r29 => mo_bd mo_li (fun x30 => mo_bd (mo_rc (by decide)) (fun b31 => mo_bd (m_F_X2_markIn b31 x21 (x30 <<< (1 &&& 31))) (fun _ => m_F_X4_countParts_119 a0 ih27 h_ih27 ih45 h_ih45 r_1 x_2 x_3 x_4 x_5)))))))))))))))))))))
theorem m_F_X4_countParts_45 (a0 : Nat) (ih27 : Option Nat → Int32 → Int32 → zMn Unit) (h_ih27 : ∀ (y0 : Option Nat) (y1 : Int32) (y2 : Int32), z_Mo (ih27 y0 y1 y2)) : ∀ (n : Nat) (s : (Option Nat) × Int32 × Int32 × Int32 × Int32), z_Mo (F_X4_countParts_45 a0 ih27 n s) :=
  mo_fix (fun ih hih s => m_B_X4_countParts_45 a0 ih27 h_ih27 (fun y0 y1 y2 y3 y4 => ih (y0, y1, y2, y3, y4)) (fun y0 y1 y2 y3 y4 => hih (y0, y1, y2, y3, y4)) s.1 s.2.1 s.2.2.1 s.2.2.2.1 s.2.2.2.2)
theorem m_B_X4_countParts_27 (a0 : Nat) (ih27 : Option Nat → Int32 → Int32 → zMn Unit) (h_ih27 : ∀ (y0 : Option Nat) (y1 : Int32) (y2 : Int32), z_Mo (ih27 y0 y1 y2)) (r_1 : Option Nat) (x_2 : Int32) (x_3 : Int32) : z_Mo (B_X4_countParts_27 a0 ih27 r_1 x_2 x_3) :=
  mo_if (mo_ret) (mo_bd (mo_ga (by decide)) (fun r9 => mo_bd (mo_rc (by decide)) (fun b11 => mo_bd (m_F_X2_spotOf b11 x_3) (fun x10 => m_F_X4_countParts_45 a0 ih27 h_ih27 z_N (r_1, x_2, x_3, x10, 0)))))
theorem m_F_X4_countParts_27 (a0 : Nat) : ∀ (n : Nat) (s : (Option Nat) × Int32 × Int32), z_Mo (F_X4_countParts_27 a0 n s) :=
  mo_fix (fun ih hih s => m_B_X4_countParts_27 a0 (fun y0 y1 y2 => ih (y0, y1, y2)) (fun y0 y1 y2 => hih (y0, y1, y2)) s.1 s.2.1 s.2.2)
theorem m_F_X4_countParts (a0 : Nat) (q0 : Option Nat) : z_Mo (F_X4_countParts a0 q0) :=
  mo_bd (mo_ga (by decide)) (fun r1 => mo_bd (mo_rc (by decide)) (fun b2 => mo_bd (m_F_X2_clear b2) (fun _ => mo_bd (mo_ga (by decide)) (fun r3 => mo_bd (mo_rc (by decide)) (fun b4 => mo_bd (m_F_X2_markIn b4 0 1) (fun _ => mo_bd (mo_ga (by decide)) (fun r5 => mo_bd mo_len (fun n6 => mo_bd (m_F_X1_indexesOf n6) (fun x7 => m_F_X4_countParts_27 a0 z_N (q0, x7, 0))))))))))
theorem m_B_X4_holdsEmpty_2 (ih2 : Option Nat → Int32 → zMn Int32) (h_ih2 : ∀ (y0 : Option Nat) (y1 : Int32), z_Mo (ih2 y0 y1)) (r_0 : Option Nat) (x_1 : Int32) : z_Mo (B_X4_holdsEmpty_2 ih2 r_0 x_1) :=
  mo_bd mo_len (fun n1 => mo_if (mo_rb) (mo_bd mo_li (fun x3 => mo_if (mo_rb) (h_ih2 r_0 (x_1 + 1)))))
theorem m_F_X4_holdsEmpty_2  : ∀ (n : Nat) (s : (Option Nat) × Int32), z_Mo (F_X4_holdsEmpty_2 n s) :=
  mo_fix (fun ih hih s => m_B_X4_holdsEmpty_2  (fun y0 y1 => ih (y0, y1)) (fun y0 y1 => hih (y0, y1)) s.1 s.2)
theorem m_F_X4_holdsEmpty (q0 : Option Nat) : z_Mo (F_X4_holdsEmpty q0) :=
  m_F_X4_holdsEmpty_2 z_N (q0, 0)
theorem m_B_X4_repeated_61 (a0 : Nat) (ih61 : Int32 → Int32 → Int32 → zMn (Option Nat)) (h_ih61 : ∀ (y0 : Int32) (y1 : Int32) (y2 : Int32), z_Mo (ih61 y0 y1 y2)) (x_5 : Int32) (x_6 : Int32) (x_7 : Int32) : z_Mo (B_X4_repeated_61 a0 ih61 x_5 x_6 x_7) :=
  mo_if (mo_bd (mo_rc (by decide)) (fun b11 => mo_bd (m_F_X4_bagsMarked b11 x_6) (fun r10 => mo_ret))) (mo_bd mo_ret (fun x12 => h_ih61 x_5 x12 (x_7 + 1)))
theorem m_F_X4_repeated_61 (a0 : Nat) : ∀ (n : Nat) (s : Int32 × Int32 × Int32), z_Mo (F_X4_repeated_61 a0 n s) :=
  mo_fix (fun ih hih s => m_B_X4_repeated_61 a0 (fun y0 y1 y2 => ih (y0, y1, y2)) (fun y0 y1 y2 => hih (y0, y1, y2)) s.1 s.2.1 s.2.2)
theorem m_F_X4_repeated_52 (a0 : Nat) (x_4 : Int32) (s_0 : Int32) : z_Mo (F_X4_repeated_52 a0 x_4 s_0) :=
  m_F_X4_repeated_61 a0 z_N (s_0, 0, x_4)
theorem m_F_X4_repeated_34 (a0 : Nat) (x_3 : Int32) (s_0 : Int32) : z_Mo (F_X4_repeated_34 a0 x_3 s_0) :=
  mo_if (m_F_X4_repeated_52 a0 s_0 8) (m_F_X4_repeated_52 a0 s_0 (if 8 < x_3 then 8 else x_3))
theorem m_F_X4_repeated_14 (a0 : Nat) (r_1 : Option Nat) (x_2 : Int32) (x_3 : Int32) : z_Mo (F_X4_repeated_14 a0 r_1 x_2 x_3) :=
  mo_bd (mo_rc (by decide)) (fun b4 => mo_bd (m_F_X4_countParts b4 r_1) (fun _ => mo_bd (mo_ga (by decide)) (fun r5 => mo_bd (m_F_X4_holdsEmpty r5) (fun x6 => mo_if (m_F_X4_repeated_34 a0 x_3 x_2) (m_F_X4_repeated_34 a0 x_3 0)))))
theorem m_F_X4_repeated (a0 : Nat) (q0 : Option Nat) (p1 : Int32) (p2 : Int32) : z_Mo (F_X4_repeated a0 q0 p1 p2) :=
  mo_if (m_F_X4_repeated_14 a0 q0 p1 p2) (mo_if (m_F_X4_repeated_14 a0 q0 p1 p2) (mo_bd (mo_nwa (by decide)) (fun a3 => mo_ret)))
