theorem m_F_X10_ways (a0 : Nat) (p0 : Int32) (p1 : Int32) : z_Mo (F_X10_ways a0 p0 p1) :=
  mo_bd (m_F_X10_isNode p0) (fun x1 => mo_if (m_F_X10_ways_15 a0) (mo_bd (mo_rc (by decide)) (fun b4 => mo_bd (m_F_X10_isBare b4 p1) (fun x3 => mo_if (m_F_X10_ways_15 a0) (mo_bd (mo_ga (by decide)) (fun r6 => mo_bd (mo_rc (by decide)) (fun b8 => mo_bd (m_F_X9_settled b8) (fun x7 => mo_if (m_F_X10_ways_53 a0 ((-3))) (mo_bd (mo_ga (by decide)) (fun r10 => mo_bd (mo_ga (by decide)) (fun r11 => mo_bd mo_la (fun r12 => mo_bd (mo_ga (by decide)) (fun r13 => mo_bd (mo_ga (by decide)) (fun r14 => mo_bd (mo_rc (by decide)) (fun b16 => mo_bd (m_F_X6_countWays b16 p0 r12 r14) (fun x15 => m_F_X10_ways_53 a0 x15))))))))))))))))
theorem m_F_X10_wrong (a0 : Nat) : z_Mo (F_X10_wrong a0) :=
  mo_bd (mo_ga (by decide)) (fun r1 => mo_bd (mo_rc (by decide)) (fun b3 => mo_bd (m_F_X9_leastWrong b3) (fun x2 => mo_ret)))
theorem m_F_X10_other_54 (a0 : Nat) : z_Mo (F_X10_other_54 a0) :=
  mo_no
theorem m_F_X10_other_38 (a0 : Nat) (x_1 : Int32) (x_3 : Int32) (t_0 : Option Nat) : z_Mo (F_X10_other_38 a0 x_1 x_3 t_0) :=
  mo_if (m_F_X10_other_54 a0) (mo_bd (mo_rc (by decide)) (fun b10 => mo_bd (m_F_X0_count b10 x_1) (fun x9 => mo_if (mo_bd (mo_rc (by decide)) (fun b13 => mo_bd (m_F_X0_key b13 x_1 x_3) (fun x12 => mo_bd (m_F_X5_otherOf x12) (fun x14 => mo_ret)))) (m_F_X10_other_54 a0))))
theorem m_F_X10_other (a0 : Nat) (p0 : Int32) (p1 : Int32) (p2 : Int32) : z_Mo (F_X10_other a0 p0 p1 p2) :=
  mo_bd (m_F_X10_isNode p0) (fun x1 => mo_if (mo_no) (mo_if (mo_bd (mo_ga (by decide)) (fun r4 => mo_bd (mo_ga (by decide)) (fun r5 => m_F_X10_other_38 a0 p0 p2 r5))) (mo_bd (mo_ga (by decide)) (fun r6 => mo_bd (mo_ga (by decide)) (fun r7 => m_F_X10_other_38 a0 p0 p2 r7)))))
theorem m_F_X10_otherT_54 (a0 : Nat) : z_Mo (F_X10_otherT_54 a0) :=
  mo_thr
theorem m_F_X10_otherT_38 (a0 : Nat) (x_1 : Int32) (x_3 : Int32) (t_0 : Option Nat) : z_Mo (F_X10_otherT_38 a0 x_1 x_3 t_0) :=
  mo_if (m_F_X10_otherT_54 a0) (mo_bd (mo_rc (by decide)) (fun b10 => mo_bd (m_F_X0_count b10 x_1) (fun x9 => mo_if (mo_bd (mo_rc (by decide)) (fun b13 => mo_bd (m_F_X0_key b13 x_1 x_3) (fun x12 => mo_bd (m_F_X5_otherOf x12) (fun x14 => mo_no)))) (m_F_X10_otherT_54 a0))))
theorem m_F_X10_otherT (a0 : Nat) (p0 : Int32) (p1 : Int32) (p2 : Int32) : z_Mo (F_X10_otherT a0 p0 p1 p2) :=
  mo_bd (m_F_X10_isNode p0) (fun x1 => mo_if (mo_thr) (mo_if (mo_bd (mo_ga (by decide)) (fun r4 => mo_bd (mo_ga (by decide)) (fun r5 => m_F_X10_otherT_38 a0 p0 p2 r5))) (mo_bd (mo_ga (by decide)) (fun r6 => mo_bd (mo_ga (by decide)) (fun r7 => m_F_X10_otherT_38 a0 p0 p2 r7)))))
theorem m_F_X11_find_58 (a0 : Nat) (ih3 : Int32 → Int32 → Int32 → Int32 → zMn Int32) (h_ih3 : ∀ (y0 : Int32) (y1 : Int32) (y2 : Int32) (y3 : Int32), z_Mo (ih3 y0 y1 y2 y3)) (x_1 : Int32) (x_2 : Int32) (x_3 : Int32) (x_4 : Int32) : z_Mo (F_X11_find_58 a0 ih3 x_1 x_2 x_3 x_4) :=
  h_ih3 x_1 x_2 x_3 (x_4 + 1)
theorem m_B_X11_find_3 (a0 : Nat) (ih3 : Int32 → Int32 → Int32 → Int32 → zMn Int32) (h_ih3 : ∀ (y0 : Int32) (y1 : Int32) (y2 : Int32) (y3 : Int32), z_Mo (ih3 y0 y1 y2 y3)) (x_1 : Int32) (x_2 : Int32) (x_3 : Int32) (x_4 : Int32) : z_Mo (B_X11_find_3 a0 ih3 x_1 x_2 x_3 x_4) :=
  mo_bd (mo_gi (by decide)) (fun x1 => mo_if (mo_ret) (mo_bd (mo_ga (by decide)) (fun r3 => mo_bd mo_li (fun x4 => mo_if (mo_bd (mo_ga (by decide)) (fun r6 => mo_bd mo_li (fun x7 => mo_if (mo_bd (mo_ga (by decide)) (fun r9 => mo_bd mo_li (fun x10 => mo_if (mo_ret) (m_F_X11_find_58 a0 ih3 h_ih3 x_1 x_2 x_3 x_4)))) (m_F_X11_find_58 a0 ih3 h_ih3 x_1 x_2 x_3 x_4)))) (m_F_X11_find_58 a0 ih3 h_ih3 x_1 x_2 x_3 x_4)))))
theorem m_F_X11_find_3 (a0 : Nat) : ∀ (n : Nat) (s : Int32 × Int32 × Int32 × Int32), z_Mo (F_X11_find_3 a0 n s) :=
  mo_fix (fun ih hih s => m_B_X11_find_3 a0 (fun y0 y1 y2 y3 => ih (y0, y1, y2, y3)) (fun y0 y1 y2 y3 => hih (y0, y1, y2, y3)) s.1 s.2.1 s.2.2.1 s.2.2.2)
theorem m_F_X11_find (a0 : Nat) (p0 : Int32) (p1 : Int32) (p2 : Int32) : z_Mo (F_X11_find a0 p0 p1 p2) :=
  m_F_X11_find_3 a0 z_N (p0, p1, p2, 0)
theorem m_F_X11_isLabel_15 (s_0 : Int32) : z_Mo (F_X11_isLabel_15 s_0) :=
  mo_rb
theorem m_F_X11_isLabel_14  : z_Mo (F_X11_isLabel_14) :=
  m_F_X11_isLabel_15 0
theorem m_F_X11_isLabel (p0 : Int32) : z_Mo (F_X11_isLabel p0) :=
  mo_if (m_F_X11_isLabel_14) (mo_if (m_F_X11_isLabel_14) (m_F_X11_isLabel_15 1))
theorem m_F_X11_isNode_15 (s_0 : Int32) : z_Mo (F_X11_isNode_15 s_0) :=
  mo_rb
theorem m_F_X11_isNode_14  : z_Mo (F_X11_isNode_14) :=
  m_F_X11_isNode_15 0
theorem m_F_X11_isNode (p0 : Int32) : z_Mo (F_X11_isNode p0) :=
  mo_if (m_F_X11_isNode_14) (mo_if (m_F_X11_isNode_14) (m_F_X11_isNode_15 1))
theorem m_F_X11_many_35 (a0 : Nat) (ih5 : Int32 → Int32 → Int32 → Int32 → zMn Int32) (h_ih5 : ∀ (y0 : Int32) (y1 : Int32) (y2 : Int32) (y3 : Int32), z_Mo (ih5 y0 y1 y2 y3)) (x_1 : Int32) (x_2 : Int32) (x_4 : Int32) (s_0 : Int32) (s_1 : Int32) : z_Mo (F_X11_many_35 a0 ih5 x_1 x_2 x_4 s_0 s_1) :=
  mo_bd mo_ret (fun x6 => h_ih5 x_1 x_2 x6 (x_4 + 1))
theorem m_B_X11_many_5 (a0 : Nat) (ih5 : Int32 → Int32 → Int32 → Int32 → zMn Int32) (h_ih5 : ∀ (y0 : Int32) (y1 : Int32) (y2 : Int32) (y3 : Int32), z_Mo (ih5 y0 y1 y2 y3)) (x_1 : Int32) (x_2 : Int32) (x_3 : Int32) (x_4 : Int32) : z_Mo (B_X11_many_5 a0 ih5 x_1 x_2 x_3 x_4) :=
  mo_bd (mo_gi (by decide)) (fun x1 => mo_if (mo_ret) (mo_bd (mo_ga (by decide)) (fun r3 => mo_bd mo_li (fun x4 => mo_if (m_F_X11_many_35 a0 ih5 h_ih5 x_1 x_2 x_4 x_3 1) (m_F_X11_many_35 a0 ih5 h_ih5 x_1 x_2 x_4 x_3 0)))))
theorem m_F_X11_many_5 (a0 : Nat) : ∀ (n : Nat) (s : Int32 × Int32 × Int32 × Int32), z_Mo (F_X11_many_5 a0 n s) :=
  mo_fix (fun ih hih s => m_B_X11_many_5 a0 (fun y0 y1 y2 y3 => ih (y0, y1, y2, y3)) (fun y0 y1 y2 y3 => hih (y0, y1, y2, y3)) s.1 s.2.1 s.2.2.1 s.2.2.2)
theorem m_F_X11_many (a0 : Nat) (p0 : Int32) (p1 : Int32) : z_Mo (F_X11_many a0 p0 p1) :=
  m_F_X11_many_5 a0 z_N (p0, p1, 0, 0)
theorem m_F_X11_arc_195 (a0 : Nat) : z_Mo (F_X11_arc_195 a0) :=
  mo_bd (mo_pf (by decide)) (fun _ => mo_ret)
theorem m_B_X11_arc_157 (a0 : Nat) (ih157 : Int32 → Int32 → zMn Int32) (h_ih157 : ∀ (y0 : Int32) (y1 : Int32), z_Mo (ih157 y0 y1)) (x_5 : Int32) (x_6 : Int32) : z_Mo (B_X11_arc_157 a0 ih157 x_5 x_6) :=
  mo_if (m_F_X11_arc_195 a0) (mo_bd (mo_ga (by decide)) (fun r29 => mo_bd (mo_ga (by decide)) (fun r30 => mo_bd (mo_gi (by decide)) (fun x31 => mo_bd mo_li (fun x32 => mo_bd mo_si (fun _ => h_ih157 x_5 (x_6 + 1)))))))
theorem m_F_X11_arc_157 (a0 : Nat) : ∀ (n : Nat) (s : Int32 × Int32), z_Mo (F_X11_arc_157 a0 n s) :=
  mo_fix (fun ih hih s => m_B_X11_arc_157 a0 (fun y0 y1 => ih (y0, y1)) (fun y0 y1 => hih (y0, y1)) s.1 s.2)
theorem m_F_X11_arc_88 (a0 : Nat) : z_Mo (F_X11_arc_88 a0) :=
  mo_ret
theorem m_F_X11_arc_49 (a0 : Nat) (x_1 : Int32) (x_2 : Int32) (x_3 : Int32) (x_4 : Int32) (x_5 : Int32) (s_0 : Int32) (s_1 : Int32) : z_Mo (F_X11_arc_49 a0 x_1 x_2 x_3 x_4 x_5 s_0 s_1) :=
  mo_if (mo_ret) (mo_if (mo_bd (mo_gi (by decide)) (fun x12 => mo_bd (mo_pf (by decide)) (fun _ => m_F_X11_arc_157 a0 z_N (x_5, 0)))) (mo_bd (mo_gi (by decide)) (fun x13 => mo_if (m_F_X11_arc_88 a0) (mo_bd (mo_rc (by decide)) (fun b16 => mo_bd (m_F_X11_many b16 x_1 0) (fun x15 => mo_if (m_F_X11_arc_88 a0) (mo_bd (mo_rc (by decide)) (fun b19 => mo_bd (m_F_X11_many b19 x_3 2) (fun x18 => mo_if (m_F_X11_arc_88 a0) (mo_bd (mo_ga (by decide)) (fun r21 => mo_bd (mo_gi (by decide)) (fun x22 => mo_bd mo_si (fun _ => mo_bd (mo_ga (by decide)) (fun r23 => mo_bd (mo_gi (by decide)) (fun x24 => mo_bd mo_si (fun _ => mo_bd (mo_ga (by decide)) (fun r25 => mo_bd (mo_gi (by decide)) (fun x26 => mo_bd mo_si (fun _ => mo_bd (mo_gi (by decide)) (fun x27 => mo_bd (mo_pf (by decide)) (fun _ => m_F_X11_arc_195 a0)))))))))))))))))))))
theorem m_F_X11_arc_26 (a0 : Nat) : z_Mo (F_X11_arc_26 a0) :=
  mo_ret
theorem m_F_X11_arc (a0 : Nat) (p0 : Int32) (p1 : Int32) (p2 : Int32) (p3 : Int32) : z_Mo (F_X11_arc a0 p0 p1 p2 p3) :=
  mo_bd (mo_pf (by decide)) (fun _ => mo_bd (m_F_X11_isNode p0) (fun x1 => mo_if (m_F_X11_arc_26 a0) (mo_bd (m_F_X11_isLabel p1) (fun x3 => mo_if (m_F_X11_arc_26 a0) (mo_bd (m_F_X11_isNode p2) (fun x5 => mo_if (m_F_X11_arc_26 a0) (mo_bd (mo_rc (by decide)) (fun b8 => mo_bd (m_F_X11_find b8 p0 p1 p2) (fun x7 => mo_if (m_F_X11_arc_49 a0 p0 p1 p2 p3 x7 p3 0) (m_F_X11_arc_49 a0 p0 p1 p2 p3 x7 p3 1))))))))))
theorem m_F_X11_arcs (a0 : Nat) : z_Mo (F_X11_arcs a0) :=
  mo_bd (mo_pf (by decide)) (fun _ => mo_bd (mo_gi (by decide)) (fun x1 => mo_ret))
theorem m_F_X11_isExpression_17 (a0 : Nat) (s_0 : Int32) : z_Mo (F_X11_isExpression_17 a0 s_0) :=
  mo_rb
theorem m_F_X11_isExpression_16 (a0 : Nat) : z_Mo (F_X11_isExpression_16 a0) :=
  m_F_X11_isExpression_17 a0 0
theorem m_F_X11_isExpression (a0 : Nat) (p0 : Int32) : z_Mo (F_X11_isExpression a0 p0) :=
  mo_if (m_F_X11_isExpression_16 a0) (mo_bd (mo_gi (by decide)) (fun x2 => mo_if (m_F_X11_isExpression_16 a0) (m_F_X11_isExpression_17 a0 1)))
theorem m_F_X11_isShape_15 (s_0 : Int32) : z_Mo (F_X11_isShape_15 s_0) :=
  mo_rb
theorem m_F_X11_isShape_14  : z_Mo (F_X11_isShape_14) :=
  m_F_X11_isShape_15 0
theorem m_F_X11_isShape (p0 : Int32) : z_Mo (F_X11_isShape p0) :=
  mo_if (m_F_X11_isShape_14) (mo_if (m_F_X11_isShape_14) (m_F_X11_isShape_15 1))
theorem m_F_X11_expression_135 (a0 : Nat) (x_1 : Int32) (x_2 : Int32) (x_3 : Int32) (x_4 : Int32) (x_5 : Int32) : z_Mo (F_X11_expression_135 a0 x_1 x_2 x_3 x_4 x_5) :=
  mo_if (mo_ret) (mo_bd (mo_gi (by decide)) (fun x35 => mo_if (mo_ret) (mo_bd (mo_ga (by decide)) (fun r37 => mo_bd (mo_gi (by decide)) (fun x38 => mo_bd mo_si (fun _ => mo_bd (mo_ga (by decide)) (fun r39 => mo_bd (mo_gi (by decide)) (fun x40 => mo_bd mo_si (fun _ => mo_bd (mo_ga (by decide)) (fun r41 => mo_bd (mo_gi (by decide)) (fun x42 => mo_bd mo_si (fun _ => mo_bd (mo_ga (by decide)) (fun r43 => mo_bd (mo_gi (by decide)) (fun x44 => mo_bd mo_si (fun _ => mo_bd (mo_gi (by decide)) (fun x45 => mo_bd (mo_pf (by decide)) (fun _ => mo_bd (mo_gi (by decide)) (fun x46 => mo_ret))))))))))))))))))
theorem m_F_X11_expression_133 (a0 : Nat) (x_1 : Int32) (x_2 : Int32) (x_3 : Int32) (x_4 : Int32) (s_0 : Int32) : z_Mo (F_X11_expression_133 a0 x_1 x_2 x_3 x_4 s_0) :=
  m_F_X11_expression_135 a0 x_1 x_2 x_3 x_4 s_0
theorem m_F_X11_expression_118 (a0 : Nat) (x_1 : Int32) (x_2 : Int32) (x_3 : Int32) (x_4 : Int32) (s_0 : Int32) : z_Mo (F_X11_expression_118 a0 x_1 x_2 x_3 x_4 s_0) :=
  m_F_X11_expression_135 a0 x_1 x_2 x_3 x_4 s_0
theorem m_F_X11_expression_117 (a0 : Nat) (x_1 : Int32) (x_2 : Int32) (x_3 : Int32) (x_4 : Int32) : z_Mo (F_X11_expression_117 a0 x_1 x_2 x_3 x_4) :=
  m_F_X11_expression_118 a0 x_1 x_2 x_3 x_4 0
theorem m_F_X11_expression_90 (a0 : Nat) (x_1 : Int32) (x_2 : Int32) (x_3 : Int32) (x_4 : Int32) (s_0 : Int32) : z_Mo (F_X11_expression_90 a0 x_1 x_2 x_3 x_4 s_0) :=
  m_F_X11_expression_135 a0 x_1 x_2 x_3 x_4 s_0
theorem m_F_X11_expression_89 (a0 : Nat) (x_1 : Int32) (x_2 : Int32) (x_3 : Int32) (x_4 : Int32) : z_Mo (F_X11_expression_89 a0 x_1 x_2 x_3 x_4) :=
  m_F_X11_expression_90 a0 x_1 x_2 x_3 x_4 0
theorem m_F_X11_expression_64 (a0 : Nat) (x_1 : Int32) (x_2 : Int32) (x_3 : Int32) (x_4 : Int32) (s_0 : Int32) : z_Mo (F_X11_expression_64 a0 x_1 x_2 x_3 x_4 s_0) :=
  m_F_X11_expression_135 a0 x_1 x_2 x_3 x_4 s_0
theorem m_F_X11_expression_63 (a0 : Nat) (x_1 : Int32) (x_2 : Int32) (x_3 : Int32) (x_4 : Int32) : z_Mo (F_X11_expression_63 a0 x_1 x_2 x_3 x_4) :=
  m_F_X11_expression_64 a0 x_1 x_2 x_3 x_4 0
theorem m_F_X11_expression_59 (a0 : Nat) (x_1 : Int32) (x_2 : Int32) (x_3 : Int32) (x_4 : Int32) : z_Mo (F_X11_expression_59 a0 x_1 x_2 x_3 x_4) :=
  m_F_X11_expression_64 a0 x_1 x_2 x_3 x_4 1
theorem m_F_X11_expression (a0 : Nat) (p0 : Int32) (p1 : Int32) (p2 : Int32) (p3 : Int32) : z_Mo (F_X11_expression a0 p0 p1 p2 p3) :=
  mo_bd (mo_pf (by decide)) (fun _ => mo_if (mo_bd (m_F_X11_isLabel p1) (fun x2 => mo_if (m_F_X11_expression_63 a0 p0 p1 p2 p3) (mo_if (m_F_X11_expression_59 a0 p0 p1 p2 p3) (mo_bd (m_F_X11_isShape p2) (fun x5 => mo_if (m_F_X11_expression_63 a0 p0 p1 p2 p3) (m_F_X11_expression_59 a0 p0 p1 p2 p3)))))) (mo_if (mo_bd (m_F_X11_isLabel p1) (fun x8 => mo_if (m_F_X11_expression_63 a0 p0 p1 p2 p3) (mo_if (m_F_X11_expression_59 a0 p0 p1 p2 p3) (mo_bd (m_F_X11_isShape p2) (fun x11 => mo_if (m_F_X11_expression_63 a0 p0 p1 p2 p3) (m_F_X11_expression_59 a0 p0 p1 p2 p3)))))) (mo_if (mo_bd (mo_rc (by decide)) (fun b15 => mo_bd (m_F_X11_isExpression b15 p1) (fun x14 => mo_if (m_F_X11_expression_89 a0 p0 p1 p2 p3) (mo_bd (mo_rc (by decide)) (fun b18 => mo_bd (m_F_X11_isExpression b18 p2) (fun x17 => mo_if (m_F_X11_expression_89 a0 p0 p1 p2 p3) (m_F_X11_expression_90 a0 p0 p1 p2 p3 1))))))) (mo_if (mo_bd (mo_rc (by decide)) (fun b22 => mo_bd (m_F_X11_isExpression b22 p1) (fun x21 => mo_if (m_F_X11_expression_89 a0 p0 p1 p2 p3) (mo_bd (mo_rc (by decide)) (fun b25 => mo_bd (m_F_X11_isExpression b25 p2) (fun x24 => mo_if (m_F_X11_expression_89 a0 p0 p1 p2 p3) (m_F_X11_expression_90 a0 p0 p1 p2 p3 1))))))) (mo_if (mo_bd (mo_rc (by decide)) (fun b29 => mo_bd (m_F_X11_isExpression b29 p1) (fun x28 => mo_if (m_F_X11_expression_117 a0 p0 p1 p2 p3) (mo_if (m_F_X11_expression_117 a0 p0 p1 p2 p3) (mo_if (m_F_X11_expression_117 a0 p0 p1 p2 p3) (m_F_X11_expression_118 a0 p0 p1 p2 p3 1)))))) (mo_if (m_F_X11_expression_133 a0 p0 p1 p2 p3 1) (m_F_X11_expression_133 a0 p0 p1 p2 p3 0)))))))
theorem m_F_X11_comesTo_19 (a0 : Nat) (s_0 : Int32) : z_Mo (F_X11_comesTo_19 a0 s_0) :=
  mo_rb
theorem m_F_X11_comesTo (a0 : Nat) (p0 : Int32) (p1 : Int32) : z_Mo (F_X11_comesTo a0 p0 p1) :=
  mo_bd (mo_ga (by decide)) (fun r1 => mo_bd mo_li (fun x2 => mo_if (m_F_X11_comesTo_19 a0 1) (m_F_X11_comesTo_19 a0 0)))
theorem m_F_X11_findPlaces_162 (a0 : Nat) (ih115 : Int32 → Int32 → zMn Unit) (h_ih115 : ∀ (y0 : Int32) (y1 : Int32), z_Mo (ih115 y0 y1)) (x_1 : Int32) (x_2 : Int32) : z_Mo (F_X11_findPlaces_162 a0 ih115 x_1 x_2) :=
  h_ih115 x_1 (x_2 + 1)
theorem m_B_X11_findPlaces_115 (a0 : Nat) (ih115 : Int32 → Int32 → zMn Unit) (h_ih115 : ∀ (y0 : Int32) (y1 : Int32), z_Mo (ih115 y0 y1)) (x_1 : Int32) (x_2 : Int32) : z_Mo (B_X11_findPlaces_115 a0 ih115 x_1 x_2) :=
  mo_if (mo_ret) (mo_bd (mo_ga (by decide)) (fun r24 => mo_bd mo_lb (fun x25 => mo_if (m_F_X11_findPlaces_162 a0 ih115 h_ih115 x_1 x_2) (mo_bd (mo_ga (by decide)) (fun r27 => mo_bd mo_li (fun x28 => mo_if (mo_bd (mo_ga (by decide)) (fun r30 => mo_bd (mo_gi (by decide)) (fun x31 => mo_bd mo_si (fun _ => mo_bd (mo_gi (by decide)) (fun x32 => mo_bd (mo_pf (by decide)) (fun _ => m_F_X11_findPlaces_162 a0 ih115 h_ih115 x_1 x_2)))))) (m_F_X11_findPlaces_162 a0 ih115 h_ih115 x_1 x_2)))))))
theorem m_F_X11_findPlaces_115 (a0 : Nat) : ∀ (n : Nat) (s : Int32 × Int32), z_Mo (F_X11_findPlaces_115 a0 n s) :=
  mo_fix (fun ih hih s => m_B_X11_findPlaces_115 a0 (fun y0 y1 => ih (y0, y1)) (fun y0 y1 => hih (y0, y1)) s.1 s.2)
theorem m_F_X11_findPlaces_102 (a0 : Nat) (ih32 : Int32 → Int32 → zMn Unit) (h_ih32 : ∀ (y0 : Int32) (y1 : Int32), z_Mo (ih32 y0 y1)) (x_1 : Int32) (x_2 : Int32) : z_Mo (F_X11_findPlaces_102 a0 ih32 x_1 x_2) :=
  h_ih32 x_1 (x_2 + (-1))
theorem m_B_X11_findPlaces_32 (a0 : Nat) (ih32 : Int32 → Int32 → zMn Unit) (h_ih32 : ∀ (y0 : Int32) (y1 : Int32), z_Mo (ih32 y0 y1)) (x_1 : Int32) (x_2 : Int32) : z_Mo (B_X11_findPlaces_32 a0 ih32 x_1 x_2) :=
  mo_if (mo_bd (mo_pf (by decide)) (fun _ => m_F_X11_findPlaces_115 a0 z_N (x_1, 0))) (mo_bd (mo_ga (by decide)) (fun r5 => mo_bd mo_lb (fun x6 => mo_if (m_F_X11_findPlaces_102 a0 ih32 h_ih32 x_1 x_2) (mo_bd (mo_ga (by decide)) (fun r8 => mo_bd mo_li (fun x9 => mo_if (m_F_X11_findPlaces_102 a0 ih32 h_ih32 x_1 x_2) (mo_bd (mo_ga (by decide)) (fun r11 => mo_bd mo_li (fun x12 => mo_if (m_F_X11_findPlaces_102 a0 ih32 h_ih32 x_1 x_2) (mo_bd (mo_ga (by decide)) (fun r14 => mo_bd (mo_ga (by decide)) (fun r15 => mo_bd mo_li (fun x16 => mo_bd mo_sb (fun _ => mo_bd (mo_ga (by decide)) (fun r17 => mo_bd mo_li (fun x18 => mo_if (m_F_X11_findPlaces_102 a0 ih32 h_ih32 x_1 x_2) (mo_bd (mo_ga (by decide)) (fun r20 => mo_bd (mo_ga (by decide)) (fun r21 => mo_bd mo_li (fun x22 => mo_bd mo_sb (fun _ => m_F_X11_findPlaces_102 a0 ih32 h_ih32 x_1 x_2)))))))))))))))))))))
theorem m_F_X11_findPlaces_32 (a0 : Nat) : ∀ (n : Nat) (s : Int32 × Int32), z_Mo (F_X11_findPlaces_32 a0 n s) :=
  mo_fix (fun ih hih s => m_B_X11_findPlaces_32 a0 (fun y0 y1 => ih (y0, y1)) (fun y0 y1 => hih (y0, y1)) s.1 s.2)
theorem m_F_X11_findPlaces_23 (a0 : Nat) (ih2 : Int32 → Int32 → zMn Unit) (h_ih2 : ∀ (y0 : Int32) (y1 : Int32), z_Mo (ih2 y0 y1)) (x_1 : Int32) (x_2 : Int32) (t_0 : Option Nat) (s_1 : Int32) (s_2 : Int32) : z_Mo (F_X11_findPlaces_23 a0 ih2 x_1 x_2 t_0 s_1 s_2) :=
  mo_bd mo_sb (fun _ => h_ih2 x_1 (x_2 + 1))
theorem m_B_X11_findPlaces_2 (a0 : Nat) (ih2 : Int32 → Int32 → zMn Unit) (h_ih2 : ∀ (y0 : Int32) (y1 : Int32), z_Mo (ih2 y0 y1)) (x_1 : Int32) (x_2 : Int32) : z_Mo (B_X11_findPlaces_2 a0 ih2 x_1 x_2) :=
  mo_if (m_F_X11_findPlaces_32 a0 z_N (x_1, x_1)) (mo_bd (mo_ga (by decide)) (fun r2 => mo_if (m_F_X11_findPlaces_23 a0 ih2 h_ih2 x_1 x_2 r2 x_2 1) (m_F_X11_findPlaces_23 a0 ih2 h_ih2 x_1 x_2 r2 x_2 0)))
theorem m_F_X11_findPlaces_2 (a0 : Nat) : ∀ (n : Nat) (s : Int32 × Int32), z_Mo (F_X11_findPlaces_2 a0 n s) :=
  mo_fix (fun ih hih s => m_B_X11_findPlaces_2 a0 (fun y0 y1 => ih (y0, y1)) (fun y0 y1 => hih (y0, y1)) s.1 s.2)
theorem m_F_X11_findPlaces (a0 : Nat) (p0 : Int32) : z_Mo (F_X11_findPlaces a0 p0) :=
  m_F_X11_findPlaces_2 a0 z_N (p0, 0)
theorem m_F_X11_refers_128 (a0 : Nat) (x_2 : Int32) : z_Mo (F_X11_refers_128 a0 x_2) :=
  mo_ret
theorem m_F_X11_refers_120 (a0 : Nat) (ih80 : Int32 → Int32 → zMn Int32) (h_ih80 : ∀ (y0 : Int32) (y1 : Int32), z_Mo (ih80 y0 y1)) (x_3 : Int32) (s_0 : Int32) (s_1 : Int32) : z_Mo (F_X11_refers_120 a0 ih80 x_3 s_0 s_1) :=
  mo_bd mo_ret (fun x30 => h_ih80 x30 (x_3 + 1))
theorem m_B_X11_refers_80 (a0 : Nat) (ih80 : Int32 → Int32 → zMn Int32) (h_ih80 : ∀ (y0 : Int32) (y1 : Int32), z_Mo (ih80 y0 y1)) (x_2 : Int32) (x_3 : Int32) : z_Mo (B_X11_refers_80 a0 ih80 x_2 x_3) :=
  mo_bd (mo_gi (by decide)) (fun x19 => mo_if (m_F_X11_refers_128 a0 x_2) (mo_bd (mo_ga (by decide)) (fun r21 => mo_bd (mo_ga (by decide)) (fun r22 => mo_bd mo_li (fun x23 => mo_bd mo_li (fun x24 => mo_if (m_F_X11_refers_120 a0 ih80 h_ih80 x_3 x_2 0) (mo_bd (mo_ga (by decide)) (fun r26 => mo_bd (mo_ga (by decide)) (fun r27 => mo_bd mo_li (fun x28 => mo_bd mo_li (fun x29 => m_F_X11_refers_120 a0 ih80 h_ih80 x_3 x_2 ((1 : Int32) <<< (x29 &&& 31)))))))))))))
theorem m_F_X11_refers_80 (a0 : Nat) : ∀ (n : Nat) (s : Int32 × Int32), z_Mo (F_X11_refers_80 a0 n s) :=
  mo_fix (fun ih hih s => m_B_X11_refers_80 a0 (fun y0 y1 => ih (y0, y1)) (fun y0 y1 => hih (y0, y1)) s.1 s.2)
theorem m_F_X11_refers_59 (a0 : Nat) (x_1 : Int32) (x_2 : Int32) : z_Mo (F_X11_refers_59 a0 x_1 x_2) :=
  mo_bd (mo_ga (by decide)) (fun r13 => mo_bd mo_li (fun x14 => mo_if (mo_bd (mo_ga (by decide)) (fun r16 => mo_bd mo_li (fun x17 => mo_bd (mo_rc (by decide)) (fun b18 => mo_bd (m_F_X11_findPlaces b18 x17) (fun _ => m_F_X11_refers_80 a0 z_N (x_2, 0)))))) (m_F_X11_refers_128 a0 x_2)))
theorem m_F_X11_refers_40 (a0 : Nat) (x_1 : Int32) (x_2 : Int32) : z_Mo (F_X11_refers_40 a0 x_1 x_2) :=
  mo_bd (mo_ga (by decide)) (fun r7 => mo_bd mo_li (fun x8 => mo_if (mo_bd (mo_ga (by decide)) (fun r10 => mo_bd mo_li (fun x11 => mo_bd mo_ret (fun x12 => m_F_X11_refers_59 a0 x_1 x12)))) (m_F_X11_refers_59 a0 x_1 x_2)))
theorem m_F_X11_refers_22 (a0 : Nat) (x_1 : Int32) : z_Mo (F_X11_refers_22 a0 x_1) :=
  mo_bd (mo_ga (by decide)) (fun r31 => mo_bd mo_li (fun x32 => mo_bd (mo_ga (by decide)) (fun r33 => mo_bd mo_li (fun x34 => mo_bd mo_ret (fun x35 => m_F_X11_refers_40 a0 x_1 x35)))))
theorem m_F_X11_refers (a0 : Nat) (p0 : Int32) : z_Mo (F_X11_refers a0 p0) :=
  mo_bd (mo_ga (by decide)) (fun r1 => mo_bd mo_li (fun x2 => mo_if (m_F_X11_refers_22 a0 p0) (mo_bd (mo_ga (by decide)) (fun r4 => mo_bd mo_li (fun x5 => mo_if (m_F_X11_refers_22 a0 p0) (m_F_X11_refers_40 a0 p0 0))))))
theorem m_F_X11_findRings_176 (a0 : Nat) (ih131 : Int32 → zMn Unit) (h_ih131 : ∀ (y0 : Int32), z_Mo (ih131 y0)) (ih137 : Int32 → Int32 → zMn Unit) (h_ih137 : ∀ (y0 : Int32) (y1 : Int32), z_Mo (ih137 y0 y1)) (x_2 : Int32) (x_3 : Int32) : z_Mo (F_X11_findRings_176 a0 ih131 ih137 x_2 x_3) :=
  h_ih137 x_2 (x_3 + 1)
theorem m_B_X11_findRings_137 (a0 : Nat) (ih131 : Int32 → zMn Unit) (h_ih131 : ∀ (y0 : Int32), z_Mo (ih131 y0)) (ih137 : Int32 → Int32 → zMn Unit) (h_ih137 : ∀ (y0 : Int32) (y1 : Int32), z_Mo (ih137 y0 y1)) (x_2 : Int32) (x_3 : Int32) : z_Mo (B_X11_findRings_137 a0 ih131 ih137 x_2 x_3) :=
  mo_if (h_ih131 (x_2 + (-1))) (mo_bd (mo_ga (by decide)) (fun r23 => mo_bd mo_li (fun x24 => mo_if (mo_bd (mo_rc (by decide)) (fun b27 => mo_bd (m_F_X11_comesTo b27 x_2 x_3) (fun x26 => mo_if (m_F_X11_findRings_176 a0 ih131 h_ih131 ih137 h_ih137 x_2 x_3) (mo_bd (mo_rc (by decide)) (fun b30 => mo_bd (m_F_X11_comesTo b30 x_3 x_2) (fun x29 => mo_if (m_F_X11_findRings_176 a0 ih131 h_ih131 ih137 h_ih137 x_2 x_3) (mo_bd (mo_pf (by decide)) (fun _ => m_F_X11_findRings_176 a0 ih131 h_ih131 ih137 h_ih137 x_2 x_3)))))))) (m_F_X11_findRings_176 a0 ih131 h_ih131 ih137 h_ih137 x_2 x_3))))
theorem m_F_X11_findRings_137 (a0 : Nat) (ih131 : Int32 → zMn Unit) (h_ih131 : ∀ (y0 : Int32), z_Mo (ih131 y0)) : ∀ (n : Nat) (s : Int32 × Int32), z_Mo (F_X11_findRings_137 a0 ih131 n s) :=
  mo_fix (fun ih hih s => m_B_X11_findRings_137 a0 ih131 h_ih131 (fun y0 y1 => ih (y0, y1)) (fun y0 y1 => hih (y0, y1)) s.1 s.2)
theorem m_B_X11_findRings_131 (a0 : Nat) (ih131 : Int32 → zMn Unit) (h_ih131 : ∀ (y0 : Int32), z_Mo (ih131 y0)) (x_2 : Int32) : z_Mo (B_X11_findRings_131 a0 ih131 x_2) :=
  mo_if (mo_ret) (m_F_X11_findRings_137 a0 ih131 h_ih131 z_N (x_2, 0))
theorem m_F_X11_findRings_131 (a0 : Nat) : ∀ (n : Nat) (s : Int32), z_Mo (F_X11_findRings_131 a0 n s) :=
  mo_fix (fun ih hih s => m_B_X11_findRings_131 a0 (fun y0 => ih (y0)) (fun y0 => hih (y0)) s)
theorem m_F_X11_findRings_113 (a0 : Nat) (ih27 : Int32 → zMn Unit) (h_ih27 : ∀ (y0 : Int32), z_Mo (ih27 y0)) (ih35 : Int32 → Int32 → zMn Unit) (h_ih35 : ∀ (y0 : Int32) (y1 : Int32), z_Mo (ih35 y0 y1)) (x_2 : Int32) (s_0 : Int32) : z_Mo (F_X11_findRings_113 a0 ih27 ih35 x_2 s_0) :=
  h_ih35 s_0 (x_2 + 1)
theorem m_F_X11_findRings_108 (a0 : Nat) (ih27 : Int32 → zMn Unit) (h_ih27 : ∀ (y0 : Int32), z_Mo (ih27 y0)) (ih35 : Int32 → Int32 → zMn Unit) (h_ih35 : ∀ (y0 : Int32) (y1 : Int32), z_Mo (ih35 y0 y1)) (x_2 : Int32) : z_Mo (F_X11_findRings_108 a0 ih27 ih35 x_2) :=
  m_F_X11_findRings_113 a0 ih27 h_ih27 ih35 h_ih35 x_2 1
theorem m_F_X11_findRings_86 (a0 : Nat) (ih27 : Int32 → zMn Unit) (h_ih27 : ∀ (y0 : Int32), z_Mo (ih27 y0)) (ih35 : Int32 → Int32 → zMn Unit) (h_ih35 : ∀ (y0 : Int32) (y1 : Int32), z_Mo (ih35 y0 y1)) (ih51 : Int32 → Int32 → Int32 → Int32 → zMn Unit) (h_ih51 : ∀ (y0 : Int32) (y1 : Int32) (y2 : Int32) (y3 : Int32), z_Mo (ih51 y0 y1 y2 y3)) (x_1 : Int32) (x_2 : Int32) (x_3 : Int32) (x_4 : Int32) (t_0 : Option Nat) (s_1 : Int32) (s_2 : Int32) (s_3 : Int32) : z_Mo (F_X11_findRings_86 a0 ih27 ih35 ih51 x_1 x_2 x_3 x_4 t_0 s_1 s_2 s_3) :=
  mo_bd mo_si (fun _ => h_ih51 x_1 x_2 x_3 (x_4 + 1))
theorem m_B_X11_findRings_51 (a0 : Nat) (ih27 : Int32 → zMn Unit) (h_ih27 : ∀ (y0 : Int32), z_Mo (ih27 y0)) (ih35 : Int32 → Int32 → zMn Unit) (h_ih35 : ∀ (y0 : Int32) (y1 : Int32), z_Mo (ih35 y0 y1)) (ih51 : Int32 → Int32 → Int32 → Int32 → zMn Unit) (h_ih51 : ∀ (y0 : Int32) (y1 : Int32) (y2 : Int32) (y3 : Int32), z_Mo (ih51 y0 y1 y2 y3)) (x_1 : Int32) (x_2 : Int32) (x_3 : Int32) (x_4 : Int32) : z_Mo (B_X11_findRings_51 a0 ih27 ih35 ih51 x_1 x_2 x_3 x_4) :=
  mo_if (mo_if (mo_bd (mo_ga (by decide)) (fun r11 => mo_bd mo_li (fun x12 => mo_if (m_F_X11_findRings_113 a0 ih27 h_ih27 ih35 h_ih35 x_2 0) (m_F_X11_findRings_108 a0 ih27 h_ih27 ih35 h_ih35 x_2)))) (m_F_X11_findRings_108 a0 ih27 h_ih27 ih35 h_ih35 x_2)) (mo_bd (mo_ga (by decide)) (fun r14 => mo_bd mo_li (fun x15 => mo_bd (mo_rc (by decide)) (fun b17 => mo_bd (m_F_X11_comesTo b17 x_2 x_4) (fun x16 => mo_if (m_F_X11_findRings_86 a0 ih27 h_ih27 ih35 h_ih35 ih51 h_ih51 x_1 x_2 x_3 x_4 r14 x_2 x15 0) (mo_bd (mo_ga (by decide)) (fun r19 => mo_bd mo_li (fun x20 => m_F_X11_findRings_86 a0 ih27 h_ih27 ih35 h_ih35 ih51 h_ih51 x_1 x_2 x_3 x_4 r14 x_2 x15 x20))))))))
theorem m_F_X11_findRings_51 (a0 : Nat) (ih27 : Int32 → zMn Unit) (h_ih27 : ∀ (y0 : Int32), z_Mo (ih27 y0)) (ih35 : Int32 → Int32 → zMn Unit) (h_ih35 : ∀ (y0 : Int32) (y1 : Int32), z_Mo (ih35 y0 y1)) : ∀ (n : Nat) (s : Int32 × Int32 × Int32 × Int32), z_Mo (F_X11_findRings_51 a0 ih27 ih35 n s) :=
  mo_fix (fun ih hih s => m_B_X11_findRings_51 a0 ih27 h_ih27 ih35 h_ih35 (fun y0 y1 y2 y3 => ih (y0, y1, y2, y3)) (fun y0 y1 y2 y3 => hih (y0, y1, y2, y3)) s.1 s.2.1 s.2.2.1 s.2.2.2)
theorem m_B_X11_findRings_35 (a0 : Nat) (ih27 : Int32 → zMn Unit) (h_ih27 : ∀ (y0 : Int32), z_Mo (ih27 y0)) (ih35 : Int32 → Int32 → zMn Unit) (h_ih35 : ∀ (y0 : Int32) (y1 : Int32), z_Mo (ih35 y0 y1)) (x_1 : Int32) (x_2 : Int32) : z_Mo (B_X11_findRings_35 a0 ih27 ih35 x_1 x_2) :=
  mo_if (h_ih27 x_1) (mo_bd (mo_ga (by decide)) (fun r7 => mo_bd mo_li (fun x8 => m_F_X11_findRings_51 a0 ih27 h_ih27 ih35 h_ih35 z_N (x_1, x_2, x8, 0))))
theorem m_F_X11_findRings_35 (a0 : Nat) (ih27 : Int32 → zMn Unit) (h_ih27 : ∀ (y0 : Int32), z_Mo (ih27 y0)) : ∀ (n : Nat) (s : Int32 × Int32), z_Mo (F_X11_findRings_35 a0 ih27 n s) :=
  mo_fix (fun ih hih s => m_B_X11_findRings_35 a0 ih27 h_ih27 (fun y0 y1 => ih (y0, y1)) (fun y0 y1 => hih (y0, y1)) s.1 s.2)
theorem m_B_X11_findRings_27 (a0 : Nat) (ih27 : Int32 → zMn Unit) (h_ih27 : ∀ (y0 : Int32), z_Mo (ih27 y0)) (x_1 : Int32) : z_Mo (B_X11_findRings_27 a0 ih27 x_1) :=
  mo_if (mo_bd (mo_pf (by decide)) (fun _ => m_F_X11_findRings_131 a0 z_N (15))) (m_F_X11_findRings_35 a0 ih27 h_ih27 z_N (0, 0))
theorem m_F_X11_findRings_27 (a0 : Nat) : ∀ (n : Nat) (s : Int32), z_Mo (F_X11_findRings_27 a0 n s) :=
  mo_fix (fun ih hih s => m_B_X11_findRings_27 a0 (fun y0 => ih (y0)) (fun y0 => hih (y0)) s)
theorem m_B_X11_findRings_2 (a0 : Nat) (ih2 : Int32 → zMn Unit) (h_ih2 : ∀ (y0 : Int32), z_Mo (ih2 y0)) (x_1 : Int32) : z_Mo (B_X11_findRings_2 a0 ih2 x_1) :=
  mo_if (m_F_X11_findRings_27 a0 z_N (1)) (mo_bd (mo_ga (by decide)) (fun r2 => mo_bd (mo_rc (by decide)) (fun b4 => mo_bd (m_F_X11_refers b4 x_1) (fun x3 => mo_bd mo_si (fun _ => h_ih2 (x_1 + 1))))))
theorem m_F_X11_findRings_2 (a0 : Nat) : ∀ (n : Nat) (s : Int32), z_Mo (F_X11_findRings_2 a0 n s) :=
  mo_fix (fun ih hih s => m_B_X11_findRings_2 a0 (fun y0 => ih (y0)) (fun y0 => hih (y0)) s)
theorem m_F_X11_findRings (a0 : Nat) : z_Mo (F_X11_findRings a0) :=
  m_F_X11_findRings_2 a0 z_N (0)
theorem m_F_X11_isReady_55 (a0 : Nat) (s_0 : Int32) : z_Mo (F_X11_isReady_55 a0 s_0) :=
  mo_rb
theorem m_F_X11_isReady_36 (a0 : Nat) (ih2 : Int32 → Int32 → Int32 → zMn Int32) (h_ih2 : ∀ (y0 : Int32) (y1 : Int32) (y2 : Int32), z_Mo (ih2 y0 y1 y2)) (x_1 : Int32) (x_2 : Int32) (x_3 : Int32) : z_Mo (F_X11_isReady_36 a0 ih2 x_1 x_2 x_3) :=
  h_ih2 x_1 x_2 (x_3 + 1)
theorem m_B_X11_isReady_2 (a0 : Nat) (ih2 : Int32 → Int32 → Int32 → zMn Int32) (h_ih2 : ∀ (y0 : Int32) (y1 : Int32) (y2 : Int32), z_Mo (ih2 y0 y1 y2)) (x_1 : Int32) (x_2 : Int32) (x_3 : Int32) : z_Mo (B_X11_isReady_2 a0 ih2 x_1 x_2 x_3) :=
  mo_if (mo_if (m_F_X11_isReady_55 a0 1) (m_F_X11_isReady_55 a0 0)) (mo_bd (mo_rc (by decide)) (fun b4 => mo_bd (m_F_X11_comesTo b4 x_1 x_3) (fun x3 => mo_if (m_F_X11_isReady_36 a0 ih2 h_ih2 x_1 x_2 x_3) (mo_bd (mo_rc (by decide)) (fun b7 => mo_bd (m_F_X11_comesTo b7 x_3 x_1) (fun x6 => mo_if (mo_if (mo_rb) (m_F_X11_isReady_36 a0 ih2 h_ih2 x_1 x_2 x_3)) (m_F_X11_isReady_36 a0 ih2 h_ih2 x_1 x_2 x_3)))))))
theorem m_F_X11_isReady_2 (a0 : Nat) : ∀ (n : Nat) (s : Int32 × Int32 × Int32), z_Mo (F_X11_isReady_2 a0 n s) :=
  mo_fix (fun ih hih s => m_B_X11_isReady_2 a0 (fun y0 y1 y2 => ih (y0, y1, y2)) (fun y0 y1 y2 => hih (y0, y1, y2)) s.1 s.2.1 s.2.2)
theorem m_F_X11_isReady (a0 : Nat) (p0 : Int32) (p1 : Int32) : z_Mo (F_X11_isReady a0 p0 p1) :=
  m_F_X11_isReady_2 a0 z_N (p0, p1, 0)
theorem m_F_X11_isOut_14 (a0 : Nat) (s_0 : Int32) : z_Mo (F_X11_isOut_14 a0 s_0) :=
  mo_rb
theorem m_F_X11_isOut (a0 : Nat) (p0 : Int32) : z_Mo (F_X11_isOut a0 p0) :=
  mo_bd (mo_ga (by decide)) (fun r1 => mo_bd mo_li (fun x2 => mo_if (m_F_X11_isOut_14 a0 1) (m_F_X11_isOut_14 a0 0)))
theorem m_F_X11_concerns_70 (a0 : Nat) (ih19 : Int32 → Int32 → Int32 → zMn Int32) (h_ih19 : ∀ (y0 : Int32) (y1 : Int32) (y2 : Int32), z_Mo (ih19 y0 y1 y2)) (x_2 : Int32) (x_3 : Int32) (x_4 : Int32) : z_Mo (F_X11_concerns_70 a0 ih19 x_2 x_3 x_4) :=
  h_ih19 x_2 x_3 (x_4 + 1)
theorem m_B_X11_concerns_19 (a0 : Nat) (ih19 : Int32 → Int32 → Int32 → zMn Int32) (h_ih19 : ∀ (y0 : Int32) (y1 : Int32) (y2 : Int32), z_Mo (ih19 y0 y1 y2)) (x_2 : Int32) (x_3 : Int32) (x_4 : Int32) : z_Mo (B_X11_concerns_19 a0 ih19 x_2 x_3 x_4) :=
  mo_bd (mo_gi (by decide)) (fun x5 => mo_if (mo_rb) (mo_bd (mo_ga (by decide)) (fun r7 => mo_bd mo_li (fun x8 => mo_bd (mo_rc (by decide)) (fun b10 => mo_bd (m_F_X11_isOut b10 x8) (fun x9 => mo_if (mo_bd (mo_ga (by decide)) (fun r12 => mo_bd (mo_ga (by decide)) (fun r13 => mo_bd mo_li (fun x14 => mo_bd mo_li (fun x15 => mo_bd (mo_ga (by decide)) (fun r16 => mo_bd mo_li (fun x17 => mo_if (mo_rb) (m_F_X11_concerns_70 a0 ih19 h_ih19 x_2 x_3 x_4)))))))) (m_F_X11_concerns_70 a0 ih19 h_ih19 x_2 x_3 x_4)))))))
theorem m_F_X11_concerns_19 (a0 : Nat) : ∀ (n : Nat) (s : Int32 × Int32 × Int32), z_Mo (F_X11_concerns_19 a0 n s) :=
  mo_fix (fun ih hih s => m_B_X11_concerns_19 a0 (fun y0 y1 y2 => ih (y0, y1, y2)) (fun y0 y1 y2 => hih (y0, y1, y2)) s.1 s.2.1 s.2.2)
theorem m_F_X11_concerns_16 (a0 : Nat) (x_2 : Int32) (x_3 : Int32) : z_Mo (F_X11_concerns_16 a0 x_2 x_3) :=
  m_F_X11_concerns_19 a0 z_N (x_2, x_3, 0)
theorem m_F_X11_concerns (a0 : Nat) (p0 : Int32) (p1 : Int32) (p2 : Int32) : z_Mo (F_X11_concerns a0 p0 p1 p2) :=
  mo_if (m_F_X11_concerns_16 a0 p1 p2) (mo_bd (mo_ga (by decide)) (fun r2 => mo_bd mo_li (fun x3 => mo_if (mo_rb) (m_F_X11_concerns_16 a0 p1 p2))))
theorem m_F_X11_mayBeLeft_32 (a0 : Nat) (s_0 : Int32) : z_Mo (F_X11_mayBeLeft_32 a0 s_0) :=
  mo_rb
theorem m_F_X11_mayBeLeft_31 (a0 : Nat) : z_Mo (F_X11_mayBeLeft_31 a0) :=
  m_F_X11_mayBeLeft_32 a0 0
theorem m_F_X11_mayBeLeft (a0 : Nat) (p0 : Int32) (p1 : Int32) (p2 : Int32) : z_Mo (F_X11_mayBeLeft a0 p0 p1 p2) :=
  mo_if (m_F_X11_mayBeLeft_31 a0) (mo_bd (mo_ga (by decide)) (fun r2 => mo_bd mo_li (fun x3 => mo_bd (mo_ga (by decide)) (fun r4 => mo_bd mo_li (fun x5 => mo_if (m_F_X11_mayBeLeft_32 a0 1) (m_F_X11_mayBeLeft_31 a0))))))
theorem m_F_X11_takes_83 (a0 : Nat) (s_0 : Int32) : z_Mo (F_X11_takes_83 a0 s_0) :=
  mo_rb
theorem m_F_X11_takes_82 (a0 : Nat) : z_Mo (F_X11_takes_82 a0) :=
  m_F_X11_takes_83 a0 0
theorem m_F_X11_takes_78 (a0 : Nat) : z_Mo (F_X11_takes_78 a0) :=
  m_F_X11_takes_83 a0 1
theorem m_F_X11_takes_16 (a0 : Nat) (x_1 : Int32) (x_2 : Int32) (x_3 : Int32) (t_0 : Option Nat) (s_1 : Int32) (s_2 : Int32) : z_Mo (F_X11_takes_16 a0 x_1 x_2 x_3 t_0 s_1 s_2) :=
  mo_bd mo_li (fun x3 => mo_bd (mo_rc (by decide)) (fun b5 => mo_bd (m_F_X11_isOut b5 x_1) (fun x4 => mo_if (mo_bd (mo_ga (by decide)) (fun r7 => mo_bd mo_li (fun x8 => mo_bd (mo_ga (by decide)) (fun r9 => mo_bd mo_li (fun x10 => mo_if (mo_bd (mo_ga (by decide)) (fun r12 => mo_bd mo_li (fun x13 => mo_if (m_F_X11_takes_78 a0) (mo_bd (mo_ga (by decide)) (fun r15 => mo_bd (mo_ga (by decide)) (fun r16 => mo_bd mo_li (fun x17 => mo_bd mo_li (fun x18 => mo_if (m_F_X11_takes_78 a0) (m_F_X11_takes_82 a0))))))))) (m_F_X11_takes_82 a0)))))) (m_F_X11_takes_82 a0))))
theorem m_F_X11_takes (a0 : Nat) (p0 : Int32) (p1 : Int32) (p2 : Int32) : z_Mo (F_X11_takes a0 p0 p1 p2) :=
  mo_bd (mo_ga (by decide)) (fun r1 => mo_if (m_F_X11_takes_16 a0 p0 p1 p2 r1 (3 * p1) 0) (m_F_X11_takes_16 a0 p0 p1 p2 r1 (3 * p1) 2))
theorem m_B_X11_giveOut_165 (a0 : Nat) (ih165 : Int32 → zMn Unit) (h_ih165 : ∀ (y0 : Int32), z_Mo (ih165 y0)) (x_5 : Int32) : z_Mo (B_X11_giveOut_165 a0 ih165 x_5) :=
  mo_bd (mo_gi (by decide)) (fun x33 => mo_if (mo_ret) (mo_bd (mo_ga (by decide)) (fun r35 => mo_bd (mo_ga (by decide)) (fun r36 => mo_bd mo_ll (fun w37 => mo_bd mo_slo (fun _ => h_ih165 (x_5 + 1)))))))
theorem m_F_X11_giveOut_165 (a0 : Nat) : ∀ (n : Nat) (s : Int32), z_Mo (F_X11_giveOut_165 a0 n s) :=
  mo_fix (fun ih hih s => m_B_X11_giveOut_165 a0 (fun y0 => ih (y0)) (fun y0 => hih (y0)) s)
theorem m_F_X11_giveOut_149 (a0 : Nat) (ih52 : Int32 → Int32 → Int32 → Int32 → zMn Unit) (h_ih52 : ∀ (y0 : Int32) (y1 : Int32) (y2 : Int32) (y3 : Int32), z_Mo (ih52 y0 y1 y2 y3)) (x_2 : Int32) (x_3 : Int32) (x_4 : Int32) (x_5 : Int32) : z_Mo (F_X11_giveOut_149 a0 ih52 x_2 x_3 x_4 x_5) :=
  mo_bd mo_ret (fun x32 => h_ih52 x_2 x_3 x32 (x_5 + 1))
theorem m_F_X11_giveOut_143 (a0 : Nat) (ih52 : Int32 → Int32 → Int32 → Int32 → zMn Unit) (h_ih52 : ∀ (y0 : Int32) (y1 : Int32) (y2 : Int32) (y3 : Int32), z_Mo (ih52 y0 y1 y2 y3)) (ih64 : Int32 → Int32 → Int32 → Int32 → Int32 → zMn Unit) (h_ih64 : ∀ (y0 : Int32) (y1 : Int32) (y2 : Int32) (y3 : Int32) (y4 : Int32), z_Mo (ih64 y0 y1 y2 y3 y4)) (x_2 : Int32) (x_3 : Int32) (x_4 : Int32) (x_5 : Int32) (x_6 : Int32) : z_Mo (F_X11_giveOut_143 a0 ih52 ih64 x_2 x_3 x_4 x_5 x_6) :=
  h_ih64 x_2 x_3 x_4 x_5 (x_6 + 1)
theorem m_B_X11_giveOut_64 (a0 : Nat) (ih52 : Int32 → Int32 → Int32 → Int32 → zMn Unit) (h_ih52 : ∀ (y0 : Int32) (y1 : Int32) (y2 : Int32) (y3 : Int32), z_Mo (ih52 y0 y1 y2 y3)) (ih64 : Int32 → Int32 → Int32 → Int32 → Int32 → zMn Unit) (h_ih64 : ∀ (y0 : Int32) (y1 : Int32) (y2 : Int32) (y3 : Int32) (y4 : Int32), z_Mo (ih64 y0 y1 y2 y3 y4)) (x_2 : Int32) (x_3 : Int32) (x_4 : Int32) (x_5 : Int32) (x_6 : Int32) : z_Mo (B_X11_giveOut_64 a0 ih52 ih64 x_2 x_3 x_4 x_5 x_6) :=
  mo_bd (mo_gi (by decide)) (fun x11 => mo_if (m_F_X11_giveOut_149 a0 ih52 h_ih52 x_2 x_3 x_4 x_5) (mo_bd (mo_ga (by decide)) (fun r13 => mo_bd mo_li (fun x14 => mo_bd (mo_rc (by decide)) (fun b16 => mo_bd (m_F_X11_takes b16 x14 x_2 x_3) (fun x15 => mo_if (m_F_X11_giveOut_149 a0 ih52 h_ih52 x_2 x_3 x_4 x_5) (mo_bd (mo_ga (by decide)) (fun r18 => mo_bd mo_ll (fun w19 => mo_if (m_F_X11_giveOut_143 a0 ih52 h_ih52 ih64 h_ih64 x_2 x_3 x_4 x_5 x_6) (mo_bd (mo_ga (by decide)) (fun r21 => mo_bd mo_li (fun x22 => mo_if (m_F_X11_giveOut_143 a0 ih52 h_ih52 ih64 h_ih64 x_2 x_3 x_4 x_5 x_6) (mo_bd (mo_ga (by decide)) (fun r24 => mo_bd (mo_ga (by decide)) (fun r25 => mo_bd (mo_ga (by decide)) (fun r26 => mo_bd mo_li (fun x27 => mo_bd mo_li (fun x28 => mo_bd mo_ll (fun w29 => mo_bd (mo_ga (by decide)) (fun r30 => mo_bd mo_ll (fun w31 => mo_bd mo_slo (fun _ => m_F_X11_giveOut_143 a0 ih52 h_ih52 ih64 h_ih64 x_2 x_3 x_4 x_5 x_6))))))))))))))))))))))
theorem m_F_X11_giveOut_64 (a0 : Nat) (ih52 : Int32 → Int32 → Int32 → Int32 → zMn Unit) (h_ih52 : ∀ (y0 : Int32) (y1 : Int32) (y2 : Int32) (y3 : Int32), z_Mo (ih52 y0 y1 y2 y3)) : ∀ (n : Nat) (s : Int32 × Int32 × Int32 × Int32 × Int32), z_Mo (F_X11_giveOut_64 a0 ih52 n s) :=
  mo_fix (fun ih hih s => m_B_X11_giveOut_64 a0 ih52 h_ih52 (fun y0 y1 y2 y3 y4 => ih (y0, y1, y2, y3, y4)) (fun y0 y1 y2 y3 y4 => hih (y0, y1, y2, y3, y4)) s.1 s.2.1 s.2.2.1 s.2.2.2.1 s.2.2.2.2)
theorem m_B_X11_giveOut_52 (a0 : Nat) (ih52 : Int32 → Int32 → Int32 → Int32 → zMn Unit) (h_ih52 : ∀ (y0 : Int32) (y1 : Int32) (y2 : Int32) (y3 : Int32), z_Mo (ih52 y0 y1 y2 y3)) (x_2 : Int32) (x_3 : Int32) (x_4 : Int32) (x_5 : Int32) : z_Mo (B_X11_giveOut_52 a0 ih52 x_2 x_3 x_4 x_5) :=
  mo_bd (mo_gi (by decide)) (fun x9 => mo_if (m_F_X11_giveOut_165 a0 z_N (0)) (m_F_X11_giveOut_64 a0 ih52 h_ih52 z_N (x_2, x_3, x_4, x_5, 0)))
theorem m_F_X11_giveOut_52 (a0 : Nat) : ∀ (n : Nat) (s : Int32 × Int32 × Int32 × Int32), z_Mo (F_X11_giveOut_52 a0 n s) :=
  mo_fix (fun ih hih s => m_B_X11_giveOut_52 a0 (fun y0 y1 y2 y3 => ih (y0, y1, y2, y3)) (fun y0 y1 y2 y3 => hih (y0, y1, y2, y3)) s.1 s.2.1 s.2.2.1 s.2.2.2)
theorem m_F_X11_giveOut_39 (a0 : Nat) (ih3 : Int32 → Int32 → Int32 → Int32 → zMn Unit) (h_ih3 : ∀ (y0 : Int32) (y1 : Int32) (y2 : Int32) (y3 : Int32), z_Mo (ih3 y0 y1 y2 y3)) (x_1 : Int32) (x_2 : Int32) (x_3 : Int32) (x_4 : Int32) (t_0 : Option Nat) (s_1 : Int32) (u_2 : Int64) : z_Mo (F_X11_giveOut_39 a0 ih3 x_1 x_2 x_3 x_4 t_0 s_1 u_2) :=
  mo_bd mo_slo (fun _ => h_ih3 x_1 x_2 x_3 (x_4 + 1))
theorem m_B_X11_giveOut_3 (a0 : Nat) (ih3 : Int32 → Int32 → Int32 → Int32 → zMn Unit) (h_ih3 : ∀ (y0 : Int32) (y1 : Int32) (y2 : Int32) (y3 : Int32), z_Mo (ih3 y0 y1 y2 y3)) (x_1 : Int32) (x_2 : Int32) (x_3 : Int32) (x_4 : Int32) : z_Mo (B_X11_giveOut_3 a0 ih3 x_1 x_2 x_3 x_4) :=
  mo_bd (mo_gi (by decide)) (fun x1 => mo_if (m_F_X11_giveOut_52 a0 z_N (x_2, x_3, 1, 0)) (mo_bd (mo_ga (by decide)) (fun r3 => mo_bd (mo_rc (by decide)) (fun b5 => mo_bd (m_F_X11_mayBeLeft b5 x_1 x_2 x_3) (fun x4 => mo_if (m_F_X11_giveOut_39 a0 ih3 h_ih3 x_1 x_2 x_3 x_4 r3 x_4 0) (mo_bd (mo_ga (by decide)) (fun r7 => mo_bd mo_ll (fun w8 => m_F_X11_giveOut_39 a0 ih3 h_ih3 x_1 x_2 x_3 x_4 r3 x_4 w8))))))))
theorem m_F_X11_giveOut_3 (a0 : Nat) : ∀ (n : Nat) (s : Int32 × Int32 × Int32 × Int32), z_Mo (F_X11_giveOut_3 a0 n s) :=
  mo_fix (fun ih hih s => m_B_X11_giveOut_3 a0 (fun y0 y1 y2 y3 => ih (y0, y1, y2, y3)) (fun y0 y1 y2 y3 => hih (y0, y1, y2, y3)) s.1 s.2.1 s.2.2.1 s.2.2.2)
theorem m_F_X11_giveOut (a0 : Nat) (p0 : Int32) (p1 : Int32) (p2 : Int32) : z_Mo (F_X11_giveOut a0 p0 p1 p2) :=
  m_F_X11_giveOut_3 a0 z_N (p0, p1, p2, 0)
theorem m_F_X11_least_12 (s_0 : Int32) : z_Mo (F_X11_least_12 s_0) :=
  mo_ret
theorem m_F_X11_least (p0 : Int32) : z_Mo (F_X11_least p0) :=
  mo_if (m_F_X11_least_12 9) (m_F_X11_least_12 p0)
theorem m_B_X11_repeat_238 (a0 : Nat) (ih38 : Int32 → Int32 → Int32 → Int32 → Int32 → zMn Unit) (h_ih38 : ∀ (y0 : Int32) (y1 : Int32) (y2 : Int32) (y3 : Int32) (y4 : Int32), z_Mo (ih38 y0 y1 y2 y3 y4)) (ih238 : Int32 → Int32 → Int32 → Int32 → Int32 → Int32 → zMn Unit) (h_ih238 : ∀ (y0 : Int32) (y1 : Int32) (y2 : Int32) (y3 : Int32) (y4 : Int32) (y5 : Int32), z_Mo (ih238 y0 y1 y2 y3 y4 y5)) (x_1 : Int32) (x_2 : Int32) (x_3 : Int32) (x_4 : Int32) (x_5 : Int32) (x_6 : Int32) : z_Mo (B_X11_repeat_238 a0 ih38 ih238 x_1 x_2 x_3 x_4 x_5 x_6) :=
  mo_bd (mo_gi (by decide)) (fun x41 => mo_if (h_ih38 x_1 x_2 x_3 x_4 (x_5 + 1)) (mo_bd (mo_ga (by decide)) (fun r43 => mo_bd (mo_ga (by decide)) (fun r44 => mo_bd mo_lb (fun x45 => mo_bd mo_sb (fun _ => h_ih238 x_1 x_2 x_3 x_4 x_5 (x_6 + 1)))))))
theorem m_F_X11_repeat_238 (a0 : Nat) (ih38 : Int32 → Int32 → Int32 → Int32 → Int32 → zMn Unit) (h_ih38 : ∀ (y0 : Int32) (y1 : Int32) (y2 : Int32) (y3 : Int32) (y4 : Int32), z_Mo (ih38 y0 y1 y2 y3 y4)) : ∀ (n : Nat) (s : Int32 × Int32 × Int32 × Int32 × Int32 × Int32), z_Mo (F_X11_repeat_238 a0 ih38 n s) :=
  mo_fix (fun ih hih s => m_B_X11_repeat_238 a0 ih38 h_ih38 (fun y0 y1 y2 y3 y4 y5 => ih (y0, y1, y2, y3, y4, y5)) (fun y0 y1 y2 y3 y4 y5 => hih (y0, y1, y2, y3, y4, y5)) s.1 s.2.1 s.2.2.1 s.2.2.2.1 s.2.2.2.2.1 s.2.2.2.2.2)
theorem m_F_X11_repeat_229 (a0 : Nat) (ih38 : Int32 → Int32 → Int32 → Int32 → Int32 → zMn Unit) (h_ih38 : ∀ (y0 : Int32) (y1 : Int32) (y2 : Int32) (y3 : Int32) (y4 : Int32), z_Mo (ih38 y0 y1 y2 y3 y4)) (ih134 : Int32 → Int32 → Int32 → Int32 → Int32 → Int32 → zMn Unit) (h_ih134 : ∀ (y0 : Int32) (y1 : Int32) (y2 : Int32) (y3 : Int32) (y4 : Int32) (y5 : Int32), z_Mo (ih134 y0 y1 y2 y3 y4 y5)) (x_1 : Int32) (x_2 : Int32) (x_3 : Int32) (x_4 : Int32) (x_5 : Int32) (x_6 : Int32) : z_Mo (F_X11_repeat_229 a0 ih38 ih134 x_1 x_2 x_3 x_4 x_5 x_6) :=
  h_ih134 x_1 x_2 x_3 x_4 x_5 (x_6 + 1)
theorem m_F_X11_repeat_223 (a0 : Nat) (ih38 : Int32 → Int32 → Int32 → Int32 → Int32 → zMn Unit) (h_ih38 : ∀ (y0 : Int32) (y1 : Int32) (y2 : Int32) (y3 : Int32) (y4 : Int32), z_Mo (ih38 y0 y1 y2 y3 y4)) (ih134 : Int32 → Int32 → Int32 → Int32 → Int32 → Int32 → zMn Unit) (h_ih134 : ∀ (y0 : Int32) (y1 : Int32) (y2 : Int32) (y3 : Int32) (y4 : Int32) (y5 : Int32), z_Mo (ih134 y0 y1 y2 y3 y4 y5)) (ih146 : Int32 → Int32 → Int32 → Int32 → Int32 → Int32 → Int32 → zMn Unit) (h_ih146 : ∀ (y0 : Int32) (y1 : Int32) (y2 : Int32) (y3 : Int32) (y4 : Int32) (y5 : Int32) (y6 : Int32), z_Mo (ih146 y0 y1 y2 y3 y4 y5 y6)) (x_1 : Int32) (x_2 : Int32) (x_3 : Int32) (x_4 : Int32) (x_5 : Int32) (x_6 : Int32) (x_7 : Int32) : z_Mo (F_X11_repeat_223 a0 ih38 ih134 ih146 x_1 x_2 x_3 x_4 x_5 x_6 x_7) :=
  h_ih146 x_1 x_2 x_3 x_4 x_5 x_6 (x_7 + 1)
theorem m_B_X11_repeat_146 (a0 : Nat) (ih38 : Int32 → Int32 → Int32 → Int32 → Int32 → zMn Unit) (h_ih38 : ∀ (y0 : Int32) (y1 : Int32) (y2 : Int32) (y3 : Int32) (y4 : Int32), z_Mo (ih38 y0 y1 y2 y3 y4)) (ih134 : Int32 → Int32 → Int32 → Int32 → Int32 → Int32 → zMn Unit) (h_ih134 : ∀ (y0 : Int32) (y1 : Int32) (y2 : Int32) (y3 : Int32) (y4 : Int32) (y5 : Int32), z_Mo (ih134 y0 y1 y2 y3 y4 y5)) (ih146 : Int32 → Int32 → Int32 → Int32 → Int32 → Int32 → Int32 → zMn Unit) (h_ih146 : ∀ (y0 : Int32) (y1 : Int32) (y2 : Int32) (y3 : Int32) (y4 : Int32) (y5 : Int32) (y6 : Int32), z_Mo (ih146 y0 y1 y2 y3 y4 y5 y6)) (x_1 : Int32) (x_2 : Int32) (x_3 : Int32) (x_4 : Int32) (x_5 : Int32) (x_6 : Int32) (x_7 : Int32) : z_Mo (B_X11_repeat_146 a0 ih38 ih134 ih146 x_1 x_2 x_3 x_4 x_5 x_6 x_7) :=
  mo_bd (mo_gi (by decide)) (fun x21 => mo_if (m_F_X11_repeat_229 a0 ih38 h_ih38 ih134 h_ih134 x_1 x_2 x_3 x_4 x_5 x_6) (mo_bd (mo_ga (by decide)) (fun r23 => mo_bd mo_lb (fun x24 => mo_if (m_F_X11_repeat_229 a0 ih38 h_ih38 ih134 h_ih134 x_1 x_2 x_3 x_4 x_5 x_6) (mo_bd (mo_ga (by decide)) (fun r26 => mo_bd mo_lb (fun x27 => mo_if (m_F_X11_repeat_223 a0 ih38 h_ih38 ih134 h_ih134 ih146 h_ih146 x_1 x_2 x_3 x_4 x_5 x_6 x_7) (mo_bd (mo_ga (by decide)) (fun r29 => mo_bd mo_li (fun x30 => mo_bd (mo_ga (by decide)) (fun r31 => mo_bd mo_li (fun x32 => mo_if (m_F_X11_repeat_223 a0 ih38 h_ih38 ih134 h_ih134 ih146 h_ih146 x_1 x_2 x_3 x_4 x_5 x_6 x_7) (mo_bd (mo_ga (by decide)) (fun r34 => mo_bd (mo_ga (by decide)) (fun r35 => mo_bd (mo_ga (by decide)) (fun r36 => mo_bd mo_li (fun x37 => mo_bd (mo_ga (by decide)) (fun r38 => mo_bd mo_li (fun x39 => mo_bd mo_li (fun x40 => mo_bd mo_sb (fun _ => m_F_X11_repeat_223 a0 ih38 h_ih38 ih134 h_ih134 ih146 h_ih146 x_1 x_2 x_3 x_4 x_5 x_6 x_7)))))))))))))))))))))
theorem m_F_X11_repeat_146 (a0 : Nat) (ih38 : Int32 → Int32 → Int32 → Int32 → Int32 → zMn Unit) (h_ih38 : ∀ (y0 : Int32) (y1 : Int32) (y2 : Int32) (y3 : Int32) (y4 : Int32), z_Mo (ih38 y0 y1 y2 y3 y4)) (ih134 : Int32 → Int32 → Int32 → Int32 → Int32 → Int32 → zMn Unit) (h_ih134 : ∀ (y0 : Int32) (y1 : Int32) (y2 : Int32) (y3 : Int32) (y4 : Int32) (y5 : Int32), z_Mo (ih134 y0 y1 y2 y3 y4 y5)) : ∀ (n : Nat) (s : Int32 × Int32 × Int32 × Int32 × Int32 × Int32 × Int32), z_Mo (F_X11_repeat_146 a0 ih38 ih134 n s) :=
  mo_fix (fun ih hih s => m_B_X11_repeat_146 a0 ih38 h_ih38 ih134 h_ih134 (fun y0 y1 y2 y3 y4 y5 y6 => ih (y0, y1, y2, y3, y4, y5, y6)) (fun y0 y1 y2 y3 y4 y5 y6 => hih (y0, y1, y2, y3, y4, y5, y6)) s.1 s.2.1 s.2.2.1 s.2.2.2.1 s.2.2.2.2.1 s.2.2.2.2.2.1 s.2.2.2.2.2.2)
theorem m_B_X11_repeat_134 (a0 : Nat) (ih38 : Int32 → Int32 → Int32 → Int32 → Int32 → zMn Unit) (h_ih38 : ∀ (y0 : Int32) (y1 : Int32) (y2 : Int32) (y3 : Int32) (y4 : Int32), z_Mo (ih38 y0 y1 y2 y3 y4)) (ih134 : Int32 → Int32 → Int32 → Int32 → Int32 → Int32 → zMn Unit) (h_ih134 : ∀ (y0 : Int32) (y1 : Int32) (y2 : Int32) (y3 : Int32) (y4 : Int32) (y5 : Int32), z_Mo (ih134 y0 y1 y2 y3 y4 y5)) (x_1 : Int32) (x_2 : Int32) (x_3 : Int32) (x_4 : Int32) (x_5 : Int32) (x_6 : Int32) : z_Mo (B_X11_repeat_134 a0 ih38 ih134 x_1 x_2 x_3 x_4 x_5 x_6) :=
  mo_bd (mo_gi (by decide)) (fun x19 => mo_if (m_F_X11_repeat_238 a0 ih38 h_ih38 z_N (x_1, x_2, x_3, x_4, x_5, 0)) (m_F_X11_repeat_146 a0 ih38 h_ih38 ih134 h_ih134 z_N (x_1, x_2, x_3, x_4, x_5, x_6, 0)))
theorem m_F_X11_repeat_134 (a0 : Nat) (ih38 : Int32 → Int32 → Int32 → Int32 → Int32 → zMn Unit) (h_ih38 : ∀ (y0 : Int32) (y1 : Int32) (y2 : Int32) (y3 : Int32) (y4 : Int32), z_Mo (ih38 y0 y1 y2 y3 y4)) : ∀ (n : Nat) (s : Int32 × Int32 × Int32 × Int32 × Int32 × Int32), z_Mo (F_X11_repeat_134 a0 ih38 n s) :=
  mo_fix (fun ih hih s => m_B_X11_repeat_134 a0 ih38 h_ih38 (fun y0 y1 y2 y3 y4 y5 => ih (y0, y1, y2, y3, y4, y5)) (fun y0 y1 y2 y3 y4 y5 => hih (y0, y1, y2, y3, y4, y5)) s.1 s.2.1 s.2.2.1 s.2.2.2.1 s.2.2.2.2.1 s.2.2.2.2.2)
theorem m_B_X11_repeat_108 (a0 : Nat) (ih38 : Int32 → Int32 → Int32 → Int32 → Int32 → zMn Unit) (h_ih38 : ∀ (y0 : Int32) (y1 : Int32) (y2 : Int32) (y3 : Int32) (y4 : Int32), z_Mo (ih38 y0 y1 y2 y3 y4)) (ih108 : Int32 → Int32 → Int32 → Int32 → Int32 → Int32 → zMn Unit) (h_ih108 : ∀ (y0 : Int32) (y1 : Int32) (y2 : Int32) (y3 : Int32) (y4 : Int32) (y5 : Int32), z_Mo (ih108 y0 y1 y2 y3 y4 y5)) (x_1 : Int32) (x_2 : Int32) (x_3 : Int32) (x_4 : Int32) (x_5 : Int32) (x_6 : Int32) : z_Mo (B_X11_repeat_108 a0 ih38 ih108 x_1 x_2 x_3 x_4 x_5 x_6) :=
  mo_bd (mo_gi (by decide)) (fun x16 => mo_if (m_F_X11_repeat_134 a0 ih38 h_ih38 z_N (x_1, x_2, x_3, x_4, x_5, 0)) (mo_bd (mo_ga (by decide)) (fun r18 => mo_bd mo_sb (fun _ => h_ih108 x_1 x_2 x_3 x_4 x_5 (x_6 + 1)))))
theorem m_F_X11_repeat_108 (a0 : Nat) (ih38 : Int32 → Int32 → Int32 → Int32 → Int32 → zMn Unit) (h_ih38 : ∀ (y0 : Int32) (y1 : Int32) (y2 : Int32) (y3 : Int32) (y4 : Int32), z_Mo (ih38 y0 y1 y2 y3 y4)) : ∀ (n : Nat) (s : Int32 × Int32 × Int32 × Int32 × Int32 × Int32), z_Mo (F_X11_repeat_108 a0 ih38 n s) :=
  mo_fix (fun ih hih s => m_B_X11_repeat_108 a0 ih38 h_ih38 (fun y0 y1 y2 y3 y4 y5 => ih (y0, y1, y2, y3, y4, y5)) (fun y0 y1 y2 y3 y4 y5 => hih (y0, y1, y2, y3, y4, y5)) s.1 s.2.1 s.2.2.1 s.2.2.2.1 s.2.2.2.2.1 s.2.2.2.2.2)
theorem m_F_X11_repeat_105 (a0 : Nat) (ih38 : Int32 → Int32 → Int32 → Int32 → Int32 → zMn Unit) (h_ih38 : ∀ (y0 : Int32) (y1 : Int32) (y2 : Int32) (y3 : Int32) (y4 : Int32), z_Mo (ih38 y0 y1 y2 y3 y4)) (x_1 : Int32) (x_2 : Int32) (x_3 : Int32) (x_4 : Int32) (x_5 : Int32) : z_Mo (F_X11_repeat_105 a0 ih38 x_1 x_2 x_3 x_4 x_5) :=
  m_F_X11_repeat_108 a0 ih38 h_ih38 z_N (x_1, x_2, x_3, x_4, x_5, 0)
theorem m_F_X11_repeat_98 (a0 : Nat) (ih38 : Int32 → Int32 → Int32 → Int32 → Int32 → zMn Unit) (h_ih38 : ∀ (y0 : Int32) (y1 : Int32) (y2 : Int32) (y3 : Int32) (y4 : Int32), z_Mo (ih38 y0 y1 y2 y3 y4)) (ih48 : Int32 → Int32 → Int32 → Int32 → Int32 → Int32 → zMn Unit) (h_ih48 : ∀ (y0 : Int32) (y1 : Int32) (y2 : Int32) (y3 : Int32) (y4 : Int32) (y5 : Int32), z_Mo (ih48 y0 y1 y2 y3 y4 y5)) (x_1 : Int32) (x_2 : Int32) (x_3 : Int32) (x_4 : Int32) (x_5 : Int32) (x_6 : Int32) (t_0 : Option Nat) (s_1 : Int32) (s_2 : Int32) : z_Mo (F_X11_repeat_98 a0 ih38 ih48 x_1 x_2 x_3 x_4 x_5 x_6 t_0 s_1 s_2) :=
  mo_bd mo_sb (fun _ => h_ih48 x_1 x_2 x_3 x_4 x_5 (x_6 + 1))
theorem m_F_X11_repeat_93 (a0 : Nat) (ih38 : Int32 → Int32 → Int32 → Int32 → Int32 → zMn Unit) (h_ih38 : ∀ (y0 : Int32) (y1 : Int32) (y2 : Int32) (y3 : Int32) (y4 : Int32), z_Mo (ih38 y0 y1 y2 y3 y4)) (ih48 : Int32 → Int32 → Int32 → Int32 → Int32 → Int32 → zMn Unit) (h_ih48 : ∀ (y0 : Int32) (y1 : Int32) (y2 : Int32) (y3 : Int32) (y4 : Int32) (y5 : Int32), z_Mo (ih48 y0 y1 y2 y3 y4 y5)) (x_1 : Int32) (x_2 : Int32) (x_3 : Int32) (x_4 : Int32) (x_5 : Int32) (x_6 : Int32) (t_0 : Option Nat) (s_1 : Int32) : z_Mo (F_X11_repeat_93 a0 ih38 ih48 x_1 x_2 x_3 x_4 x_5 x_6 t_0 s_1) :=
  m_F_X11_repeat_98 a0 ih38 h_ih38 ih48 h_ih48 x_1 x_2 x_3 x_4 x_5 x_6 t_0 s_1 1
