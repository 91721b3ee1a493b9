def F_X11_find_58 (a0 : Nat) (ih3 : Int32 → Int32 → Int32 → Int32 → zMn Int32) (x_1 : Int32) (x_2 : Int32) (x_3 : Int32) (x_4 : Int32) : zMn Int32 :=
  ih3 x_1 x_2 x_3 (x_4 + 1)
def B_X11_find_3 (a0 : Nat) (ih3 : Int32 → Int32 → Int32 → Int32 → zMn Int32) (x_1 : Int32) (x_2 : Int32) (x_3 : Int32) (x_4 : Int32) : zMn Int32 :=
  z_bd (z_gi ((some a0)) 11 1) fun x1 =>
  if x1 ≤ x_4 then (z_ret ((-1))) else
  (z_bd (z_ga ((some a0)) 11 0) fun r3 =>
  z_bd (z_li r3 (3 * x_4)) fun x4 =>
  if x4 = x_1 then (z_bd (z_ga ((some a0)) 11 0) fun r6 =>
  z_bd (z_li r6 ((3 * x_4) + 1)) fun x7 =>
  if x7 = x_2 then (z_bd (z_ga ((some a0)) 11 0) fun r9 =>
  z_bd (z_li r9 ((3 * x_4) + 2)) fun x10 =>
  if x10 = x_3 then (z_ret x_4) else
  (F_X11_find_58 a0 ih3 x_1 x_2 x_3 x_4)) else
  (F_X11_find_58 a0 ih3 x_1 x_2 x_3 x_4)) else
  (F_X11_find_58 a0 ih3 x_1 x_2 x_3 x_4))
def F_X11_find_3 (a0 : Nat) : Nat → Int32 × Int32 × Int32 × Int32 → zMn Int32 := z_fix fun ih s => B_X11_find_3 a0 (fun y0 y1 y2 y3 => ih (y0, y1, y2, y3)) s.1 s.2.1 s.2.2.1 s.2.2.2
def F_X11_find (a0 : Nat) (p0 : Int32) (p1 : Int32) (p2 : Int32) : zMn Int32 :=
  F_X11_find_3 a0 z_N (p0, p1, p2, 0)
def F_X11_isLabel_15 (s_0 : Int32) : zMn Int32 :=
  z_rb s_0
def F_X11_isLabel_14  : zMn Int32 :=
  F_X11_isLabel_15 0
def F_X11_isLabel (p0 : Int32) : zMn Int32 :=
  if p0 < 0 then (F_X11_isLabel_14) else
  (if 8 ≤ p0 then (F_X11_isLabel_14) else
  (F_X11_isLabel_15 1))
def F_X11_isNode_15 (s_0 : Int32) : zMn Int32 :=
  z_rb s_0
def F_X11_isNode_14  : zMn Int32 :=
  F_X11_isNode_15 0
def F_X11_isNode (p0 : Int32) : zMn Int32 :=
  if p0 < 0 then (F_X11_isNode_14) else
  (if 16 ≤ p0 then (F_X11_isNode_14) else
  (F_X11_isNode_15 1))
def F_X11_many_35 (a0 : Nat) (ih5 : Int32 → Int32 → Int32 → Int32 → zMn Int32) (x_1 : Int32) (x_2 : Int32) (x_4 : Int32) (s_0 : Int32) (s_1 : Int32) : zMn Int32 :=
  z_bd (z_ret (s_0 + s_1)) fun x6 =>
  ih5 x_1 x_2 x6 (x_4 + 1)
def B_X11_many_5 (a0 : Nat) (ih5 : Int32 → Int32 → Int32 → Int32 → zMn Int32) (x_1 : Int32) (x_2 : Int32) (x_3 : Int32) (x_4 : Int32) : zMn Int32 :=
  z_bd (z_gi ((some a0)) 11 1) fun x1 =>
  if x1 ≤ x_4 then (z_ret x_3) else
  (z_bd (z_ga ((some a0)) 11 0) fun r3 =>
  z_bd (z_li r3 ((3 * x_4) + x_2)) fun x4 =>
  if x4 = x_1 then (F_X11_many_35 a0 ih5 x_1 x_2 x_4 x_3 1) else
  (F_X11_many_35 a0 ih5 x_1 x_2 x_4 x_3 0))
def F_X11_many_5 (a0 : Nat) : Nat → Int32 × Int32 × Int32 × Int32 → zMn Int32 := z_fix fun ih s => B_X11_many_5 a0 (fun y0 y1 y2 y3 => ih (y0, y1, y2, y3)) s.1 s.2.1 s.2.2.1 s.2.2.2
def F_X11_many (a0 : Nat) (p0 : Int32) (p1 : Int32) : zMn Int32 :=
  F_X11_many_5 a0 z_N (p0, p1, 0, 0)
def F_X11_arc_195 (a0 : Nat)  : zMn Int32 :=
  z_bd (z_pf ((some a0)) 11 12 (.int 0)) fun _ =>
  z_ret 1
def B_X11_arc_157 (a0 : Nat) (ih157 : Int32 → Int32 → zMn Int32) (x_5 : Int32) (x_6 : Int32) : zMn Int32 :=
  if 3 ≤ x_6 then (F_X11_arc_195 a0) else
  (z_bd (z_ga ((some a0)) 11 0) fun r29 =>
  z_bd (z_ga ((some a0)) 11 0) fun r30 =>
  z_bd (z_gi ((some a0)) 11 1) fun x31 =>
  z_bd (z_li r30 ((3 * x31) + x_6)) fun x32 =>
  z_bd (z_si r29 ((3 * x_5) + x_6) x32) fun _ =>
  ih157 x_5 (x_6 + 1))
def F_X11_arc_157 (a0 : Nat) : Nat → Int32 × Int32 → zMn Int32 := z_fix fun ih s => B_X11_arc_157 a0 (fun y0 y1 => ih (y0, y1)) s.1 s.2
def F_X11_arc_88 (a0 : Nat)  : zMn Int32 :=
  z_ret ((-2))
def F_X11_arc_49 (a0 : Nat) (x_1 : Int32) (x_2 : Int32) (x_3 : Int32) (x_4 : Int32) (x_5 : Int32) (s_0 : Int32) (s_1 : Int32) : zMn Int32 :=
  if s_0 = s_1 then (z_ret 0) else
  (if x_4 = 0 then (z_bd (z_gi ((some a0)) 11 1) fun x12 =>
  z_bd (z_pf ((some a0)) 11 1 (.int (x12 - 1))) fun _ =>
  F_X11_arc_157 a0 z_N (x_5, 0)) else
  (z_bd (z_gi ((some a0)) 11 1) fun x13 =>
  if x13 = 60 then (F_X11_arc_88 a0) else
  (z_bd (z_rc ((some a0)) 11) fun b16 => z_bd (F_X11_many b16 x_1 0) fun x15 =>
  if x15 = 4 then (F_X11_arc_88 a0) else
  (z_bd (z_rc ((some a0)) 11) fun b19 => z_bd (F_X11_many b19 x_3 2) fun x18 =>
  if x18 = 4 then (F_X11_arc_88 a0) else
  (z_bd (z_ga ((some a0)) 11 0) fun r21 =>
  z_bd (z_gi ((some a0)) 11 1) fun x22 =>
  z_bd (z_si r21 (3 * x22) x_1) fun _ =>
  z_bd (z_ga ((some a0)) 11 0) fun r23 =>
  z_bd (z_gi ((some a0)) 11 1) fun x24 =>
  z_bd (z_si r23 ((3 * x24) + 1) x_2) fun _ =>
  z_bd (z_ga ((some a0)) 11 0) fun r25 =>
  z_bd (z_gi ((some a0)) 11 1) fun x26 =>
  z_bd (z_si r25 ((3 * x26) + 2) x_3) fun _ =>
  z_bd (z_gi ((some a0)) 11 1) fun x27 =>
  z_bd (z_pf ((some a0)) 11 1 (.int (x27 + 1))) fun _ =>
  F_X11_arc_195 a0)))))
def F_X11_arc_26 (a0 : Nat)  : zMn Int32 :=
  z_ret ((-1))
def F_X11_arc (a0 : Nat) (p0 : Int32) (p1 : Int32) (p2 : Int32) (p3 : Int32) : zMn Int32 :=
  z_bd (z_pf ((some a0)) 11 22 (.int 0)) fun _ =>
  z_bd (F_X11_isNode p0) fun x1 =>
  if x1 = 0 then (F_X11_arc_26 a0) else
  (z_bd (F_X11_isLabel p1) fun x3 =>
  if x3 = 0 then (F_X11_arc_26 a0) else
  (z_bd (F_X11_isNode p2) fun x5 =>
  if x5 = 0 then (F_X11_arc_26 a0) else
  (z_bd (z_rc ((some a0)) 11) fun b8 => z_bd (F_X11_find b8 p0 p1 p2) fun x7 =>
  if x7 < 0 then (F_X11_arc_49 a0 p0 p1 p2 p3 x7 p3 0) else
  (F_X11_arc_49 a0 p0 p1 p2 p3 x7 p3 1))))
def F_X11_arcs (a0 : Nat) : zMn Int32 :=
  z_bd (z_pf ((some a0)) 11 22 (.int 0)) fun _ =>
  z_bd (z_gi ((some a0)) 11 1) fun x1 =>
  z_ret x1
def F_X11_isExpression_17 (a0 : Nat) (s_0 : Int32) : zMn Int32 :=
  z_rb s_0
def F_X11_isExpression_16 (a0 : Nat)  : zMn Int32 :=
  F_X11_isExpression_17 a0 0
def F_X11_isExpression (a0 : Nat) (p0 : Int32) : zMn Int32 :=
  if p0 < 0 then (F_X11_isExpression_16 a0) else
  (z_bd (z_gi ((some a0)) 11 6) fun x2 =>
  if x2 ≤ p0 then (F_X11_isExpression_16 a0) else
  (F_X11_isExpression_17 a0 1))
def F_X11_isShape_15 (s_0 : Int32) : zMn Int32 :=
  z_rb s_0
def F_X11_isShape_14  : zMn Int32 :=
  F_X11_isShape_15 0
def F_X11_isShape (p0 : Int32) : zMn Int32 :=
  if p0 < 0 then (F_X11_isShape_14) else
  (if 16 ≤ p0 then (F_X11_isShape_14) else
  (F_X11_isShape_15 1))
def F_X11_expression_135 (a0 : Nat) (x_1 : Int32) (x_2 : Int32) (x_3 : Int32) (x_4 : Int32) (x_5 : Int32) : zMn Int32 :=
  if x_5 = 0 then (z_ret ((-1))) else
  (z_bd (z_gi ((some a0)) 11 6) fun x35 =>
  if x35 = 60 then (z_ret ((-2))) else
  (z_bd (z_ga ((some a0)) 11 2) fun r37 =>
  z_bd (z_gi ((some a0)) 11 6) fun x38 =>
  z_bd (z_si r37 x38 x_1) fun _ =>
  z_bd (z_ga ((some a0)) 11 3) fun r39 =>
  z_bd (z_gi ((some a0)) 11 6) fun x40 =>
  z_bd (z_si r39 x40 x_2) fun _ =>
  z_bd (z_ga ((some a0)) 11 4) fun r41 =>
  z_bd (z_gi ((some a0)) 11 6) fun x42 =>
  z_bd (z_si r41 x42 x_3) fun _ =>
  z_bd (z_ga ((some a0)) 11 5) fun r43 =>
  z_bd (z_gi ((some a0)) 11 6) fun x44 =>
  z_bd (z_si r43 x44 x_4) fun _ =>
  z_bd (z_gi ((some a0)) 11 6) fun x45 =>
  z_bd (z_pf ((some a0)) 11 6 (.int (x45 + 1))) fun _ =>
  z_bd (z_gi ((some a0)) 11 6) fun x46 =>
  z_ret (x46 - 1)))
def F_X11_expression_133 (a0 : Nat) (x_1 : Int32) (x_2 : Int32) (x_3 : Int32) (x_4 : Int32) (s_0 : Int32) : zMn Int32 :=
  F_X11_expression_135 a0 x_1 x_2 x_3 x_4 s_0
def F_X11_expression_118 (a0 : Nat) (x_1 : Int32) (x_2 : Int32) (x_3 : Int32) (x_4 : Int32) (s_0 : Int32) : zMn Int32 :=
  F_X11_expression_135 a0 x_1 x_2 x_3 x_4 s_0
def F_X11_expression_117 (a0 : Nat) (x_1 : Int32) (x_2 : Int32) (x_3 : Int32) (x_4 : Int32) : zMn Int32 :=
  F_X11_expression_118 a0 x_1 x_2 x_3 x_4 0
def F_X11_expression_90 (a0 : Nat) (x_1 : Int32) (x_2 : Int32) (x_3 : Int32) (x_4 : Int32) (s_0 : Int32) : zMn Int32 :=
  F_X11_expression_135 a0 x_1 x_2 x_3 x_4 s_0
def F_X11_expression_89 (a0 : Nat) (x_1 : Int32) (x_2 : Int32) (x_3 : Int32) (x_4 : Int32) : zMn Int32 :=
  F_X11_expression_90 a0 x_1 x_2 x_3 x_4 0
def F_X11_expression_64 (a0 : Nat) (x_1 : Int32) (x_2 : Int32) (x_3 : Int32) (x_4 : Int32) (s_0 : Int32) : zMn Int32 :=
  F_X11_expression_135 a0 x_1 x_2 x_3 x_4 s_0
def F_X11_expression_63 (a0 : Nat) (x_1 : Int32) (x_2 : Int32) (x_3 : Int32) (x_4 : Int32) : zMn Int32 :=
  F_X11_expression_64 a0 x_1 x_2 x_3 x_4 0
def F_X11_expression_59 (a0 : Nat) (x_1 : Int32) (x_2 : Int32) (x_3 : Int32) (x_4 : Int32) : zMn Int32 :=
  F_X11_expression_64 a0 x_1 x_2 x_3 x_4 1
def F_X11_expression (a0 : Nat) (p0 : Int32) (p1 : Int32) (p2 : Int32) (p3 : Int32) : zMn Int32 :=
  z_bd (z_pf ((some a0)) 11 22 (.int 0)) fun _ =>
  if p0 = 0 then (z_bd (F_X11_isLabel p1) fun x2 =>
  if x2 = 0 then (F_X11_expression_63 a0 p0 p1 p2 p3) else
  (if p2 = ((-1)) then (F_X11_expression_59 a0 p0 p1 p2 p3) else
  (z_bd (F_X11_isShape p2) fun x5 =>
  if x5 = 0 then (F_X11_expression_63 a0 p0 p1 p2 p3) else
  (F_X11_expression_59 a0 p0 p1 p2 p3)))) else
  (if p0 = 1 then (z_bd (F_X11_isLabel p1) fun x8 =>
  if x8 = 0 then (F_X11_expression_63 a0 p0 p1 p2 p3) else
  (if p2 = ((-1)) then (F_X11_expression_59 a0 p0 p1 p2 p3) else
  (z_bd (F_X11_isShape p2) fun x11 =>
  if x11 = 0 then (F_X11_expression_63 a0 p0 p1 p2 p3) else
  (F_X11_expression_59 a0 p0 p1 p2 p3)))) else
  (if p0 = 2 then (z_bd (z_rc ((some a0)) 11) fun b15 => z_bd (F_X11_isExpression b15 p1) fun x14 =>
  if x14 = 0 then (F_X11_expression_89 a0 p0 p1 p2 p3) else
  (z_bd (z_rc ((some a0)) 11) fun b18 => z_bd (F_X11_isExpression b18 p2) fun x17 =>
  if x17 = 0 then (F_X11_expression_89 a0 p0 p1 p2 p3) else
  (F_X11_expression_90 a0 p0 p1 p2 p3 1))) else
  (if p0 = 3 then (z_bd (z_rc ((some a0)) 11) fun b22 => z_bd (F_X11_isExpression b22 p1) fun x21 =>
  if x21 = 0 then (F_X11_expression_89 a0 p0 p1 p2 p3) else
  (z_bd (z_rc ((some a0)) 11) fun b25 => z_bd (F_X11_isExpression b25 p2) fun x24 =>
  if x24 = 0 then (F_X11_expression_89 a0 p0 p1 p2 p3) else
  (F_X11_expression_90 a0 p0 p1 p2 p3 1))) else
  (if p0 = 4 then (z_bd (z_rc ((some a0)) 11) fun b29 => z_bd (F_X11_isExpression b29 p1) fun x28 =>
  if x28 = 0 then (F_X11_expression_117 a0 p0 p1 p2 p3) else
  (if p2 < 0 then (F_X11_expression_117 a0 p0 p1 p2 p3) else
  (if p3 < ((-1)) then (F_X11_expression_117 a0 p0 p1 p2 p3) else
  (F_X11_expression_118 a0 p0 p1 p2 p3 1)))) else
  (if p0 = 5 then (F_X11_expression_133 a0 p0 p1 p2 p3 1) else
  (F_X11_expression_133 a0 p0 p1 p2 p3 0))))))
def F_X11_comesTo_19 (a0 : Nat) (s_0 : Int32) : zMn Int32 :=
  z_rb s_0
def F_X11_comesTo (a0 : Nat) (p0 : Int32) (p1 : Int32) : zMn Int32 :=
  z_bd (z_ga ((some a0)) 11 31) fun r1 =>
  z_bd (z_li r1 p0) fun x2 =>
  if ((x2 >>> (p1 &&& 31)) &&& 1) = 1 then (F_X11_comesTo_19 a0 1) else
  (F_X11_comesTo_19 a0 0)
def F_X11_findPlaces_162 (a0 : Nat) (ih115 : Int32 → Int32 → zMn Unit) (x_1 : Int32) (x_2 : Int32) : zMn Unit :=
  ih115 x_1 (x_2 + 1)
def B_X11_findPlaces_115 (a0 : Nat) (ih115 : Int32 → Int32 → zMn Unit) (x_1 : Int32) (x_2 : Int32) : zMn Unit :=
  if x_1 < x_2 then (z_ret ()) else
  (z_bd (z_ga ((some a0)) 11 19) fun r24 =>
  z_bd (z_lb r24 x_2) fun x25 =>
  if x25 = 0 then (F_X11_findPlaces_162 a0 ih115 x_1 x_2) else
  (z_bd (z_ga ((some a0)) 11 2) fun r27 =>
  z_bd (z_li r27 x_2) fun x28 =>
  if x28 ≤ 1 then (z_bd (z_ga ((some a0)) 11 20) fun r30 =>
  z_bd (z_gi ((some a0)) 11 21) fun x31 =>
  z_bd (z_si r30 x31 x_2) fun _ =>
  z_bd (z_gi ((some a0)) 11 21) fun x32 =>
  z_bd (z_pf ((some a0)) 11 21 (.int (x32 + 1))) fun _ =>
  F_X11_findPlaces_162 a0 ih115 x_1 x_2) else
  (F_X11_findPlaces_162 a0 ih115 x_1 x_2)))
def F_X11_findPlaces_115 (a0 : Nat) : Nat → Int32 × Int32 → zMn Unit := z_fix fun ih s => B_X11_findPlaces_115 a0 (fun y0 y1 => ih (y0, y1)) s.1 s.2
def F_X11_findPlaces_102 (a0 : Nat) (ih32 : Int32 → Int32 → zMn Unit) (x_1 : Int32) (x_2 : Int32) : zMn Unit :=
  ih32 x_1 (x_2 + (-1))
def B_X11_findPlaces_32 (a0 : Nat) (ih32 : Int32 → Int32 → zMn Unit) (x_1 : Int32) (x_2 : Int32) : zMn Unit :=
  if x_2 < 0 then (z_bd (z_pf ((some a0)) 11 21 (.int 0)) fun _ =>
  F_X11_findPlaces_115 a0 z_N (x_1, 0)) else
  (z_bd (z_ga ((some a0)) 11 19) fun r5 =>
  z_bd (z_lb r5 x_2) fun x6 =>
  if x6 = 0 then (F_X11_findPlaces_102 a0 ih32 x_1 x_2) else
  (z_bd (z_ga ((some a0)) 11 2) fun r8 =>
  z_bd (z_li r8 x_2) fun x9 =>
  if x9 < 2 then (F_X11_findPlaces_102 a0 ih32 x_1 x_2) else
  (z_bd (z_ga ((some a0)) 11 2) fun r11 =>
  z_bd (z_li r11 x_2) fun x12 =>
  if x12 = 5 then (F_X11_findPlaces_102 a0 ih32 x_1 x_2) else
  (z_bd (z_ga ((some a0)) 11 19) fun r14 =>
  z_bd (z_ga ((some a0)) 11 3) fun r15 =>
  z_bd (z_li r15 x_2) fun x16 =>
  z_bd (z_sb r14 x16 1) fun _ =>
  z_bd (z_ga ((some a0)) 11 2) fun r17 =>
  z_bd (z_li r17 x_2) fun x18 =>
  if 4 ≤ x18 then (F_X11_findPlaces_102 a0 ih32 x_1 x_2) else
  (z_bd (z_ga ((some a0)) 11 19) fun r20 =>
  z_bd (z_ga ((some a0)) 11 4) fun r21 =>
  z_bd (z_li r21 x_2) fun x22 =>
  z_bd (z_sb r20 x22 1) fun _ =>
  F_X11_findPlaces_102 a0 ih32 x_1 x_2)))))
def F_X11_findPlaces_32 (a0 : Nat) : Nat → Int32 × Int32 → zMn Unit := z_fix fun ih s => B_X11_findPlaces_32 a0 (fun y0 y1 => ih (y0, y1)) s.1 s.2
def F_X11_findPlaces_23 (a0 : Nat) (ih2 : Int32 → Int32 → zMn Unit) (x_1 : Int32) (x_2 : Int32) (t_0 : Option Nat) (s_1 : Int32) (s_2 : Int32) : zMn Unit :=
  z_bd (z_sb t_0 s_1 s_2) fun _ =>
  ih2 x_1 (x_2 + 1)
def B_X11_findPlaces_2 (a0 : Nat) (ih2 : Int32 → Int32 → zMn Unit) (x_1 : Int32) (x_2 : Int32) : zMn Unit :=
  if 60 ≤ x_2 then (F_X11_findPlaces_32 a0 z_N (x_1, x_1)) else
  (z_bd (z_ga ((some a0)) 11 19) fun r2 =>
  if x_2 = x_1 then (F_X11_findPlaces_23 a0 ih2 x_1 x_2 r2 x_2 1) else
  (F_X11_findPlaces_23 a0 ih2 x_1 x_2 r2 x_2 0))
def F_X11_findPlaces_2 (a0 : Nat) : Nat → Int32 × Int32 → zMn Unit := z_fix fun ih s => B_X11_findPlaces_2 a0 (fun y0 y1 => ih (y0, y1)) s.1 s.2
def F_X11_findPlaces (a0 : Nat) (p0 : Int32) : zMn Unit :=
  F_X11_findPlaces_2 a0 z_N (p0, 0)
def F_X11_refers_128 (a0 : Nat) (x_2 : Int32) : zMn Int32 :=
  z_ret x_2
def F_X11_refers_120 (a0 : Nat) (ih80 : Int32 → Int32 → zMn Int32) (x_3 : Int32) (s_0 : Int32) (s_1 : Int32) : zMn Int32 :=
  z_bd (z_ret (s_0 ||| s_1)) fun x30 =>
  ih80 x30 (x_3 + 1)
def B_X11_refers_80 (a0 : Nat) (ih80 : Int32 → Int32 → zMn Int32) (x_2 : Int32) (x_3 : Int32) : zMn Int32 :=
  z_bd (z_gi ((some a0)) 11 21) fun x19 =>
  if x19 ≤ x_3 then (F_X11_refers_128 a0 x_2) else
  (z_bd (z_ga ((some a0)) 11 4) fun r21 =>
  z_bd (z_ga ((some a0)) 11 20) fun r22 =>
  z_bd (z_li r22 x_3) fun x23 =>
  z_bd (z_li r21 x23) fun x24 =>
  if x24 < 0 then (F_X11_refers_120 a0 ih80 x_3 x_2 0) else
  (z_bd (z_ga ((some a0)) 11 4) fun r26 =>
  z_bd (z_ga ((some a0)) 11 20) fun r27 =>
  z_bd (z_li r27 x_3) fun x28 =>
  z_bd (z_li r26 x28) fun x29 =>
  F_X11_refers_120 a0 ih80 x_3 x_2 ((1 : Int32) <<< (x29 &&& 31))))
def F_X11_refers_80 (a0 : Nat) : Nat → Int32 × Int32 → zMn Int32 := z_fix fun ih s => B_X11_refers_80 a0 (fun y0 y1 => ih (y0, y1)) s.1 s.2
def F_X11_refers_59 (a0 : Nat) (x_1 : Int32) (x_2 : Int32) : zMn Int32 :=
  z_bd (z_ga ((some a0)) 11 7) fun r13 =>
  z_bd (z_li r13 x_1) fun x14 =>
  if x14 = 0 then (z_bd (z_ga ((some a0)) 11 8) fun r16 =>
  z_bd (z_li r16 x_1) fun x17 =>
  z_bd (z_rc ((some a0)) 11) fun b18 => z_bd (F_X11_findPlaces b18 x17) fun _ =>
  F_X11_refers_80 a0 z_N (x_2, 0)) else
  (F_X11_refers_128 a0 x_2)
def F_X11_refers_40 (a0 : Nat) (x_1 : Int32) (x_2 : Int32) : zMn Int32 :=
  z_bd (z_ga ((some a0)) 11 7) fun r7 =>
  z_bd (z_li r7 x_1) fun x8 =>
  if x8 = 3 then (z_bd (z_ga ((some a0)) 11 8) fun r10 =>
  z_bd (z_li r10 x_1) fun x11 =>
  z_bd (z_ret ((1 : Int32) <<< (x11 &&& 31))) fun x12 =>
  F_X11_refers_59 a0 x_1 x12) else
  (F_X11_refers_59 a0 x_1 x_2)
def F_X11_refers_22 (a0 : Nat) (x_1 : Int32) : zMn Int32 :=
  z_bd (z_ga ((some a0)) 11 8) fun r31 =>
  z_bd (z_li r31 x_1) fun x32 =>
  z_bd (z_ga ((some a0)) 11 9) fun r33 =>
  z_bd (z_li r33 x_1) fun x34 =>
  z_bd (z_ret (((1 : Int32) <<< (x32 &&& 31)) ||| ((1 : Int32) <<< (x34 &&& 31)))) fun x35 =>
  F_X11_refers_40 a0 x_1 x35
def F_X11_refers (a0 : Nat) (p0 : Int32) : zMn Int32 :=
  z_bd (z_ga ((some a0)) 11 7) fun r1 =>
  z_bd (z_li r1 p0) fun x2 =>
  if x2 = 1 then (F_X11_refers_22 a0 p0) else
  (z_bd (z_ga ((some a0)) 11 7) fun r4 =>
  z_bd (z_li r4 p0) fun x5 =>
  if x5 = 2 then (F_X11_refers_22 a0 p0) else
  (F_X11_refers_40 a0 p0 0))
def F_X11_findRings_176 (a0 : Nat) (ih131 : Int32 → zMn Unit) (ih137 : Int32 → Int32 → zMn Unit) (x_2 : Int32) (x_3 : Int32) : zMn Unit :=
  ih137 x_2 (x_3 + 1)
def B_X11_findRings_137 (a0 : Nat) (ih131 : Int32 → zMn Unit) (ih137 : Int32 → Int32 → zMn Unit) (x_2 : Int32) (x_3 : Int32) : zMn Unit :=
  if 16 ≤ x_3 then (ih131 (x_2 + (-1))) else
  (z_bd (z_ga ((some a0)) 11 7) fun r23 =>
  z_bd (z_li r23 x_3) fun x24 =>
  if x24 = 3 then (z_bd (z_rc ((some a0)) 11) fun b27 => z_bd (F_X11_comesTo b27 x_2 x_3) fun x26 =>
  if x26 = 0 then (F_X11_findRings_176 a0 ih131 ih137 x_2 x_3) else
  (z_bd (z_rc ((some a0)) 11) fun b30 => z_bd (F_X11_comesTo b30 x_3 x_2) fun x29 =>
  if x29 = 0 then (F_X11_findRings_176 a0 ih131 ih137 x_2 x_3) else
  (z_bd (z_pf ((some a0)) 11 13 (.int x_2)) fun _ =>
  F_X11_findRings_176 a0 ih131 ih137 x_2 x_3))) else
  (F_X11_findRings_176 a0 ih131 ih137 x_2 x_3))
def F_X11_findRings_137 (a0 : Nat) (ih131 : Int32 → zMn Unit) : Nat → Int32 × Int32 → zMn Unit := z_fix fun ih s => B_X11_findRings_137 a0 ih131 (fun y0 y1 => ih (y0, y1)) s.1 s.2
def B_X11_findRings_131 (a0 : Nat) (ih131 : Int32 → zMn Unit) (x_2 : Int32) : zMn Unit :=
  if x_2 < 0 then (z_ret ()) else
  (F_X11_findRings_137 a0 ih131 z_N (x_2, 0))
def F_X11_findRings_131 (a0 : Nat) : Nat → Int32 → zMn Unit := z_fix fun ih s => B_X11_findRings_131 a0 (fun y0 => ih (y0)) s
def F_X11_findRings_113 (a0 : Nat) (ih27 : Int32 → zMn Unit) (ih35 : Int32 → Int32 → zMn Unit) (x_2 : Int32) (s_0 : Int32) : zMn Unit :=
  ih35 s_0 (x_2 + 1)
def F_X11_findRings_108 (a0 : Nat) (ih27 : Int32 → zMn Unit) (ih35 : Int32 → Int32 → zMn Unit) (x_2 : Int32) : zMn Unit :=
  F_X11_findRings_113 a0 ih27 ih35 x_2 1
def F_X11_findRings_86 (a0 : Nat) (ih27 : Int32 → zMn Unit) (ih35 : Int32 → Int32 → zMn Unit) (ih51 : Int32 → Int32 → Int32 → Int32 → zMn Unit) (x_1 : Int32) (x_2 : Int32) (x_3 : Int32) (x_4 : Int32) (t_0 : Option Nat) (s_1 : Int32) (s_2 : Int32) (s_3 : Int32) : zMn Unit :=
  z_bd (z_si t_0 s_1 (s_2 ||| s_3)) fun _ =>
  ih51 x_1 x_2 x_3 (x_4 + 1)
def B_X11_findRings_51 (a0 : Nat) (ih27 : Int32 → zMn Unit) (ih35 : Int32 → Int32 → zMn Unit) (ih51 : Int32 → Int32 → Int32 → Int32 → zMn Unit) (x_1 : Int32) (x_2 : Int32) (x_3 : Int32) (x_4 : Int32) : zMn Unit :=
  if 16 ≤ x_4 then (if x_1 = 0 then (z_bd (z_ga ((some a0)) 11 31) fun r11 =>
  z_bd (z_li r11 x_2) fun x12 =>
  if x12 = x_3 then (F_X11_findRings_113 a0 ih27 ih35 x_2 0) else
  (F_X11_findRings_108 a0 ih27 ih35 x_2)) else
  (F_X11_findRings_108 a0 ih27 ih35 x_2)) else
  (z_bd (z_ga ((some a0)) 11 31) fun r14 =>
  z_bd (z_li r14 x_2) fun x15 =>
  z_bd (z_rc ((some a0)) 11) fun b17 => z_bd (F_X11_comesTo b17 x_2 x_4) fun x16 =>
  if x16 = 0 then (F_X11_findRings_86 a0 ih27 ih35 ih51 x_1 x_2 x_3 x_4 r14 x_2 x15 0) else
  (z_bd (z_ga ((some a0)) 11 31) fun r19 =>
  z_bd (z_li r19 x_4) fun x20 =>
  F_X11_findRings_86 a0 ih27 ih35 ih51 x_1 x_2 x_3 x_4 r14 x_2 x15 x20))
def F_X11_findRings_51 (a0 : Nat) (ih27 : Int32 → zMn Unit) (ih35 : Int32 → Int32 → zMn Unit) : Nat → Int32 × Int32 × Int32 × Int32 → zMn Unit := z_fix fun ih s => B_X11_findRings_51 a0 ih27 ih35 (fun y0 y1 y2 y3 => ih (y0, y1, y2, y3)) s.1 s.2.1 s.2.2.1 s.2.2.2
def B_X11_findRings_35 (a0 : Nat) (ih27 : Int32 → zMn Unit) (ih35 : Int32 → Int32 → zMn Unit) (x_1 : Int32) (x_2 : Int32) : zMn Unit :=
  if 16 ≤ x_2 then (ih27 x_1) else
  (z_bd (z_ga ((some a0)) 11 31) fun r7 =>
  z_bd (z_li r7 x_2) fun x8 =>
  F_X11_findRings_51 a0 ih27 ih35 z_N (x_1, x_2, x8, 0))
def F_X11_findRings_35 (a0 : Nat) (ih27 : Int32 → zMn Unit) : Nat → Int32 × Int32 → zMn Unit := z_fix fun ih s => B_X11_findRings_35 a0 ih27 (fun y0 y1 => ih (y0, y1)) s.1 s.2
def B_X11_findRings_27 (a0 : Nat) (ih27 : Int32 → zMn Unit) (x_1 : Int32) : zMn Unit :=
  if x_1 = 0 then (z_bd (z_pf ((some a0)) 11 13 (.int ((-1)))) fun _ =>
  F_X11_findRings_131 a0 z_N (15)) else
  (F_X11_findRings_35 a0 ih27 z_N (0, 0))
def F_X11_findRings_27 (a0 : Nat) : Nat → Int32 → zMn Unit := z_fix fun ih s => B_X11_findRings_27 a0 (fun y0 => ih (y0)) s
def B_X11_findRings_2 (a0 : Nat) (ih2 : Int32 → zMn Unit) (x_1 : Int32) : zMn Unit :=
  if 16 ≤ x_1 then (F_X11_findRings_27 a0 z_N (1)) else
  (z_bd (z_ga ((some a0)) 11 31) fun r2 =>
  z_bd (z_rc ((some a0)) 11) fun b4 => z_bd (F_X11_refers b4 x_1) fun x3 =>
  z_bd (z_si r2 x_1 x3) fun _ =>
  ih2 (x_1 + 1))
def F_X11_findRings_2 (a0 : Nat) : Nat → Int32 → zMn Unit := z_fix fun ih s => B_X11_findRings_2 a0 (fun y0 => ih (y0)) s
def F_X11_findRings (a0 : Nat) : zMn Unit :=
  F_X11_findRings_2 a0 z_N (0)
def F_X11_isReady_55 (a0 : Nat) (s_0 : Int32) : zMn Int32 :=
  z_rb s_0
def F_X11_isReady_36 (a0 : Nat) (ih2 : Int32 → Int32 → Int32 → zMn Int32) (x_1 : Int32) (x_2 : Int32) (x_3 : Int32) : zMn Int32 :=
  ih2 x_1 x_2 (x_3 + 1)
def B_X11_isReady_2 (a0 : Nat) (ih2 : Int32 → Int32 → Int32 → zMn Int32) (x_1 : Int32) (x_2 : Int32) (x_3 : Int32) : zMn Int32 :=
  if 16 ≤ x_3 then (if ((x_2 >>> (x_1 &&& 31)) &&& 1) = 0 then (F_X11_isReady_55 a0 1) else
  (F_X11_isReady_55 a0 0)) else
  (z_bd (z_rc ((some a0)) 11) fun b4 => z_bd (F_X11_comesTo b4 x_1 x_3) fun x3 =>
  if x3 = 0 then (F_X11_isReady_36 a0 ih2 x_1 x_2 x_3) else
  (z_bd (z_rc ((some a0)) 11) fun b7 => z_bd (F_X11_comesTo b7 x_3 x_1) fun x6 =>
  if x6 = 0 then (if ((x_2 >>> (x_3 &&& 31)) &&& 1) = 0 then (z_rb 0) else
  (F_X11_isReady_36 a0 ih2 x_1 x_2 x_3)) else
  (F_X11_isReady_36 a0 ih2 x_1 x_2 x_3)))
def F_X11_isReady_2 (a0 : Nat) : Nat → Int32 × Int32 × Int32 → zMn Int32 := z_fix fun ih s => B_X11_isReady_2 a0 (fun y0 y1 y2 => ih (y0, y1, y2)) s.1 s.2.1 s.2.2
def F_X11_isReady (a0 : Nat) (p0 : Int32) (p1 : Int32) : zMn Int32 :=
  F_X11_isReady_2 a0 z_N (p0, p1, 0)
def F_X11_isOut_14 (a0 : Nat) (s_0 : Int32) : zMn Int32 :=
  z_rb s_0
def F_X11_isOut (a0 : Nat) (p0 : Int32) : zMn Int32 :=
  z_bd (z_ga ((some a0)) 11 2) fun r1 =>
  z_bd (z_li r1 p0) fun x2 =>
  if x2 = 0 then (F_X11_isOut_14 a0 1) else
  (F_X11_isOut_14 a0 0)
def F_X11_concerns_70 (a0 : Nat) (ih19 : Int32 → Int32 → Int32 → zMn Int32) (x_2 : Int32) (x_3 : Int32) (x_4 : Int32) : zMn Int32 :=
  ih19 x_2 x_3 (x_4 + 1)
def B_X11_concerns_19 (a0 : Nat) (ih19 : Int32 → Int32 → Int32 → zMn Int32) (x_2 : Int32) (x_3 : Int32) (x_4 : Int32) : zMn Int32 :=
  z_bd (z_gi ((some a0)) 11 21) fun x5 =>
  if x5 ≤ x_4 then (z_rb 0) else
  (z_bd (z_ga ((some a0)) 11 20) fun r7 =>
  z_bd (z_li r7 x_4) fun x8 =>
  z_bd (z_rc ((some a0)) 11) fun b10 => z_bd (F_X11_isOut b10 x8) fun x9 =>
  if x9 = x_3 then (z_bd (z_ga ((some a0)) 11 3) fun r12 =>
  z_bd (z_ga ((some a0)) 11 20) fun r13 =>
  z_bd (z_li r13 x_4) fun x14 =>
  z_bd (z_li r12 x14) fun x15 =>
  z_bd (z_ga ((some a0)) 11 0) fun r16 =>
  z_bd (z_li r16 ((3 * x_2) + 1)) fun x17 =>
  if x15 = x17 then (z_rb 1) else
  (F_X11_concerns_70 a0 ih19 x_2 x_3 x_4)) else
  (F_X11_concerns_70 a0 ih19 x_2 x_3 x_4))
def F_X11_concerns_19 (a0 : Nat) : Nat → Int32 × Int32 × Int32 → zMn Int32 := z_fix fun ih s => B_X11_concerns_19 a0 (fun y0 y1 y2 => ih (y0, y1, y2)) s.1 s.2.1 s.2.2
def F_X11_concerns_16 (a0 : Nat) (x_2 : Int32) (x_3 : Int32) : zMn Int32 :=
  F_X11_concerns_19 a0 z_N (x_2, x_3, 0)
def F_X11_concerns (a0 : Nat) (p0 : Int32) (p1 : Int32) (p2 : Int32) : zMn Int32 :=
  if p2 = 0 then (F_X11_concerns_16 a0 p1 p2) else
  (z_bd (z_ga ((some a0)) 11 10) fun r2 =>
  z_bd (z_li r2 p0) fun x3 =>
  if x3 = 1 then (z_rb 1) else
  (F_X11_concerns_16 a0 p1 p2))
def F_X11_mayBeLeft_32 (a0 : Nat) (s_0 : Int32) : zMn Int32 :=
  z_rb s_0
def F_X11_mayBeLeft_31 (a0 : Nat)  : zMn Int32 :=
  F_X11_mayBeLeft_32 a0 0
def F_X11_mayBeLeft (a0 : Nat) (p0 : Int32) (p1 : Int32) (p2 : Int32) : zMn Int32 :=
  if p2 = 0 then (F_X11_mayBeLeft_31 a0) else
  (z_bd (z_ga ((some a0)) 11 9) fun r2 =>
  z_bd (z_li r2 p0) fun x3 =>
  z_bd (z_ga ((some a0)) 11 0) fun r4 =>
  z_bd (z_li r4 ((3 * p1) + 1)) fun x5 =>
  if ((x3 >>> (x5 &&& 31)) &&& 1) = 1 then (F_X11_mayBeLeft_32 a0 1) else
  (F_X11_mayBeLeft_31 a0))
def F_X11_takes_83 (a0 : Nat) (s_0 : Int32) : zMn Int32 :=
  z_rb s_0
def F_X11_takes_82 (a0 : Nat)  : zMn Int32 :=
  F_X11_takes_83 a0 0
def F_X11_takes_78 (a0 : Nat)  : zMn Int32 :=
  F_X11_takes_83 a0 1
def F_X11_takes_16 (a0 : Nat) (x_1 : Int32) (x_2 : Int32) (x_3 : Int32) (t_0 : Option Nat) (s_1 : Int32) (s_2 : Int32) : zMn Int32 :=
  z_bd (z_li t_0 (s_1 + s_2)) fun x3 =>
  z_bd (z_rc ((some a0)) 11) fun b5 => z_bd (F_X11_isOut b5 x_1) fun x4 =>
  if x4 = x_3 then (z_bd (z_ga ((some a0)) 11 3) fun r7 =>
  z_bd (z_li r7 x_1) fun x8 =>
  z_bd (z_ga ((some a0)) 11 0) fun r9 =>
  z_bd (z_li r9 ((3 * x_2) + 1)) fun x10 =>
  if x8 = x10 then (z_bd (z_ga ((some a0)) 11 4) fun r12 =>
  z_bd (z_li r12 x_1) fun x13 =>
  if x13 = ((-1)) then (F_X11_takes_78 a0) else
  (z_bd (z_ga ((some a0)) 11 11) fun r15 =>
  z_bd (z_ga ((some a0)) 11 4) fun r16 =>
  z_bd (z_li r16 x_1) fun x17 =>
  z_bd (z_li r15 x17) fun x18 =>
  if ((x18 >>> (x3 &&& 31)) &&& 1) = 1 then (F_X11_takes_78 a0) else
  (F_X11_takes_82 a0))) else
  (F_X11_takes_82 a0)) else
  (F_X11_takes_82 a0)
def F_X11_takes (a0 : Nat) (p0 : Int32) (p1 : Int32) (p2 : Int32) : zMn Int32 :=
  z_bd (z_ga ((some a0)) 11 0) fun r1 =>
  if p2 = 0 then (F_X11_takes_16 a0 p0 p1 p2 r1 (3 * p1) 0) else
  (F_X11_takes_16 a0 p0 p1 p2 r1 (3 * p1) 2)
def B_X11_giveOut_165 (a0 : Nat) (ih165 : Int32 → zMn Unit) (x_5 : Int32) : zMn Unit :=
  z_bd (z_gi ((some a0)) 11 16) fun x33 =>
  if x33 ≤ x_5 then (z_ret ()) else
  (z_bd (z_ga ((some a0)) 11 29) fun r35 =>
  z_bd (z_ga ((some a0)) 11 30) fun r36 =>
  z_bd (z_ll r36 x_5) fun w37 =>
  z_bd (z_slo r35 x_5 w37) fun _ =>
  ih165 (x_5 + 1))
def F_X11_giveOut_165 (a0 : Nat) : Nat → Int32 → zMn Unit := z_fix fun ih s => B_X11_giveOut_165 a0 (fun y0 => ih (y0)) s
def F_X11_giveOut_149 (a0 : Nat) (ih52 : Int32 → Int32 → Int32 → Int32 → zMn Unit) (x_2 : Int32) (x_3 : Int32) (x_4 : Int32) (x_5 : Int32) : zMn Unit :=
  z_bd (z_ret (9 * x_4)) fun x32 =>
  ih52 x_2 x_3 x32 (x_5 + 1)
def F_X11_giveOut_143 (a0 : Nat) (ih52 : Int32 → Int32 → Int32 → Int32 → zMn Unit) (ih64 : Int32 → Int32 → Int32 → Int32 → Int32 → zMn Unit) (x_2 : Int32) (x_3 : Int32) (x_4 : Int32) (x_5 : Int32) (x_6 : Int32) : zMn Unit :=
  ih64 x_2 x_3 x_4 x_5 (x_6 + 1)
def B_X11_giveOut_64 (a0 : Nat) (ih52 : Int32 → Int32 → Int32 → Int32 → zMn Unit) (ih64 : Int32 → Int32 → Int32 → Int32 → Int32 → zMn Unit) (x_2 : Int32) (x_3 : Int32) (x_4 : Int32) (x_5 : Int32) (x_6 : Int32) : zMn Unit :=
  z_bd (z_gi ((some a0)) 11 16) fun x11 =>
  if x11 ≤ x_6 then (F_X11_giveOut_149 a0 ih52 x_2 x_3 x_4 x_5) else
  (z_bd (z_ga ((some a0)) 11 20) fun r13 =>
  z_bd (z_li r13 x_5) fun x14 =>
  z_bd (z_rc ((some a0)) 11) fun b16 => z_bd (F_X11_takes b16 x14 x_2 x_3) fun x15 =>
  if x15 = 0 then (F_X11_giveOut_149 a0 ih52 x_2 x_3 x_4 x_5) else
  (z_bd (z_ga ((some a0)) 11 29) fun r18 =>
  z_bd (z_ll r18 x_6) fun w19 =>
  if (lg_cmp w19 0) ≤ 0 then (F_X11_giveOut_143 a0 ih52 ih64 x_2 x_3 x_4 x_5 x_6) else
  (z_bd (z_ga ((some a0)) 11 15) fun r21 =>
  z_bd (z_li r21 x_6) fun x22 =>
  if 8 ≤ x22 then (F_X11_giveOut_143 a0 ih52 ih64 x_2 x_3 x_4 x_5 x_6) else
  (z_bd (z_ga ((some a0)) 11 30) fun r24 =>
  z_bd (z_ga ((some a0)) 11 17) fun r25 =>
  z_bd (z_ga ((some a0)) 11 14) fun r26 =>
  z_bd (z_li r26 x_6) fun x27 =>
  z_bd (z_li r25 (x27 + x_4)) fun x28 =>
  z_bd (z_ll r24 x28) fun w29 =>
  z_bd (z_ga ((some a0)) 11 29) fun r30 =>
  z_bd (z_ll r30 x_6) fun w31 =>
  z_bd (z_slo r24 x28 (w29 + w31)) fun _ =>
  F_X11_giveOut_143 a0 ih52 ih64 x_2 x_3 x_4 x_5 x_6))))
def F_X11_giveOut_64 (a0 : Nat) (ih52 : Int32 → Int32 → Int32 → Int32 → zMn Unit) : Nat → Int32 × Int32 × Int32 × Int32 × Int32 → zMn Unit := z_fix fun ih s => B_X11_giveOut_64 a0 ih52 (fun y0 y1 y2 y3 y4 => ih (y0, y1, y2, y3, y4)) s.1 s.2.1 s.2.2.1 s.2.2.2.1 s.2.2.2.2
def B_X11_giveOut_52 (a0 : Nat) (ih52 : Int32 → Int32 → Int32 → Int32 → zMn Unit) (x_2 : Int32) (x_3 : Int32) (x_4 : Int32) (x_5 : Int32) : zMn Unit :=
  z_bd (z_gi ((some a0)) 11 21) fun x9 =>
  if x9 ≤ x_5 then (F_X11_giveOut_165 a0 z_N (0)) else
  (F_X11_giveOut_64 a0 ih52 z_N (x_2, x_3, x_4, x_5, 0))
def F_X11_giveOut_52 (a0 : Nat) : Nat → Int32 × Int32 × Int32 × Int32 → zMn Unit := z_fix fun ih s => B_X11_giveOut_52 a0 (fun y0 y1 y2 y3 => ih (y0, y1, y2, y3)) s.1 s.2.1 s.2.2.1 s.2.2.2
def F_X11_giveOut_39 (a0 : Nat) (ih3 : Int32 → Int32 → Int32 → Int32 → zMn Unit) (x_1 : Int32) (x_2 : Int32) (x_3 : Int32) (x_4 : Int32) (t_0 : Option Nat) (s_1 : Int32) (u_2 : Int64) : zMn Unit :=
  z_bd (z_slo t_0 s_1 u_2) fun _ =>
  ih3 x_1 x_2 x_3 (x_4 + 1)
def B_X11_giveOut_3 (a0 : Nat) (ih3 : Int32 → Int32 → Int32 → Int32 → zMn Unit) (x_1 : Int32) (x_2 : Int32) (x_3 : Int32) (x_4 : Int32) : zMn Unit :=
  z_bd (z_gi ((some a0)) 11 16) fun x1 =>
  if x1 ≤ x_4 then (F_X11_giveOut_52 a0 z_N (x_2, x_3, 1, 0)) else
  (z_bd (z_ga ((some a0)) 11 30) fun r3 =>
  z_bd (z_rc ((some a0)) 11) fun b5 => z_bd (F_X11_mayBeLeft b5 x_1 x_2 x_3) fun x4 =>
  if x4 = 0 then (F_X11_giveOut_39 a0 ih3 x_1 x_2 x_3 x_4 r3 x_4 0) else
  (z_bd (z_ga ((some a0)) 11 29) fun r7 =>
  z_bd (z_ll r7 x_4) fun w8 =>
  F_X11_giveOut_39 a0 ih3 x_1 x_2 x_3 x_4 r3 x_4 w8))
def F_X11_giveOut_3 (a0 : Nat) : Nat → Int32 × Int32 × Int32 × Int32 → zMn Unit := z_fix fun ih s => B_X11_giveOut_3 a0 (fun y0 y1 y2 y3 => ih (y0, y1, y2, y3)) s.1 s.2.1 s.2.2.1 s.2.2.2
def F_X11_giveOut (a0 : Nat) (p0 : Int32) (p1 : Int32) (p2 : Int32) : zMn Unit :=
  F_X11_giveOut_3 a0 z_N (p0, p1, p2, 0)
def F_X11_least_12 (s_0 : Int32) : zMn Int32 :=
  z_ret s_0
def F_X11_least (p0 : Int32) : zMn Int32 :=
  if 9 ≤ p0 then (F_X11_least_12 9) else
  (F_X11_least_12 p0)
def B_X11_repeat_238 (a0 : Nat) (ih38 : Int32 → Int32 → Int32 → Int32 → Int32 → zMn Unit) (ih238 : Int32 → Int32 → Int32 → Int32 → Int32 → Int32 → zMn Unit) (x_1 : Int32) (x_2 : Int32) (x_3 : Int32) (x_4 : Int32) (x_5 : Int32) (x_6 : Int32) : zMn Unit :=
  z_bd (z_gi ((some a0)) 11 16) fun x41 =>
  if x41 ≤ x_6 then (ih38 x_1 x_2 x_3 x_4 (x_5 + 1)) else
  (z_bd (z_ga ((some a0)) 11 25) fun r43 =>
  z_bd (z_ga ((some a0)) 11 26) fun r44 =>
  z_bd (z_lb r44 x_6) fun x45 =>
  z_bd (z_sb r43 x_6 x45) fun _ =>
  ih238 x_1 x_2 x_3 x_4 x_5 (x_6 + 1))
def F_X11_repeat_238 (a0 : Nat) (ih38 : Int32 → Int32 → Int32 → Int32 → Int32 → zMn Unit) : Nat → Int32 × Int32 × Int32 × Int32 × Int32 × Int32 → zMn Unit := z_fix fun ih s => B_X11_repeat_238 a0 ih38 (fun y0 y1 y2 y3 y4 y5 => ih (y0, y1, y2, y3, y4, y5)) s.1 s.2.1 s.2.2.1 s.2.2.2.1 s.2.2.2.2.1 s.2.2.2.2.2
def F_X11_repeat_229 (a0 : Nat) (ih38 : Int32 → Int32 → Int32 → Int32 → Int32 → zMn Unit) (ih134 : Int32 → Int32 → Int32 → Int32 → Int32 → Int32 → zMn Unit) (x_1 : Int32) (x_2 : Int32) (x_3 : Int32) (x_4 : Int32) (x_5 : Int32) (x_6 : Int32) : zMn Unit :=
  ih134 x_1 x_2 x_3 x_4 x_5 (x_6 + 1)
def F_X11_repeat_223 (a0 : Nat) (ih38 : Int32 → Int32 → Int32 → Int32 → Int32 → zMn Unit) (ih134 : Int32 → Int32 → Int32 → Int32 → Int32 → Int32 → zMn Unit) (ih146 : Int32 → Int32 → Int32 → Int32 → Int32 → Int32 → Int32 → zMn Unit) (x_1 : Int32) (x_2 : Int32) (x_3 : Int32) (x_4 : Int32) (x_5 : Int32) (x_6 : Int32) (x_7 : Int32) : zMn Unit :=
  ih146 x_1 x_2 x_3 x_4 x_5 x_6 (x_7 + 1)
def B_X11_repeat_146 (a0 : Nat) (ih38 : Int32 → Int32 → Int32 → Int32 → Int32 → zMn Unit) (ih134 : Int32 → Int32 → Int32 → Int32 → Int32 → Int32 → zMn Unit) (ih146 : Int32 → Int32 → Int32 → Int32 → Int32 → Int32 → Int32 → zMn Unit) (x_1 : Int32) (x_2 : Int32) (x_3 : Int32) (x_4 : Int32) (x_5 : Int32) (x_6 : Int32) (x_7 : Int32) : zMn Unit :=
  z_bd (z_gi ((some a0)) 11 16) fun x21 =>
  if x21 ≤ x_7 then (F_X11_repeat_229 a0 ih38 ih134 x_1 x_2 x_3 x_4 x_5 x_6) else
  (z_bd (z_ga ((some a0)) 11 25) fun r23 =>
  z_bd (z_lb r23 x_6) fun x24 =>
  if x24 = 0 then (F_X11_repeat_229 a0 ih38 ih134 x_1 x_2 x_3 x_4 x_5 x_6) else
  (z_bd (z_ga ((some a0)) 11 18) fun r26 =>
  z_bd (z_lb r26 (x_1 + x_7)) fun x27 =>
  if x27 = 0 then (F_X11_repeat_223 a0 ih38 ih134 ih146 x_1 x_2 x_3 x_4 x_5 x_6 x_7) else
  (z_bd (z_ga ((some a0)) 11 15) fun r29 =>
  z_bd (z_li r29 x_6) fun x30 =>
  z_bd (z_ga ((some a0)) 11 15) fun r31 =>
  z_bd (z_li r31 x_7) fun x32 =>
  if 9 ≤ (x30 + x32) then (F_X11_repeat_223 a0 ih38 ih134 ih146 x_1 x_2 x_3 x_4 x_5 x_6 x_7) else
  (z_bd (z_ga ((some a0)) 11 26) fun r34 =>
  z_bd (z_ga ((some a0)) 11 17) fun r35 =>
  z_bd (z_ga ((some a0)) 11 14) fun r36 =>
  z_bd (z_li r36 x_6) fun x37 =>
  z_bd (z_ga ((some a0)) 11 14) fun r38 =>
  z_bd (z_li r38 x_7) fun x39 =>
  z_bd (z_li r35 (x37 + x39)) fun x40 =>
  z_bd (z_sb r34 x40 1) fun _ =>
  F_X11_repeat_223 a0 ih38 ih134 ih146 x_1 x_2 x_3 x_4 x_5 x_6 x_7))))
def F_X11_repeat_146 (a0 : Nat) (ih38 : Int32 → Int32 → Int32 → Int32 → Int32 → zMn Unit) (ih134 : Int32 → Int32 → Int32 → Int32 → Int32 → Int32 → zMn Unit) : Nat → Int32 × Int32 × Int32 × Int32 × Int32 × Int32 × Int32 → zMn Unit := z_fix fun ih s => B_X11_repeat_146 a0 ih38 ih134 (fun y0 y1 y2 y3 y4 y5 y6 => ih (y0, y1, y2, y3, y4, y5, y6)) s.1 s.2.1 s.2.2.1 s.2.2.2.1 s.2.2.2.2.1 s.2.2.2.2.2.1 s.2.2.2.2.2.2
def B_X11_repeat_134 (a0 : Nat) (ih38 : Int32 → Int32 → Int32 → Int32 → Int32 → zMn Unit) (ih134 : Int32 → Int32 → Int32 → Int32 → Int32 → Int32 → zMn Unit) (x_1 : Int32) (x_2 : Int32) (x_3 : Int32) (x_4 : Int32) (x_5 : Int32) (x_6 : Int32) : zMn Unit :=
  z_bd (z_gi ((some a0)) 11 16) fun x19 =>
  if x19 ≤ x_6 then (F_X11_repeat_238 a0 ih38 z_N (x_1, x_2, x_3, x_4, x_5, 0)) else
  (F_X11_repeat_146 a0 ih38 ih134 z_N (x_1, x_2, x_3, x_4, x_5, x_6, 0))
def F_X11_repeat_134 (a0 : Nat) (ih38 : Int32 → Int32 → Int32 → Int32 → Int32 → zMn Unit) : Nat → Int32 × Int32 × Int32 × Int32 × Int32 × Int32 → zMn Unit := z_fix fun ih s => B_X11_repeat_134 a0 ih38 (fun y0 y1 y2 y3 y4 y5 => ih (y0, y1, y2, y3, y4, y5)) s.1 s.2.1 s.2.2.1 s.2.2.2.1 s.2.2.2.2.1 s.2.2.2.2.2
def B_X11_repeat_108 (a0 : Nat) (ih38 : Int32 → Int32 → Int32 → Int32 → Int32 → zMn Unit) (ih108 : Int32 → Int32 → Int32 → Int32 → Int32 → Int32 → zMn Unit) (x_1 : Int32) (x_2 : Int32) (x_3 : Int32) (x_4 : Int32) (x_5 : Int32) (x_6 : Int32) : zMn Unit :=
  z_bd (z_gi ((some a0)) 11 16) fun x16 =>
  if x16 ≤ x_6 then (F_X11_repeat_134 a0 ih38 z_N (x_1, x_2, x_3, x_4, x_5, 0)) else
  (z_bd (z_ga ((some a0)) 11 26) fun r18 =>
  z_bd (z_sb r18 x_6 0) fun _ =>
  ih108 x_1 x_2 x_3 x_4 x_5 (x_6 + 1))
def F_X11_repeat_108 (a0 : Nat) (ih38 : Int32 → Int32 → Int32 → Int32 → Int32 → zMn Unit) : Nat → Int32 × Int32 × Int32 × Int32 × Int32 × Int32 → zMn Unit := z_fix fun ih s => B_X11_repeat_108 a0 ih38 (fun y0 y1 y2 y3 y4 y5 => ih (y0, y1, y2, y3, y4, y5)) s.1 s.2.1 s.2.2.1 s.2.2.2.1 s.2.2.2.2.1 s.2.2.2.2.2
def F_X11_repeat_105 (a0 : Nat) (ih38 : Int32 → Int32 → Int32 → Int32 → Int32 → zMn Unit) (x_1 : Int32) (x_2 : Int32) (x_3 : Int32) (x_4 : Int32) (x_5 : Int32) : zMn Unit :=
  F_X11_repeat_108 a0 ih38 z_N (x_1, x_2, x_3, x_4, x_5, 0)
def F_X11_repeat_98 (a0 : Nat) (ih38 : Int32 → Int32 → Int32 → Int32 → Int32 → zMn Unit) (ih48 : Int32 → Int32 → Int32 → Int32 → Int32 → Int32 → zMn Unit) (x_1 : Int32) (x_2 : Int32) (x_3 : Int32) (x_4 : Int32) (x_5 : Int32) (x_6 : Int32) (t_0 : Option Nat) (s_1 : Int32) (s_2 : Int32) : zMn Unit :=
  z_bd (z_sb t_0 s_1 s_2) fun _ =>
  ih48 x_1 x_2 x_3 x_4 x_5 (x_6 + 1)
def F_X11_repeat_93 (a0 : Nat) (ih38 : Int32 → Int32 → Int32 → Int32 → Int32 → zMn Unit) (ih48 : Int32 → Int32 → Int32 → Int32 → Int32 → Int32 → zMn Unit) (x_1 : Int32) (x_2 : Int32) (x_3 : Int32) (x_4 : Int32) (x_5 : Int32) (x_6 : Int32) (t_0 : Option Nat) (s_1 : Int32) : zMn Unit :=
  F_X11_repeat_98 a0 ih38 ih48 x_1 x_2 x_3 x_4 x_5 x_6 t_0 s_1 1
def B_X11_repeat_48 (a0 : Nat) (ih38 : Int32 → Int32 → Int32 → Int32 → Int32 → zMn Unit) (ih48 : Int32 → Int32 → Int32 → Int32 → Int32 → Int32 → zMn Unit) (x_1 : Int32) (x_2 : Int32) (x_3 : Int32) (x_4 : Int32) (x_5 : Int32) (x_6 : Int32) : zMn Unit :=
  z_bd (z_gi ((some a0)) 11 16) fun x6 =>
  if x6 ≤ x_6 then (F_X11_repeat_105 a0 ih38 x_1 x_2 x_3 x_4 x_5) else
  (if x_5 < x_3 then (F_X11_repeat_105 a0 ih38 x_1 x_2 x_3 x_4 x_5) else
  (z_bd (z_ga ((some a0)) 11 18) fun r9 =>
  z_bd (z_ga ((some a0)) 11 18) fun r10 =>
  z_bd (z_lb r10 (x_2 + x_6)) fun x11 =>
  if x11 = 0 then (z_bd (z_ga ((some a0)) 11 25) fun r13 =>
  z_bd (z_lb r13 x_6) fun x14 =>
  if x14 = 0 then (F_X11_repeat_98 a0 ih38 ih48 x_1 x_2 x_3 x_4 x_5 x_6 r9 (x_2 + x_6) 0) else
  (F_X11_repeat_93 a0 ih38 ih48 x_1 x_2 x_3 x_4 x_5 x_6 r9 (x_2 + x_6))) else
  (F_X11_repeat_93 a0 ih38 ih48 x_1 x_2 x_3 x_4 x_5 x_6 r9 (x_2 + x_6))))
def F_X11_repeat_48 (a0 : Nat) (ih38 : Int32 → Int32 → Int32 → Int32 → Int32 → zMn Unit) : Nat → Int32 × Int32 × Int32 × Int32 × Int32 × Int32 → zMn Unit := z_fix fun ih s => B_X11_repeat_48 a0 ih38 (fun y0 y1 y2 y3 y4 y5 => ih (y0, y1, y2, y3, y4, y5)) s.1 s.2.1 s.2.2.1 s.2.2.2.1 s.2.2.2.2.1 s.2.2.2.2.2
def B_X11_repeat_38 (a0 : Nat) (ih38 : Int32 → Int32 → Int32 → Int32 → Int32 → zMn Unit) (x_1 : Int32) (x_2 : Int32) (x_3 : Int32) (x_4 : Int32) (x_5 : Int32) : zMn Unit :=
  if x_4 < x_5 then (z_ret ()) else
  (F_X11_repeat_48 a0 ih38 z_N (x_1, x_2, x_3, x_4, x_5, 0))
def F_X11_repeat_38 (a0 : Nat) : Nat → Int32 × Int32 × Int32 × Int32 × Int32 → zMn Unit := z_fix fun ih s => B_X11_repeat_38 a0 (fun y0 y1 y2 y3 y4 => ih (y0, y1, y2, y3, y4)) s.1 s.2.1 s.2.2.1 s.2.2.2.1 s.2.2.2.2
def F_X11_repeat_28 (a0 : Nat) (ih3 : Int32 → Int32 → Int32 → Int32 → Int32 → zMn Unit) (x_1 : Int32) (x_2 : Int32) (x_3 : Int32) (x_4 : Int32) (x_5 : Int32) (t_0 : Option Nat) (s_1 : Int32) (s_2 : Int32) : zMn Unit :=
  z_bd (z_sb t_0 s_1 s_2) fun _ =>
  ih3 x_1 x_2 x_3 x_4 (x_5 + 1)
def B_X11_repeat_3 (a0 : Nat) (ih3 : Int32 → Int32 → Int32 → Int32 → Int32 → zMn Unit) (x_1 : Int32) (x_2 : Int32) (x_3 : Int32) (x_4 : Int32) (x_5 : Int32) : zMn Unit :=
  z_bd (z_gi ((some a0)) 11 16) fun x1 =>
  if x1 ≤ x_5 then (F_X11_repeat_38 a0 z_N (x_1, x_2, x_3, x_4, 0)) else
  (z_bd (z_ga ((some a0)) 11 25) fun r3 =>
  if x_5 = 0 then (F_X11_repeat_28 a0 ih3 x_1 x_2 x_3 x_4 x_5 r3 x_5 1) else
  (F_X11_repeat_28 a0 ih3 x_1 x_2 x_3 x_4 x_5 r3 x_5 0))
def F_X11_repeat_3 (a0 : Nat) : Nat → Int32 × Int32 × Int32 × Int32 × Int32 → zMn Unit := z_fix fun ih s => B_X11_repeat_3 a0 (fun y0 y1 y2 y3 y4 => ih (y0, y1, y2, y3, y4)) s.1 s.2.1 s.2.2.1 s.2.2.2.1 s.2.2.2.2
def F_X11_repeat (a0 : Nat) (p0 : Int32) (p1 : Int32) (p2 : Int32) (p3 : Int32) : zMn Unit :=
  F_X11_repeat_3 a0 z_N (p0, p1, p2, p3, 0)
def F_X11_row (a0 : Nat) (p0 : Int32) : zMn Int32 :=
  z_bd (z_ga ((some a0)) 11 24) fun r1 =>
  z_bd (z_li r1 p0) fun x2 =>
  z_ret (1300 * x2)
def F_X11_together_102 (a0 : Nat) (ih3 : Int32 → Int32 → Int32 → Int32 → zMn Unit) (x_1 : Int32) (x_2 : Int32) (x_3 : Int32) (x_4 : Int32) : zMn Unit :=
  ih3 x_1 x_2 x_3 (x_4 + 1)
def F_X11_together_96 (a0 : Nat) (ih3 : Int32 → Int32 → Int32 → Int32 → zMn Unit) (ih15 : Int32 → Int32 → Int32 → Int32 → Int32 → zMn Unit) (x_1 : Int32) (x_2 : Int32) (x_3 : Int32) (x_4 : Int32) (x_5 : Int32) : zMn Unit :=
  ih15 x_1 x_2 x_3 x_4 (x_5 + 1)
def B_X11_together_15 (a0 : Nat) (ih3 : Int32 → Int32 → Int32 → Int32 → zMn Unit) (ih15 : Int32 → Int32 → Int32 → Int32 → Int32 → zMn Unit) (x_1 : Int32) (x_2 : Int32) (x_3 : Int32) (x_4 : Int32) (x_5 : Int32) : zMn Unit :=
  z_bd (z_gi ((some a0)) 11 16) fun x3 =>
  if x3 ≤ x_5 then (F_X11_together_102 a0 ih3 x_1 x_2 x_3 x_4) else
  (z_bd (z_ga ((some a0)) 11 18) fun r5 =>
  z_bd (z_lb r5 (x_1 + x_4)) fun x6 =>
  if x6 = 0 then (F_X11_together_102 a0 ih3 x_1 x_2 x_3 x_4) else
  (z_bd (z_ga ((some a0)) 11 18) fun r8 =>
  z_bd (z_lb r8 (x_2 + x_5)) fun x9 =>
  if x9 = 0 then (F_X11_together_96 a0 ih3 ih15 x_1 x_2 x_3 x_4 x_5) else
  (z_bd (z_ga ((some a0)) 11 15) fun r11 =>
  z_bd (z_li r11 x_4) fun x12 =>
  z_bd (z_ga ((some a0)) 11 15) fun r13 =>
  z_bd (z_li r13 x_5) fun x14 =>
  if 9 ≤ (x12 + x14) then (F_X11_together_96 a0 ih3 ih15 x_1 x_2 x_3 x_4 x_5) else
  (z_bd (z_ga ((some a0)) 11 18) fun r16 =>
  z_bd (z_ga ((some a0)) 11 17) fun r17 =>
  z_bd (z_ga ((some a0)) 11 14) fun r18 =>
  z_bd (z_li r18 x_4) fun x19 =>
  z_bd (z_ga ((some a0)) 11 14) fun r20 =>
  z_bd (z_li r20 x_5) fun x21 =>
  z_bd (z_li r17 (x19 + x21)) fun x22 =>
  z_bd (z_sb r16 (x_3 + x22) 1) fun _ =>
  F_X11_together_96 a0 ih3 ih15 x_1 x_2 x_3 x_4 x_5))))
def F_X11_together_15 (a0 : Nat) (ih3 : Int32 → Int32 → Int32 → Int32 → zMn Unit) : Nat → Int32 × Int32 × Int32 × Int32 × Int32 → zMn Unit := z_fix fun ih s => B_X11_together_15 a0 ih3 (fun y0 y1 y2 y3 y4 => ih (y0, y1, y2, y3, y4)) s.1 s.2.1 s.2.2.1 s.2.2.2.1 s.2.2.2.2
def B_X11_together_3 (a0 : Nat) (ih3 : Int32 → Int32 → Int32 → Int32 → zMn Unit) (x_1 : Int32) (x_2 : Int32) (x_3 : Int32) (x_4 : Int32) : zMn Unit :=
  z_bd (z_gi ((some a0)) 11 16) fun x1 =>
  if x1 ≤ x_4 then (z_ret ()) else
  (F_X11_together_15 a0 ih3 z_N (x_1, x_2, x_3, x_4, 0))
def F_X11_together_3 (a0 : Nat) : Nat → Int32 × Int32 × Int32 × Int32 → zMn Unit := z_fix fun ih s => B_X11_together_3 a0 (fun y0 y1 y2 y3 => ih (y0, y1, y2, y3)) s.1 s.2.1 s.2.2.1 s.2.2.2
def F_X11_together (a0 : Nat) (p0 : Int32) (p1 : Int32) (p2 : Int32) : zMn Unit :=
  F_X11_together_3 a0 z_N (p0, p1, p2, 0)
def B_X11_unit_4 (a0 : Nat) (ih4 : Int32 → Int32 → Int32 → zMn Int32) (x_1 : Int32) (x_2 : Int32) (x_3 : Int32) : zMn Int32 :=
  z_bd (z_ga ((some a0)) 11 20) fun r1 =>
  z_bd (z_li r1 x_3) fun x2 =>
  if x2 = x_1 then (z_ret x_2) else
  (z_bd (z_ret (9 * x_2)) fun x4 =>
  ih4 x_1 x4 (x_3 + 1))
def F_X11_unit_4 (a0 : Nat) : Nat → Int32 × Int32 × Int32 → zMn Int32 := z_fix fun ih s => B_X11_unit_4 a0 (fun y0 y1 y2 => ih (y0, y1, y2)) s.1 s.2.1 s.2.2
def F_X11_unit (a0 : Nat) (p0 : Int32) : zMn Int32 :=
  F_X11_unit_4 a0 z_N (p0, 1, 0)
def F_X11_make_320 (a0 : Nat) (ih4 : Int32 → Int32 → Int32 → zMn Unit) (x_1 : Int32) (x_2 : Int32) (x_3 : Int32) : zMn Unit :=
  ih4 x_1 x_2 (x_3 + 1)
def F_X11_make_306 (a0 : Nat) (ih4 : Int32 → Int32 → Int32 → zMn Unit) (x_1 : Int32) (x_2 : Int32) (x_3 : Int32) (t_0 : Option Nat) (s_1 : Int32) (s_2 : Int32) (s_3 : Int32) (s_4 : Int32) : zMn Unit :=
  z_bd (z_rc t_0 11) fun b59 => z_bd (F_X11_repeat b59 s_1 s_2 s_3 s_4) fun _ =>
  F_X11_make_320 a0 ih4 x_1 x_2 x_3
def F_X11_make_261 (a0 : Nat) (ih4 : Int32 → Int32 → Int32 → zMn Unit) (x_1 : Int32) (x_2 : Int32) (x_3 : Int32) (x_4 : Int32) : zMn Unit :=
  z_bd (z_ga ((some a0)) 11 3) fun r46 =>
  z_bd (z_li r46 x_3) fun x47 =>
  z_bd (z_rc ((some a0)) 11) fun b49 => z_bd (F_X11_row b49 x47) fun x48 =>
  z_bd (z_ga ((some a0)) 11 4) fun r50 =>
  z_bd (z_li r50 x_3) fun x51 =>
  z_bd (F_X11_least x51) fun x52 =>
  z_bd (z_ga ((some a0)) 11 5) fun r53 =>
  z_bd (z_li r53 x_3) fun x54 =>
  if 0 ≤ x54 then (z_bd (z_ga ((some a0)) 11 5) fun r56 =>
  z_bd (z_li r56 x_3) fun x57 =>
  z_bd (F_X11_least x57) fun x58 =>
  F_X11_make_306 a0 ih4 x_1 x_2 x_3 ((some a0)) x48 x_4 x52 x58) else
  (F_X11_make_306 a0 ih4 x_1 x_2 x_3 ((some a0)) x48 x_4 x52 9)
def F_X11_make_227 (a0 : Nat) (ih4 : Int32 → Int32 → Int32 → zMn Unit) (ih162 : Int32 → Int32 → Int32 → Int32 → Int32 → zMn Unit) (x_1 : Int32) (x_2 : Int32) (x_3 : Int32) (x_4 : Int32) (x_5 : Int32) (t_0 : Option Nat) (s_1 : Int32) (s_2 : Int32) : zMn Unit :=
  z_bd (z_sb t_0 s_1 s_2) fun _ =>
  ih162 x_1 x_2 x_3 x_4 (x_5 + 1)
def F_X11_make_222 (a0 : Nat) (ih4 : Int32 → Int32 → Int32 → zMn Unit) (ih162 : Int32 → Int32 → Int32 → Int32 → Int32 → zMn Unit) (x_1 : Int32) (x_2 : Int32) (x_3 : Int32) (x_4 : Int32) (x_5 : Int32) (t_0 : Option Nat) (s_1 : Int32) : zMn Unit :=
  F_X11_make_227 a0 ih4 ih162 x_1 x_2 x_3 x_4 x_5 t_0 s_1 1
def B_X11_make_162 (a0 : Nat) (ih4 : Int32 → Int32 → Int32 → zMn Unit) (ih162 : Int32 → Int32 → Int32 → Int32 → Int32 → zMn Unit) (x_1 : Int32) (x_2 : Int32) (x_3 : Int32) (x_4 : Int32) (x_5 : Int32) : zMn Unit :=
  z_bd (z_gi ((some a0)) 11 16) fun x60 =>
  if x60 ≤ x_5 then (F_X11_make_320 a0 ih4 x_1 x_2 x_3) else
  (z_bd (z_ga ((some a0)) 11 18) fun r62 =>
  z_bd (z_ga ((some a0)) 11 18) fun r63 =>
  z_bd (z_ga ((some a0)) 11 3) fun r64 =>
  z_bd (z_li r64 x_3) fun x65 =>
  z_bd (z_rc ((some a0)) 11) fun b67 => z_bd (F_X11_row b67 x65) fun x66 =>
  z_bd (z_lb r63 (x66 + x_5)) fun x68 =>
  if x68 = 0 then (z_bd (z_ga ((some a0)) 11 18) fun r70 =>
  z_bd (z_ga ((some a0)) 11 4) fun r71 =>
  z_bd (z_li r71 x_3) fun x72 =>
  z_bd (z_rc ((some a0)) 11) fun b74 => z_bd (F_X11_row b74 x72) fun x73 =>
  z_bd (z_lb r70 (x73 + x_5)) fun x75 =>
  if x75 = 0 then (F_X11_make_227 a0 ih4 ih162 x_1 x_2 x_3 x_4 x_5 r62 (x_4 + x_5) 0) else
  (F_X11_make_222 a0 ih4 ih162 x_1 x_2 x_3 x_4 x_5 r62 (x_4 + x_5))) else
  (F_X11_make_222 a0 ih4 ih162 x_1 x_2 x_3 x_4 x_5 r62 (x_4 + x_5)))
def F_X11_make_162 (a0 : Nat) (ih4 : Int32 → Int32 → Int32 → zMn Unit) : Nat → Int32 × Int32 × Int32 × Int32 × Int32 → zMn Unit := z_fix fun ih s => B_X11_make_162 a0 ih4 (fun y0 y1 y2 y3 y4 => ih (y0, y1, y2, y3, y4)) s.1 s.2.1 s.2.2.1 s.2.2.2.1 s.2.2.2.2
def B_X11_make_41 (a0 : Nat) (ih4 : Int32 → Int32 → Int32 → zMn Unit) (ih41 : Int32 → Int32 → Int32 → Int32 → Int32 → zMn Unit) (x_1 : Int32) (x_2 : Int32) (x_3 : Int32) (x_4 : Int32) (x_5 : Int32) : zMn Unit :=
  z_bd (z_gi ((some a0)) 11 16) fun x8 =>
  if x8 ≤ x_5 then (z_bd (z_ga ((some a0)) 11 2) fun r10 =>
  z_bd (z_li r10 x_3) fun x11 =>
  if x11 = 0 then (z_bd (z_ga ((some a0)) 11 18) fun r13 =>
  z_bd (z_ga ((some a0)) 11 17) fun r14 =>
  z_bd (z_rc ((some a0)) 11) fun b16 => z_bd (F_X11_unit b16 x_3) fun x15 =>
  z_bd (z_li r14 x15) fun x17 =>
  z_bd (z_sb r13 (x_4 + x17) 1) fun _ =>
  F_X11_make_320 a0 ih4 x_1 x_2 x_3) else
  (if x11 = 1 then (z_bd (z_ga ((some a0)) 11 18) fun r19 =>
  z_bd (z_ga ((some a0)) 11 17) fun r20 =>
  z_bd (z_rc ((some a0)) 11) fun b22 => z_bd (F_X11_unit b22 x_3) fun x21 =>
  z_bd (z_li r20 x21) fun x23 =>
  z_bd (z_sb r19 (x_4 + x23) 1) fun _ =>
  F_X11_make_320 a0 ih4 x_1 x_2 x_3) else
  (if x11 = 2 then (z_bd (z_ga ((some a0)) 11 3) fun r25 =>
  z_bd (z_li r25 x_3) fun x26 =>
  z_bd (z_rc ((some a0)) 11) fun b28 => z_bd (F_X11_row b28 x26) fun x27 =>
  z_bd (z_ga ((some a0)) 11 4) fun r29 =>
  z_bd (z_li r29 x_3) fun x30 =>
  z_bd (z_rc ((some a0)) 11) fun b32 => z_bd (F_X11_row b32 x30) fun x31 =>
  z_bd (z_rc ((some a0)) 11) fun b33 => z_bd (F_X11_together b33 x27 x31 x_4) fun _ =>
  F_X11_make_320 a0 ih4 x_1 x_2 x_3) else
  (if x11 = 3 then (F_X11_make_162 a0 ih4 z_N (x_1, x_2, x_3, x_4, 0)) else
  (if x11 = 4 then (z_bd (z_ga ((some a0)) 11 5) fun r36 =>
  z_bd (z_li r36 x_3) fun x37 =>
  if x37 < 0 then (F_X11_make_261 a0 ih4 x_1 x_2 x_3 x_4) else
  (z_bd (z_ga ((some a0)) 11 5) fun r39 =>
  z_bd (z_li r39 x_3) fun x40 =>
  z_bd (z_ga ((some a0)) 11 4) fun r41 =>
  z_bd (z_li r41 x_3) fun x42 =>
  if x40 < x42 then (F_X11_make_320 a0 ih4 x_1 x_2 x_3) else
  (F_X11_make_261 a0 ih4 x_1 x_2 x_3 x_4))) else
  (z_bd (z_ga ((some a0)) 11 18) fun r44 =>
  z_bd (z_sb r44 x_4 1) fun _ =>
  F_X11_make_320 a0 ih4 x_1 x_2 x_3)))))) else
  (z_bd (z_ga ((some a0)) 11 18) fun r45 =>
  z_bd (z_sb r45 (x_4 + x_5) 0) fun _ =>
  ih41 x_1 x_2 x_3 x_4 (x_5 + 1))
def F_X11_make_41 (a0 : Nat) (ih4 : Int32 → Int32 → Int32 → zMn Unit) : Nat → Int32 × Int32 × Int32 × Int32 × Int32 → zMn Unit := z_fix fun ih s => B_X11_make_41 a0 ih4 (fun y0 y1 y2 y3 y4 => ih (y0, y1, y2, y3, y4)) s.1 s.2.1 s.2.2.1 s.2.2.2.1 s.2.2.2.2
def B_X11_make_4 (a0 : Nat) (ih4 : Int32 → Int32 → Int32 → zMn Unit) (x_1 : Int32) (x_2 : Int32) (x_3 : Int32) : zMn Unit :=
  if x_1 < x_3 then (z_ret ()) else
  (z_bd (z_ga ((some a0)) 11 19) fun r2 =>
  z_bd (z_lb r2 x_3) fun x3 =>
  if x3 = 0 then (F_X11_make_320 a0 ih4 x_1 x_2 x_3) else
  (z_bd (z_ga ((some a0)) 11 24) fun r5 =>
  z_bd (z_si r5 x_3 x_2) fun _ =>
  z_bd (z_rc ((some a0)) 11) fun b7 => z_bd (F_X11_row b7 x_3) fun x6 =>
  F_X11_make_41 a0 ih4 z_N (x_1, x_2 + 1, x_3, x6, 0)))
def F_X11_make_4 (a0 : Nat) : Nat → Int32 × Int32 × Int32 → zMn Unit := z_fix fun ih s => B_X11_make_4 a0 (fun y0 y1 y2 => ih (y0, y1, y2)) s.1 s.2.1 s.2.2
def F_X11_make (a0 : Nat) (p0 : Int32) : zMn Unit :=
  F_X11_make_4 a0 z_N (p0, 0, 0)
def B_X11_root_7 (a0 : Nat) (ih7 : Int32 → Int32 → zMn Unit) (x_1 : Int32) (x_2 : Int32) : zMn Unit :=
  z_bd (z_gi ((some a0)) 11 16) fun x2 =>
  if x2 ≤ x_2 then (z_bd (z_ga ((some a0)) 11 28) fun r4 =>
  z_bd (z_sb r4 x_1 1) fun _ =>
  z_ret ()) else
  (z_bd (z_ga ((some a0)) 11 27) fun r5 =>
  z_bd (z_ga ((some a0)) 11 18) fun r6 =>
  z_bd (z_rc ((some a0)) 11) fun b8 => z_bd (F_X11_row b8 x_1) fun x7 =>
  z_bd (z_lb r6 (x7 + x_2)) fun x9 =>
  z_bd (z_sb r5 ((1300 * x_1) + x_2) x9) fun _ =>
  ih7 x_1 (x_2 + 1))
def F_X11_root_7 (a0 : Nat) : Nat → Int32 × Int32 → zMn Unit := z_fix fun ih s => B_X11_root_7 a0 (fun y0 y1 => ih (y0, y1)) s.1 s.2
def F_X11_root (a0 : Nat) (p0 : Int32) : zMn Unit :=
  z_bd (z_rc ((some a0)) 11) fun b1 => z_bd (F_X11_make b1 p0) fun _ =>
  F_X11_root_7 a0 z_N (p0, 0)
def F_X11_weigh_191 (a0 : Nat) (ih149 : Int32 → Int64 → Int32 → zMn Int64) (x_2 : Int32) (x_5 : Int32) (u_0 : Int64) (u_1 : Int64) : zMn Int64 :=
  z_bd (z_ret (u_0 + u_1)) fun w36 =>
  ih149 x_2 w36 (x_5 + 1)
def B_X11_weigh_149 (a0 : Nat) (ih149 : Int32 → Int64 → Int32 → zMn Int64) (x_2 : Int32) (w_3 : Int64) (x_5 : Int32) : zMn Int64 :=
  z_bd (z_gi ((some a0)) 11 16) fun x27 =>
  if x27 ≤ x_5 then (z_ret w_3) else
  (z_bd (z_ga ((some a0)) 11 27) fun r29 =>
  z_bd (z_ga ((some a0)) 11 8) fun r30 =>
  z_bd (z_li r30 x_2) fun x31 =>
  z_bd (z_lb r29 ((1300 * x31) + x_5)) fun x32 =>
  if x32 = 0 then (F_X11_weigh_191 a0 ih149 x_2 x_5 w_3 0) else
  (z_bd (z_ga ((some a0)) 11 29) fun r34 =>
  z_bd (z_ll r34 x_5) fun w35 =>
  F_X11_weigh_191 a0 ih149 x_2 x_5 w_3 w35))
def F_X11_weigh_149 (a0 : Nat) : Nat → Int32 × Int64 × Int32 → zMn Int64 := z_fix fun ih s => B_X11_weigh_149 a0 (fun y0 y1 y2 => ih (y0, y1, y2)) s.1 s.2.1 s.2.2
def F_X11_weigh_138 (a0 : Nat) (ih67 : Int32 → Int32 → Int32 → zMn Int64) (x_1 : Int32) (x_2 : Int32) (x_3 : Int32) : zMn Int64 :=
  ih67 x_1 x_2 (x_3 + 1)
def F_X11_weigh_109 (a0 : Nat) (ih67 : Int32 → Int32 → Int32 → zMn Int64) (x_1 : Int32) (x_2 : Int32) (x_3 : Int32) (x_4 : Int32) (t_0 : Option Nat) (s_1 : Int32) (s_2 : Int32) : zMn Int64 :=
  z_bd (z_li t_0 (s_1 + s_2)) fun x21 =>
  if x21 = x_1 then (z_bd (z_rc ((some a0)) 11) fun b24 => z_bd (F_X11_concerns b24 x_2 (x_3 / 2) x_4) fun x23 =>
  if x23 = 0 then (F_X11_weigh_138 a0 ih67 x_1 x_2 x_3) else
  (z_bd (z_rc ((some a0)) 11) fun b26 => z_bd (F_X11_giveOut b26 x_2 (x_3 / 2) x_4) fun _ =>
  F_X11_weigh_138 a0 ih67 x_1 x_2 x_3)) else
  (F_X11_weigh_138 a0 ih67 x_1 x_2 x_3)
def F_X11_weigh_88 (a0 : Nat) (ih67 : Int32 → Int32 → Int32 → zMn Int64) (x_1 : Int32) (x_2 : Int32) (x_3 : Int32) (s_0 : Int32) : zMn Int64 :=
  z_bd (z_ga ((some a0)) 11 0) fun r19 =>
  if s_0 = 0 then (F_X11_weigh_109 a0 ih67 x_1 x_2 x_3 s_0 r19 (3 * (x_3 / 2)) 2) else
  (F_X11_weigh_109 a0 ih67 x_1 x_2 x_3 s_0 r19 (3 * (x_3 / 2)) 0)
def B_X11_weigh_67 (a0 : Nat) (ih67 : Int32 → Int32 → Int32 → zMn Int64) (x_1 : Int32) (x_2 : Int32) (x_3 : Int32) : zMn Int64 :=
  z_bd (z_gi ((some a0)) 11 1) fun x16 =>
  if (2 * x16) ≤ x_3 then (F_X11_weigh_149 a0 z_N (x_2, 0, 0)) else
  (if (x_3 - x_3 / 2 * 2) = 0 then (F_X11_weigh_88 a0 ih67 x_1 x_2 x_3 1) else
  (F_X11_weigh_88 a0 ih67 x_1 x_2 x_3 0))
def F_X11_weigh_67 (a0 : Nat) : Nat → Int32 × Int32 × Int32 → zMn Int64 := z_fix fun ih s => B_X11_weigh_67 a0 (fun y0 y1 y2 => ih (y0, y1, y2)) s.1 s.2.1 s.2.2
def F_X11_weigh_58 (a0 : Nat) (ih36 : Int32 → Int32 → Int32 → zMn Int64) (x_1 : Int32) (x_2 : Int32) (x_3 : Int32) (t_0 : Option Nat) (s_1 : Int32) (u_2 : Int64) : zMn Int64 :=
  z_bd (z_slo t_0 s_1 u_2) fun _ =>
  ih36 x_1 x_2 (x_3 + 1)
def B_X11_weigh_36 (a0 : Nat) (ih36 : Int32 → Int32 → Int32 → zMn Int64) (x_1 : Int32) (x_2 : Int32) (x_3 : Int32) : zMn Int64 :=
  z_bd (z_gi ((some a0)) 11 16) fun x12 =>
  if x12 ≤ x_3 then (F_X11_weigh_67 a0 z_N (x_1, x_2, 0)) else
  (z_bd (z_ga ((some a0)) 11 29) fun r14 =>
  if x_3 = 0 then (F_X11_weigh_58 a0 ih36 x_1 x_2 x_3 r14 x_3 1) else
  (F_X11_weigh_58 a0 ih36 x_1 x_2 x_3 r14 x_3 0))
def F_X11_weigh_36 (a0 : Nat) : Nat → Int32 × Int32 × Int32 → zMn Int64 := z_fix fun ih s => B_X11_weigh_36 a0 (fun y0 y1 y2 => ih (y0, y1, y2)) s.1 s.2.1 s.2.2
def F_X11_weigh_34 (a0 : Nat) (x_1 : Int32) (x_2 : Int32) : zMn Int64 :=
  F_X11_weigh_36 a0 z_N (x_1, x_2, 0)
def F_X11_weigh (a0 : Nat) (p0 : Int32) (p1 : Int32) : zMn Int64 :=
  z_bd (z_ga ((some a0)) 11 8) fun r1 =>
  z_bd (z_li r1 p1) fun x2 =>
  z_bd (z_rc ((some a0)) 11) fun b3 => z_bd (F_X11_findPlaces b3 x2) fun _ =>
  z_bd (z_ga ((some a0)) 11 28) fun r4 =>
  z_bd (z_ga ((some a0)) 11 8) fun r5 =>
  z_bd (z_li r5 p1) fun x6 =>
  z_bd (z_lb r4 x6) fun x7 =>
  if x7 = 0 then (z_bd (z_ga ((some a0)) 11 8) fun r9 =>
  z_bd (z_li r9 p1) fun x10 =>
  z_bd (z_rc ((some a0)) 11) fun b11 => z_bd (F_X11_root b11 x10) fun _ =>
  F_X11_weigh_34 a0 p0 p1) else
  (F_X11_weigh_34 a0 p0 p1)
def F_X11_holds_176 (a0 : Nat) (s_0 : Int32) : zMn Int32 :=
  z_rb s_0
def F_X11_holds_161 (a0 : Nat) (s_0 : Int32) : zMn Int32 :=
  z_rb s_0
def F_X11_holds_142 (a0 : Nat) (s_0 : Int32) : zMn Int32 :=
  z_rb s_0
def F_X11_holds_137 (a0 : Nat)  : zMn Int32 :=
  F_X11_holds_142 a0 1
def F_X11_holds_103 (a0 : Nat) (s_0 : Int32) : zMn Int32 :=
  z_rb s_0
def F_X11_holds_102 (a0 : Nat)  : zMn Int32 :=
  F_X11_holds_103 a0 0
def F_X11_holds_64 (a0 : Nat) (s_0 : Int32) : zMn Int32 :=
  z_rb s_0
def F_X11_holds (a0 : Nat) (p0 : Int32) (p1 : Int32) : zMn Int32 :=
  z_bd (z_ga ((some a0)) 11 8) fun r1 =>
  z_bd (z_li r1 p1) fun x2 =>
  z_bd (z_ga ((some a0)) 11 7) fun r3 =>
  z_bd (z_li r3 p1) fun x4 =>
  if x4 = 0 then (z_bd (z_rc ((some a0)) 11) fun b7 => z_bd (F_X11_weigh b7 p0 p1) fun w6 =>
  if (lg_cmp w6 0) ≤ 0 then (F_X11_holds_64 a0 0) else
  (F_X11_holds_64 a0 1)) else
  (if x4 = 1 then (z_bd (z_ga ((some a0)) 11 11) fun r10 =>
  z_bd (z_li r10 x2) fun x11 =>
  if ((x11 >>> (p0 &&& 31)) &&& 1) = 1 then (z_bd (z_ga ((some a0)) 11 11) fun r13 =>
  z_bd (z_ga ((some a0)) 11 9) fun r14 =>
  z_bd (z_li r14 p1) fun x15 =>
  z_bd (z_li r13 x15) fun x16 =>
  if ((x16 >>> (p0 &&& 31)) &&& 1) = 1 then (F_X11_holds_103 a0 1) else
  (F_X11_holds_102 a0)) else
  (F_X11_holds_102 a0)) else
  (if x4 = 2 then (z_bd (z_ga ((some a0)) 11 11) fun r19 =>
  z_bd (z_li r19 x2) fun x20 =>
  if ((x20 >>> (p0 &&& 31)) &&& 1) = 1 then (F_X11_holds_137 a0) else
  (z_bd (z_ga ((some a0)) 11 11) fun r22 =>
  z_bd (z_ga ((some a0)) 11 9) fun r23 =>
  z_bd (z_li r23 p1) fun x24 =>
  z_bd (z_li r22 x24) fun x25 =>
  if ((x25 >>> (p0 &&& 31)) &&& 1) = 1 then (F_X11_holds_137 a0) else
  (F_X11_holds_142 a0 0))) else
  (if x4 = 3 then (z_bd (z_ga ((some a0)) 11 11) fun r28 =>
  z_bd (z_li r28 x2) fun x29 =>
  if ((x29 >>> (p0 &&& 31)) &&& 1) = 0 then (F_X11_holds_161 a0 1) else
  (F_X11_holds_161 a0 0)) else
  (if x4 = 4 then (if ((x2 >>> (p0 &&& 31)) &&& 1) = 1 then (F_X11_holds_176 a0 1) else
  (F_X11_holds_176 a0 0)) else
  (z_rb 0)))))
def F_X11_lose_81 (a0 : Nat) (ih4 : Int32 → Int32 → Int32 → zMn Int32) (x_1 : Int32) (x_2 : Int32) (x_3 : Int32) : zMn Int32 :=
  ih4 x_1 x_2 (x_3 + 1)
def F_X11_lose_75 (a0 : Nat) (ih4 : Int32 → Int32 → Int32 → zMn Int32) (ih24 : Int32 → Int32 → Int32 → Int32 → zMn Int32) (x_1 : Int32) (x_2 : Int32) (x_3 : Int32) (x_4 : Int32) : zMn Int32 :=
  ih24 x_1 x_2 x_3 (x_4 + 1)
def B_X11_lose_24 (a0 : Nat) (ih4 : Int32 → Int32 → Int32 → zMn Int32) (ih24 : Int32 → Int32 → Int32 → Int32 → zMn Int32) (x_1 : Int32) (x_2 : Int32) (x_3 : Int32) (x_4 : Int32) : zMn Int32 :=
  if 16 ≤ x_4 then (F_X11_lose_81 a0 ih4 x_1 x_2 x_3) else
  (z_bd (z_ga ((some a0)) 11 11) fun r4 =>
  z_bd (z_li r4 x_3) fun x5 =>
  if ((x5 >>> (x_4 &&& 31)) &&& 1) = 0 then (F_X11_lose_75 a0 ih4 ih24 x_1 x_2 x_3 x_4) else
  (z_bd (z_rc ((some a0)) 11) fun b8 => z_bd (F_X11_holds b8 x_4 x_3) fun x7 =>
  if x7 = 0 then (z_bd (z_ga ((some a0)) 11 11) fun r10 =>
  z_bd (z_li r10 x_3) fun x11 =>
  z_bd (z_si r10 x_3 (x11 &&& (((1 : Int32) <<< (x_4 &&& 31)) ^^^ ((-1))))) fun _ =>
  F_X11_lose_75 a0 ih4 ih24 x_1 1 x_3 x_4) else
  (F_X11_lose_75 a0 ih4 ih24 x_1 x_2 x_3 x_4)))
def F_X11_lose_24 (a0 : Nat) (ih4 : Int32 → Int32 → Int32 → zMn Int32) : Nat → Int32 × Int32 × Int32 × Int32 → zMn Int32 := z_fix fun ih s => B_X11_lose_24 a0 ih4 (fun y0 y1 y2 y3 => ih (y0, y1, y2, y3)) s.1 s.2.1 s.2.2.1 s.2.2.2
def B_X11_lose_4 (a0 : Nat) (ih4 : Int32 → Int32 → Int32 → zMn Int32) (x_1 : Int32) (x_2 : Int32) (x_3 : Int32) : zMn Int32 :=
  if 16 ≤ x_3 then (z_rb x_2) else
  (if ((x_1 >>> (x_3 &&& 31)) &&& 1) = 0 then (F_X11_lose_81 a0 ih4 x_1 x_2 x_3) else
  (F_X11_lose_24 a0 ih4 z_N (x_1, x_2, x_3, 0)))
def F_X11_lose_4 (a0 : Nat) : Nat → Int32 × Int32 × Int32 → zMn Int32 := z_fix fun ih s => B_X11_lose_4 a0 (fun y0 y1 y2 => ih (y0, y1, y2)) s.1 s.2.1 s.2.2
def F_X11_lose (a0 : Nat) (p0 : Int32) : zMn Int32 :=
  F_X11_lose_4 a0 z_N (p0, 0, 0)
def B_X11_reckon_149 (a0 : Nat) (ih27 : Int32 → zMn Unit) (ih149 : Int32 → Int32 → Int32 → zMn Unit) (x_1 : Int32) (x_3 : Int32) (x_4 : Int32) : zMn Unit :=
  if x_4 = 0 then (z_bd (z_ret (x_1 ||| x_3)) fun x25 =>
  ih27 x25) else
  (z_bd (z_rc ((some a0)) 11) fun b27 => z_bd (F_X11_lose b27 x_3) fun x26 =>
  ih149 x_1 x_3 x26)
def F_X11_reckon_149 (a0 : Nat) (ih27 : Int32 → zMn Unit) : Nat → Int32 × Int32 × Int32 → zMn Unit := z_fix fun ih s => B_X11_reckon_149 a0 ih27 (fun y0 y1 y2 => ih (y0, y1, y2)) s.1 s.2.1 s.2.2
def F_X11_reckon_139 (a0 : Nat) (ih27 : Int32 → zMn Unit) (ih104 : Int32 → Int32 → Int32 → zMn Unit) (x_1 : Int32) (x_3 : Int32) (x_4 : Int32) (t_0 : Option Nat) (s_1 : Int32) (s_2 : Int32) : zMn Unit :=
  z_bd (z_si t_0 s_1 s_2) fun _ =>
  ih104 x_1 x_3 (x_4 + 1)
def B_X11_reckon_104 (a0 : Nat) (ih27 : Int32 → zMn Unit) (ih104 : Int32 → Int32 → Int32 → zMn Unit) (x_1 : Int32) (x_3 : Int32) (x_4 : Int32) : zMn Unit :=
  if 16 ≤ x_4 then (F_X11_reckon_149 a0 ih27 z_N (x_1, x_3, 1)) else
  (z_bd (z_ga ((some a0)) 11 11) fun r20 =>
  if ((x_3 >>> (x_4 &&& 31)) &&& 1) = 1 then (F_X11_reckon_139 a0 ih27 ih104 x_1 x_3 x_4 r20 x_4 65535) else
  (z_bd (z_ga ((some a0)) 11 11) fun r22 =>
  z_bd (z_li r22 x_4) fun x23 =>
  F_X11_reckon_139 a0 ih27 ih104 x_1 x_3 x_4 r20 x_4 x23))
def F_X11_reckon_104 (a0 : Nat) (ih27 : Int32 → zMn Unit) : Nat → Int32 × Int32 × Int32 → zMn Unit := z_fix fun ih s => B_X11_reckon_104 a0 ih27 (fun y0 y1 y2 => ih (y0, y1, y2)) s.1 s.2.1 s.2.2
def F_X11_reckon_93 (a0 : Nat) (ih27 : Int32 → zMn Unit) (ih57 : Int32 → Int32 → Int32 → Int32 → zMn Unit) (x_1 : Int32) (x_2 : Int32) (x_4 : Int32) (s_0 : Int32) (s_1 : Int32) : zMn Unit :=
  z_bd (z_ret (s_0 ||| s_1)) fun x18 =>
  ih57 x_1 x_2 x18 (x_4 + 1)
def F_X11_reckon_92 (a0 : Nat) (ih27 : Int32 → zMn Unit) (ih57 : Int32 → Int32 → Int32 → Int32 → zMn Unit) (x_1 : Int32) (x_2 : Int32) (x_4 : Int32) (s_0 : Int32) : zMn Unit :=
  F_X11_reckon_93 a0 ih27 ih57 x_1 x_2 x_4 s_0 0
def B_X11_reckon_57 (a0 : Nat) (ih27 : Int32 → zMn Unit) (ih57 : Int32 → Int32 → Int32 → Int32 → zMn Unit) (x_1 : Int32) (x_2 : Int32) (x_3 : Int32) (x_4 : Int32) : zMn Unit :=
  if 16 ≤ x_4 then (F_X11_reckon_104 a0 ih27 z_N (x_1, x_3, 0)) else
  (z_bd (z_rc ((some a0)) 11) fun b13 => z_bd (F_X11_comesTo b13 x_2 x_4) fun x12 =>
  if x12 = 0 then (F_X11_reckon_92 a0 ih27 ih57 x_1 x_2 x_4 x_3) else
  (z_bd (z_rc ((some a0)) 11) fun b16 => z_bd (F_X11_comesTo b16 x_4 x_2) fun x15 =>
  if x15 = 0 then (F_X11_reckon_92 a0 ih27 ih57 x_1 x_2 x_4 x_3) else
  (F_X11_reckon_93 a0 ih27 ih57 x_1 x_2 x_4 x_3 ((1 : Int32) <<< (x_4 &&& 31)))))
def F_X11_reckon_57 (a0 : Nat) (ih27 : Int32 → zMn Unit) : Nat → Int32 × Int32 × Int32 × Int32 → zMn Unit := z_fix fun ih s => B_X11_reckon_57 a0 ih27 (fun y0 y1 y2 y3 => ih (y0, y1, y2, y3)) s.1 s.2.1 s.2.2.1 s.2.2.2
def B_X11_reckon_35 (a0 : Nat) (ih27 : Int32 → zMn Unit) (ih35 : Int32 → Int32 → zMn Unit) (x_1 : Int32) (x_2 : Int32) : zMn Unit :=
  z_bd (z_rc ((some a0)) 11) fun b8 => z_bd (F_X11_isReady b8 x_2 x_1) fun x7 =>
  if x7 = 0 then (ih35 x_1 (x_2 + 1)) else
  (z_bd (z_ret ((1 : Int32) <<< (x_2 &&& 31))) fun x10 =>
  F_X11_reckon_57 a0 ih27 z_N (x_1, x_2, x10, 0))
def F_X11_reckon_35 (a0 : Nat) (ih27 : Int32 → zMn Unit) : Nat → Int32 × Int32 → zMn Unit := z_fix fun ih s => B_X11_reckon_35 a0 ih27 (fun y0 y1 => ih (y0, y1)) s.1 s.2
def B_X11_reckon_27 (a0 : Nat) (ih27 : Int32 → zMn Unit) (x_1 : Int32) : zMn Unit :=
  if x_1 = 65535 then (z_ret ()) else
  (F_X11_reckon_35 a0 ih27 z_N (x_1, 0))
def F_X11_reckon_27 (a0 : Nat) : Nat → Int32 → zMn Unit := z_fix fun ih s => B_X11_reckon_27 a0 (fun y0 => ih (y0)) s
def F_X11_reckon (a0 : Nat) : zMn Unit :=
  z_bd (z_gi ((some a0)) 11 12) fun x1 =>
  if x1 = 0 then (z_bd (z_pf ((some a0)) 11 12 (.int 1)) fun _ =>
  z_bd (z_rc ((some a0)) 11) fun b3 => z_bd (F_X11_findRings b3) fun _ =>
  z_bd (z_gi ((some a0)) 11 13) fun x4 =>
  if x4 < 0 then (F_X11_reckon_27 a0 z_N (0)) else
  (z_ret ())) else
  (z_ret ())
def F_X11_has_47 (a0 : Nat) (s_0 : Int32) : zMn Int32 :=
  z_ret s_0
def F_X11_has_19 (a0 : Nat)  : zMn Int32 :=
  z_ret ((-1))
def F_X11_has (a0 : Nat) (p0 : Int32) (p1 : Int32) : zMn Int32 :=
  z_bd (z_pf ((some a0)) 11 22 (.int 0)) fun _ =>
  z_bd (F_X11_isNode p0) fun x1 =>
  if x1 = 0 then (F_X11_has_19 a0) else
  (z_bd (F_X11_isShape p1) fun x3 =>
  if x3 = 0 then (F_X11_has_19 a0) else
  (z_bd (z_rc ((some a0)) 11) fun b5 => z_bd (F_X11_reckon b5) fun _ =>
  z_bd (z_gi ((some a0)) 11 13) fun x6 =>
  if x6 < 0 then (z_bd (z_ga ((some a0)) 11 11) fun r8 =>
  z_bd (z_li r8 p1) fun x9 =>
  F_X11_has_47 a0 ((x9 >>> (p0 &&& 31)) &&& 1)) else
  (F_X11_has_47 a0 ((-3)))))
def F_X11_init_318 (a0 : Nat) (ih233 : Int32 → zMn Unit) (x_1 : Int32) : zMn Unit :=
  ih233 (x_1 + 1)
def B_X11_init_243 (a0 : Nat) (ih233 : Int32 → zMn Unit) (ih243 : Int32 → Int32 → Int32 → zMn Unit) (x_1 : Int32) (x_2 : Int32) (x_3 : Int32) : zMn Unit :=
  if x_3 ≤ 0 then (z_bd (z_ga ((some a0)) 11 17) fun r30 =>
  z_bd (z_si r30 x_1 ((-1))) fun _ =>
  if x_2 ≤ 8 then (z_bd (z_ga ((some a0)) 11 17) fun r32 =>
  z_bd (z_gi ((some a0)) 11 16) fun x33 =>
  z_bd (z_si r32 x_1 x33) fun _ =>
  z_bd (z_ga ((some a0)) 11 14) fun r34 =>
  z_bd (z_gi ((some a0)) 11 16) fun x35 =>
  z_bd (z_si r34 x35 x_1) fun _ =>
  z_bd (z_ga ((some a0)) 11 15) fun r36 =>
  z_bd (z_gi ((some a0)) 11 16) fun x37 =>
  z_bd (z_si r36 x37 x_2) fun _ =>
  z_bd (z_gi ((some a0)) 11 16) fun x38 =>
  z_bd (z_pf ((some a0)) 11 16 (.int (x38 + 1))) fun _ =>
  F_X11_init_318 a0 ih233 x_1) else
  (F_X11_init_318 a0 ih233 x_1)) else
  (z_bd (z_ret (x_2 + (x_3 - x_3 / 9 * 9))) fun x39 =>
  z_bd (z_ret (x_3 / 9)) fun x40 =>
  ih243 x_1 x39 x40)
def F_X11_init_243 (a0 : Nat) (ih233 : Int32 → zMn Unit) : Nat → Int32 × Int32 × Int32 → zMn Unit := z_fix fun ih s => B_X11_init_243 a0 ih233 (fun y0 y1 y2 => ih (y0, y1, y2)) s.1 s.2.1 s.2.2
def B_X11_init_233 (a0 : Nat) (ih233 : Int32 → zMn Unit) (x_1 : Int32) : zMn Unit :=
  if 59049 ≤ x_1 then (z_ret ()) else
  (F_X11_init_243 a0 ih233 z_N (x_1, 0, x_1))
def F_X11_init_233 (a0 : Nat) : Nat → Int32 → zMn Unit := z_fix fun ih s => B_X11_init_233 a0 (fun y0 => ih (y0)) s
def B_X11_init_212 (a0 : Nat) (ih212 : Int32 → zMn Unit) (x_1 : Int32) : zMn Unit :=
  if 16 ≤ x_1 then (F_X11_init_233 a0 z_N (0)) else
  (z_bd (z_ga ((some a0)) 11 7) fun r27 =>
  z_bd (z_si r27 x_1 ((-1))) fun _ =>
  ih212 (x_1 + 1))
def F_X11_init_212 (a0 : Nat) : Nat → Int32 → zMn Unit := z_fix fun ih s => B_X11_init_212 a0 (fun y0 => ih (y0)) s
def F_X11_init (a0 : Nat) : zMn Unit :=
  z_bd (z_nwa 0 (.int 0) 180) fun a1 =>
  z_bd (z_pf ((some a0)) 11 0 (va_rf ((some a1)))) fun _ =>
  z_bd (z_nwa 0 (.int 0) 60) fun a2 =>
  z_bd (z_pf ((some a0)) 11 2 (va_rf ((some a2)))) fun _ =>
  z_bd (z_nwa 0 (.int 0) 60) fun a3 =>
  z_bd (z_pf ((some a0)) 11 3 (va_rf ((some a3)))) fun _ =>
  z_bd (z_nwa 0 (.int 0) 60) fun a4 =>
  z_bd (z_pf ((some a0)) 11 4 (va_rf ((some a4)))) fun _ =>
  z_bd (z_nwa 0 (.int 0) 60) fun a5 =>
  z_bd (z_pf ((some a0)) 11 5 (va_rf ((some a5)))) fun _ =>
  z_bd (z_nwa 0 (.int 0) 16) fun a6 =>
  z_bd (z_pf ((some a0)) 11 7 (va_rf ((some a6)))) fun _ =>
  z_bd (z_nwa 0 (.int 0) 16) fun a7 =>
  z_bd (z_pf ((some a0)) 11 8 (va_rf ((some a7)))) fun _ =>
  z_bd (z_nwa 0 (.int 0) 16) fun a8 =>
  z_bd (z_pf ((some a0)) 11 9 (va_rf ((some a8)))) fun _ =>
  z_bd (z_nwa 0 (.int 0) 16) fun a9 =>
  z_bd (z_pf ((some a0)) 11 10 (va_rf ((some a9)))) fun _ =>
  z_bd (z_nwa 0 (.int 0) 16) fun a10 =>
  z_bd (z_pf ((some a0)) 11 11 (va_rf ((some a10)))) fun _ =>
  z_bd (z_nwa 0 (.int 0) 1300) fun a11 =>
  z_bd (z_pf ((some a0)) 11 14 (va_rf ((some a11)))) fun _ =>
  z_bd (z_nwa 0 (.int 0) 1300) fun a12 =>
  z_bd (z_pf ((some a0)) 11 15 (va_rf ((some a12)))) fun _ =>
  z_bd (z_nwa 0 (.int 0) 59049) fun a13 =>
  z_bd (z_pf ((some a0)) 11 17 (va_rf ((some a13)))) fun _ =>
  z_bd (z_nwa 4 (.int 0) 80000) fun a14 =>
  z_bd (z_pf ((some a0)) 11 18 (va_rf ((some a14)))) fun _ =>
  z_bd (z_nwa 4 (.int 0) 60) fun a15 =>
  z_bd (z_pf ((some a0)) 11 19 (va_rf ((some a15)))) fun _ =>
  z_bd (z_nwa 0 (.int 0) 60) fun a16 =>
  z_bd (z_pf ((some a0)) 11 20 (va_rf ((some a16)))) fun _ =>
  z_bd (z_nwa 0 (.int 0) 4) fun a17 =>
  z_bd (z_pf ((some a0)) 11 23 (va_rf ((some a17)))) fun _ =>
  z_bd (z_nwa 0 (.int 0) 60) fun a18 =>
  z_bd (z_pf ((some a0)) 11 24 (va_rf ((some a18)))) fun _ =>
  z_bd (z_nwa 4 (.int 0) 1300) fun a19 =>
  z_bd (z_pf ((some a0)) 11 25 (va_rf ((some a19)))) fun _ =>
  z_bd (z_nwa 4 (.int 0) 1300) fun a20 =>
  z_bd (z_pf ((some a0)) 11 26 (va_rf ((some a20)))) fun _ =>
  z_bd (z_nwa 4 (.int 0) 78000) fun a21 =>
  z_bd (z_pf ((some a0)) 11 27 (va_rf ((some a21)))) fun _ =>
  z_bd (z_nwa 4 (.int 0) 60) fun a22 =>
  z_bd (z_pf ((some a0)) 11 28 (va_rf ((some a22)))) fun _ =>
  z_bd (z_nwa 3 (.long 0) 1300) fun a23 =>
  z_bd (z_pf ((some a0)) 11 29 (va_rf ((some a23)))) fun _ =>
  z_bd (z_nwa 3 (.long 0) 1300) fun a24 =>
  z_bd (z_pf ((some a0)) 11 30 (va_rf ((some a24)))) fun _ =>
  z_bd (z_nwa 0 (.int 0) 16) fun a25 =>
  z_bd (z_pf ((some a0)) 11 31 (va_rf ((some a25)))) fun _ =>
  F_X11_init_212 a0 z_N (0)
def F_X11_isBare_21 (a0 : Nat) (s_0 : Int32) : zMn Int32 :=
  z_rb s_0
def F_X11_isBare_20 (a0 : Nat)  : zMn Int32 :=
  F_X11_isBare_21 a0 0
def F_X11_isBare (a0 : Nat) (p0 : Int32) : zMn Int32 :=
  z_bd (F_X11_isShape p0) fun x1 =>
  if x1 = 0 then (F_X11_isBare_20 a0) else
  (z_bd (z_ga ((some a0)) 11 7) fun r3 =>
  z_bd (z_li r3 p0) fun x4 =>
  if x4 = 0 then (F_X11_isBare_21 a0 1) else
  (F_X11_isBare_20 a0))
def B_X11_isLoose_15 (a0 : Nat) (ih15 : Int32 → Int32 → Int32 → zMn Int32) (x_2 : Int32) (x_3 : Int32) (x_4 : Int32) : zMn Int32 :=
  z_bd (z_gi ((some a0)) 11 21) fun x4 =>
  if x4 ≤ x_4 then (z_rb 1) else
  (z_bd (z_ga ((some a0)) 11 20) fun r6 =>
  z_bd (z_li r6 x_4) fun x7 =>
  z_bd (z_rc ((some a0)) 11) fun b9 => z_bd (F_X11_takes b9 x7 x_2 x_3) fun x8 =>
  if x8 = 0 then (ih15 x_2 x_3 (x_4 + 1)) else
  (z_rb 0))
def F_X11_isLoose_15 (a0 : Nat) : Nat → Int32 × Int32 × Int32 → zMn Int32 := z_fix fun ih s => B_X11_isLoose_15 a0 (fun y0 y1 y2 => ih (y0, y1, y2)) s.1 s.2.1 s.2.2
def F_X11_isLoose (a0 : Nat) (p0 : Int32) (p1 : Int32) (p2 : Int32) : zMn Int32 :=
  z_bd (z_rc ((some a0)) 11) fun b2 => z_bd (F_X11_mayBeLeft b2 p0 p1 p2) fun x1 =>
  if x1 = 0 then (F_X11_isLoose_15 a0 z_N (p1, p2, 0)) else
  (z_rb 0)
def F_X11_loose_138 (a0 : Nat) (ih51 : Int32 → Int32 → Int32 → Int32 → zMn Int32) (x_1 : Int32) (x_2 : Int32) (x_3 : Int32) (x_4 : Int32) : zMn Int32 :=
  ih51 x_1 x_2 x_3 (x_4 + 1)
def F_X11_loose_136 (a0 : Nat) (ih51 : Int32 → Int32 → Int32 → Int32 → zMn Int32) (x_1 : Int32) (x_2 : Int32) (x_4 : Int32) (s_0 : Int32) (s_1 : Int32) : zMn Int32 :=
  z_bd (z_ret (s_0 + s_1)) fun x25 =>
  F_X11_loose_138 a0 ih51 x_1 x_2 x25 x_4
def F_X11_loose_96 (a0 : Nat) (ih51 : Int32 → Int32 → Int32 → Int32 → zMn Int32) (x_1 : Int32) (x_2 : Int32) (x_3 : Int32) (x_4 : Int32) (x_5 : Int32) (t_0 : Option Nat) (s_1 : Int32) (s_2 : Int32) : zMn Int32 :=
  z_bd (z_li t_0 (s_1 + s_2)) fun x17 =>
  if x17 = x_1 then (z_bd (z_rc ((some a0)) 11) fun b20 => z_bd (F_X11_concerns b20 x_2 (x_4 / 2) x_5) fun x19 =>
  if x19 = 0 then (F_X11_loose_138 a0 ih51 x_1 x_2 x_3 x_4) else
  (z_bd (z_rc ((some a0)) 11) fun b23 => z_bd (F_X11_isLoose b23 x_2 (x_4 / 2) x_5) fun x22 =>
  if x22 = 0 then (F_X11_loose_136 a0 ih51 x_1 x_2 x_4 x_3 0) else
  (F_X11_loose_136 a0 ih51 x_1 x_2 x_4 x_3 1))) else
  (F_X11_loose_138 a0 ih51 x_1 x_2 x_3 x_4)
def F_X11_loose_74 (a0 : Nat) (ih51 : Int32 → Int32 → Int32 → Int32 → zMn Int32) (x_1 : Int32) (x_2 : Int32) (x_3 : Int32) (x_4 : Int32) (s_0 : Int32) : zMn Int32 :=
  z_bd (z_ga ((some a0)) 11 0) fun r15 =>
  if s_0 = 0 then (F_X11_loose_96 a0 ih51 x_1 x_2 x_3 x_4 s_0 r15 (3 * (x_4 / 2)) 2) else
  (F_X11_loose_96 a0 ih51 x_1 x_2 x_3 x_4 s_0 r15 (3 * (x_4 / 2)) 0)
def B_X11_loose_51 (a0 : Nat) (ih51 : Int32 → Int32 → Int32 → Int32 → zMn Int32) (x_1 : Int32) (x_2 : Int32) (x_3 : Int32) (x_4 : Int32) : zMn Int32 :=
  z_bd (z_gi ((some a0)) 11 1) fun x12 =>
  if (2 * x12) ≤ x_4 then (z_ret x_3) else
  (if (x_4 - x_4 / 2 * 2) = 0 then (F_X11_loose_74 a0 ih51 x_1 x_2 x_3 x_4 1) else
  (F_X11_loose_74 a0 ih51 x_1 x_2 x_3 x_4 0))
def F_X11_loose_51 (a0 : Nat) : Nat → Int32 × Int32 × Int32 × Int32 → zMn Int32 := z_fix fun ih s => B_X11_loose_51 a0 (fun y0 y1 y2 y3 => ih (y0, y1, y2, y3)) s.1 s.2.1 s.2.2.1 s.2.2.2
def F_X11_loose_20 (a0 : Nat)  : zMn Int32 :=
  z_ret ((-1))
def F_X11_loose (a0 : Nat) (p0 : Int32) (p1 : Int32) : zMn Int32 :=
  z_bd (z_pf ((some a0)) 11 22 (.int 0)) fun _ =>
  z_bd (F_X11_isNode p0) fun x1 =>
  if x1 = 0 then (F_X11_loose_20 a0) else
  (z_bd (z_rc ((some a0)) 11) fun b4 => z_bd (F_X11_isBare b4 p1) fun x3 =>
  if x3 = 0 then (F_X11_loose_20 a0) else
  (z_bd (z_rc ((some a0)) 11) fun b6 => z_bd (F_X11_reckon b6) fun _ =>
  z_bd (z_gi ((some a0)) 11 13) fun x7 =>
  if x7 < 0 then (z_bd (z_ga ((some a0)) 11 8) fun r9 =>
  z_bd (z_li r9 p1) fun x10 =>
  z_bd (z_rc ((some a0)) 11) fun b11 => z_bd (F_X11_findPlaces b11 x10) fun _ =>
  F_X11_loose_51 a0 z_N (p0, p1, 0, 0)) else
  (z_ret ((-3)))))
def F_X11_nodes_36 (a0 : Nat) (s_0 : Int32) : zMn Int32 :=
  z_ret s_0
def F_X11_nodes (a0 : Nat) (p0 : Int32) : zMn Int32 :=
  z_bd (z_pf ((some a0)) 11 22 (.int 0)) fun _ =>
  z_bd (F_X11_isShape p0) fun x1 =>
  if x1 = 0 then (z_ret ((-1))) else
  (z_bd (z_rc ((some a0)) 11) fun b3 => z_bd (F_X11_reckon b3) fun _ =>
  z_bd (z_gi ((some a0)) 11 13) fun x4 =>
  if x4 < 0 then (z_bd (z_ga ((some a0)) 11 11) fun r6 =>
  z_bd (z_li r6 p0) fun x7 =>
  F_X11_nodes_36 a0 x7) else
  (F_X11_nodes_36 a0 ((-3))))
def F_X11_other_118 (a0 : Nat) (s_0 : Int32) : zMn Int32 :=
  z_ret s_0
def F_X11_other_98 (a0 : Nat) (x_3 : Int32) (t_0 : Option Nat) (s_1 : Int32) : zMn Int32 :=
  z_bd (z_pf t_0 11 22 (.int s_1)) fun _ =>
  z_bd (z_gi ((some a0)) 11 22) fun x11 =>
  if x11 = 0 then (z_bd (z_ga ((some a0)) 11 23) fun r13 =>
  z_bd (z_li r13 x_3) fun x14 =>
  F_X11_other_118 a0 x14) else
  (F_X11_other_118 a0 0)
def F_X11_other_97 (a0 : Nat) (x_3 : Int32) (t_0 : Option Nat) : zMn Int32 :=
  F_X11_other_98 a0 x_3 t_0 1
def F_X11_other_76 (a0 : Nat) (ih6 : Int32 → Int32 → Int32 → Int32 → Int32 → zMn Int32) (x_1 : Int32) (x_2 : Int32) (x_3 : Int32) (x_4 : Int32) (x_5 : Int32) : zMn Int32 :=
  ih6 x_1 x_2 x_3 x_4 (x_5 + 1)
def F_X11_other_51 (a0 : Nat) (ih6 : Int32 → Int32 → Int32 → Int32 → Int32 → zMn Int32) (x_1 : Int32) (x_2 : Int32) (x_3 : Int32) (x_4 : Int32) (x_5 : Int32) (s_0 : Int32) : zMn Int32 :=
  if 0 ≤ s_0 then (z_bd (z_ga ((some a0)) 11 23) fun r10 =>
  z_bd (z_si r10 x_4 (x_5 - x_5 / 16 * 16)) fun _ =>
  F_X11_other_76 a0 ih6 x_1 x_2 x_3 (x_4 + 1) x_5) else
  (F_X11_other_76 a0 ih6 x_1 x_2 x_3 x_4 x_5)
def B_X11_other_6 (a0 : Nat) (ih6 : Int32 → Int32 → Int32 → Int32 → Int32 → zMn Int32) (x_1 : Int32) (x_2 : Int32) (x_3 : Int32) (x_4 : Int32) (x_5 : Int32) : zMn Int32 :=
  if 128 ≤ x_5 then (if x_3 < 0 then (F_X11_other_97 a0 x_3 ((some a0))) else
  (if x_4 ≤ x_3 then (F_X11_other_97 a0 x_3 ((some a0))) else
  (F_X11_other_98 a0 x_3 ((some a0)) 0))) else
  (if x_2 = 0 then (z_bd (z_rc ((some a0)) 11) fun b6 => z_bd (F_X11_find b6 (x_5 - x_5 / 16 * 16) (x_5 / 16) x_1) fun x5 =>
  F_X11_other_51 a0 ih6 x_1 x_2 x_3 x_4 x_5 x5) else
  (z_bd (z_rc ((some a0)) 11) fun b8 => z_bd (F_X11_find b8 x_1 (x_5 / 16) (x_5 - x_5 / 16 * 16)) fun x7 =>
  F_X11_other_51 a0 ih6 x_1 x_2 x_3 x_4 x_5 x7))
def F_X11_other_6 (a0 : Nat) : Nat → Int32 × Int32 × Int32 × Int32 × Int32 → zMn Int32 := z_fix fun ih s => B_X11_other_6 a0 (fun y0 y1 y2 y3 y4 => ih (y0, y1, y2, y3, y4)) s.1 s.2.1 s.2.2.1 s.2.2.2.1 s.2.2.2.2
def F_X11_other (a0 : Nat) (p0 : Int32) (p1 : Int32) (p2 : Int32) : zMn Int32 :=
  F_X11_other_6 a0 z_N (p0, p1, p2, 0, 0)
def F_X11_shape_95 (a0 : Nat) (x_1 : Int32) (x_2 : Int32) (x_3 : Int32) (x_4 : Int32) (x_5 : Int32) : zMn Int32 :=
  z_bd (z_ga ((some a0)) 11 7) fun r17 =>
  z_bd (z_si r17 x_1 x_2) fun _ =>
  z_bd (z_ga ((some a0)) 11 8) fun r18 =>
  z_bd (z_si r18 x_1 x_3) fun _ =>
  z_bd (z_ga ((some a0)) 11 9) fun r19 =>
  z_bd (z_si r19 x_1 x_4) fun _ =>
  z_bd (z_ga ((some a0)) 11 10) fun r20 =>
  z_bd (z_si r20 x_1 x_5) fun _ =>
  z_bd (z_pf ((some a0)) 11 12 (.int 0)) fun _ =>
  z_ret 1
def F_X11_shape_93 (a0 : Nat)  : zMn Int32 :=
  z_ret ((-1))
def F_X11_shape_85 (a0 : Nat) (x_1 : Int32) (x_2 : Int32) (x_3 : Int32) (x_4 : Int32) (x_5 : Int32) : zMn Int32 :=
  z_bd (F_X11_isShape x_4) fun x21 =>
  if x21 = 0 then (F_X11_shape_93 a0) else
  (F_X11_shape_95 a0 x_1 x_2 x_3 x_4 x_5)
def F_X11_shape_75 (a0 : Nat) (x_1 : Int32) (x_2 : Int32) (x_3 : Int32) (x_4 : Int32) (x_5 : Int32) : zMn Int32 :=
  if x_2 = 1 then (F_X11_shape_85 a0 x_1 x_2 x_3 x_4 x_5) else
  (if x_2 = 2 then (F_X11_shape_85 a0 x_1 x_2 x_3 x_4 x_5) else
  (F_X11_shape_95 a0 x_1 x_2 x_3 x_4 x_5))
def F_X11_shape_68 (a0 : Nat) (x_1 : Int32) (x_2 : Int32) (x_3 : Int32) (x_4 : Int32) (x_5 : Int32) : zMn Int32 :=
  z_bd (F_X11_isShape x_3) fun x23 =>
  if x23 = 0 then (F_X11_shape_93 a0) else
  (F_X11_shape_75 a0 x_1 x_2 x_3 x_4 x_5)
def F_X11_shape_53 (a0 : Nat) (x_1 : Int32) (x_2 : Int32) (x_3 : Int32) (x_4 : Int32) (x_5 : Int32) : zMn Int32 :=
  if x_2 = 1 then (F_X11_shape_68 a0 x_1 x_2 x_3 x_4 x_5) else
  (if x_2 = 2 then (F_X11_shape_68 a0 x_1 x_2 x_3 x_4 x_5) else
  (if x_2 = 3 then (F_X11_shape_68 a0 x_1 x_2 x_3 x_4 x_5) else
  (F_X11_shape_75 a0 x_1 x_2 x_3 x_4 x_5)))
def F_X11_shape_22 (a0 : Nat)  : zMn Int32 :=
  z_ret ((-1))
def F_X11_shape (a0 : Nat) (p0 : Int32) (p1 : Int32) (p2 : Int32) (p3 : Int32) (p4 : Int32) : zMn Int32 :=
  z_bd (z_pf ((some a0)) 11 22 (.int 0)) fun _ =>
  z_bd (F_X11_isShape p0) fun x1 =>
  if x1 = 0 then (F_X11_shape_22 a0) else
  (if p1 < ((-1)) then (F_X11_shape_22 a0) else
  (if p1 ≤ 4 then (if p1 = 0 then (z_bd (z_rc ((some a0)) 11) fun b7 => z_bd (F_X11_isExpression b7 p2) fun x6 =>
  if x6 = 0 then (z_ret ((-1))) else
  (z_bd (z_rc ((some a0)) 11) fun b9 => z_bd (F_X11_findPlaces b9 p2) fun _ =>
  z_bd (z_gi ((some a0)) 11 21) fun x10 =>
  if x10 ≤ 5 then (F_X11_shape_53 a0 p0 p1 p2 p3 p4) else
  (z_ret ((-1))))) else
  (F_X11_shape_53 a0 p0 p1 p2 p3 p4)) else
  (F_X11_shape_22 a0)))
def F_X11_thrown (a0 : Nat) : zMn Int32 :=
  z_bd (z_gi ((some a0)) 11 22) fun x1 =>
  z_ret x1
def F_X11_ways_58 (a0 : Nat) (s_0 : Int32) : zMn Int32 :=
  z_ret s_0
def F_X11_ways_20 (a0 : Nat)  : zMn Int32 :=
  z_ret ((-1))
def F_X11_ways (a0 : Nat) (p0 : Int32) (p1 : Int32) : zMn Int32 :=
  z_bd (z_pf ((some a0)) 11 22 (.int 0)) fun _ =>
  z_bd (F_X11_isNode p0) fun x1 =>
  if x1 = 0 then (F_X11_ways_20 a0) else
  (z_bd (z_rc ((some a0)) 11) fun b4 => z_bd (F_X11_isBare b4 p1) fun x3 =>
  if x3 = 0 then (F_X11_ways_20 a0) else
  (z_bd (z_rc ((some a0)) 11) fun b6 => z_bd (F_X11_reckon b6) fun _ =>
  z_bd (z_gi ((some a0)) 11 13) fun x7 =>
  if x7 < 0 then (z_bd (z_rc ((some a0)) 11) fun b10 => z_bd (F_X11_weigh b10 p0 p1) fun w9 =>
  if 0 ≤ (lg_cmp w9 1000000) then (F_X11_ways_58 a0 1000000) else
  (F_X11_ways_58 a0 ((w9 : Int64).toInt32))) else
  (z_ret ((-3)))))
def F_X11_wrong (a0 : Nat) : zMn Int32 :=
  z_bd (z_pf ((some a0)) 11 22 (.int 0)) fun _ =>
  z_bd (z_rc ((some a0)) 11) fun b1 => z_bd (F_X11_reckon b1) fun _ =>
  z_bd (z_gi ((some a0)) 11 13) fun x2 =>
  z_ret x2
