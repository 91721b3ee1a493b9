def F_J6_bitCount_0f7a4 (p0 : Int32) : zMn Int32 :=
  z_bd (z_ret (p0 - ((((p0 : Int32).toUInt32 >>> ((1 : Int32).toUInt32 &&& Int32.toUInt32 31)).toInt32) &&& 1431655765))) fun x1 =>
  z_bd (z_ret ((x1 &&& 858993459) + ((((x1 : Int32).toUInt32 >>> ((2 : Int32).toUInt32 &&& Int32.toUInt32 31)).toInt32) &&& 858993459))) fun x2 =>
  z_bd (z_ret ((x2 + (((x2 : Int32).toUInt32 >>> ((4 : Int32).toUInt32 &&& Int32.toUInt32 31)).toInt32)) &&& 252645135)) fun x3 =>
  z_bd (z_ret (x3 + (((x3 : Int32).toUInt32 >>> ((8 : Int32).toUInt32 &&& Int32.toUInt32 31)).toInt32))) fun x4 =>
  z_bd (z_ret (x4 + (((x4 : Int32).toUInt32 >>> ((16 : Int32).toUInt32 &&& Int32.toUInt32 31)).toInt32))) fun x5 =>
  z_ret (x5 &&& 63)
def F_J6_numberOfTrailingZeros_0f7a4_74 (x_0 : Int32) (x_1 : Int32) : zMn Int32 :=
  z_ret (x_1 + (((x_0 : Int32).toUInt32 >>> ((1 : Int32).toUInt32 &&& Int32.toUInt32 31)).toInt32))
def F_J6_numberOfTrailingZeros_0f7a4_62 (x_0 : Int32) (x_1 : Int32) : zMn Int32 :=
  if x_0 ≤ 4 then (F_J6_numberOfTrailingZeros_0f7a4_74 x_0 x_1) else
  (z_bd (z_ret (((x_0 : Int32).toUInt32 >>> ((2 : Int32).toUInt32 &&& Int32.toUInt32 31)).toInt32)) fun x10 =>
  F_J6_numberOfTrailingZeros_0f7a4_74 x10 (x_1 + 2))
def F_J6_numberOfTrailingZeros_0f7a4_49 (x_0 : Int32) (x_1 : Int32) : zMn Int32 :=
  if x_0 ≤ 16 then (F_J6_numberOfTrailingZeros_0f7a4_62 x_0 x_1) else
  (z_bd (z_ret (((x_0 : Int32).toUInt32 >>> ((4 : Int32).toUInt32 &&& Int32.toUInt32 31)).toInt32)) fun x8 =>
  F_J6_numberOfTrailingZeros_0f7a4_62 x8 (x_1 + 4))
def F_J6_numberOfTrailingZeros_0f7a4_34 (x_0 : Int32) (x_1 : Int32) : zMn Int32 :=
  if x_0 ≤ 256 then (F_J6_numberOfTrailingZeros_0f7a4_49 x_0 x_1) else
  (z_bd (z_ret (((x_0 : Int32).toUInt32 >>> ((8 : Int32).toUInt32 &&& Int32.toUInt32 31)).toInt32)) fun x6 =>
  F_J6_numberOfTrailingZeros_0f7a4_49 x6 (x_1 + 8))
def F_J6_numberOfTrailingZeros_0f7a4 (p0 : Int32) : zMn Int32 :=
  z_bd (z_ret ((p0 ^^^ ((-1))) &&& (p0 - 1))) fun x1 =>
  if 0 < x1 then (if x1 ≤ 65536 then (F_J6_numberOfTrailingZeros_0f7a4_34 x1 1) else
  (z_bd (z_ret (((x1 : Int32).toUInt32 >>> ((16 : Int32).toUInt32 &&& Int32.toUInt32 31)).toInt32)) fun x4 =>
  F_J6_numberOfTrailingZeros_0f7a4_34 x4 (1 + 16))) else
  (z_ret (x1 &&& 32))
def F_X10_isLabel_15 (s_0 : Int32) : zMn Int32 :=
  z_rb s_0
def F_X10_isLabel_14  : zMn Int32 :=
  F_X10_isLabel_15 0
def F_X10_isLabel (p0 : Int32) : zMn Int32 :=
  if p0 < 0 then (F_X10_isLabel_14) else
  (if 8 ≤ p0 then (F_X10_isLabel_14) else
  (F_X10_isLabel_15 1))
def F_X10_isNode_15 (s_0 : Int32) : zMn Int32 :=
  z_rb s_0
def F_X10_isNode_14  : zMn Int32 :=
  F_X10_isNode_15 0
def F_X10_isNode (p0 : Int32) : zMn Int32 :=
  if p0 < 0 then (F_X10_isNode_14) else
  (if 16 ≤ p0 then (F_X10_isNode_14) else
  (F_X10_isNode_15 1))
def F_X0_key (a0 : Nat) (p0 : Int32) (p1 : Int32) : zMn Int32 :=
  z_bd (z_ga ((some a0)) 1 0) fun r1 =>
  z_bd (z_li r1 ((p0 * 4) + p1)) fun x2 =>
  z_ret x2
def B_X0_indexOf_2 (a0 : Nat) (ih2 : Int32 → Int32 → Int32 → zMn Int32) (x_1 : Int32) (x_2 : Int32) (x_3 : Int32) : zMn Int32 :=
  z_bd (z_ga ((some a0)) 1 1) fun r1 =>
  z_bd (z_li r1 x_1) fun x2 =>
  if x2 ≤ x_3 then (z_ret ((-1))) else
  (z_bd (z_rc ((some a0)) 1) fun b5 => z_bd (F_X0_key b5 x_1 x_3) fun x4 =>
  if x4 = x_2 then (z_ret x_3) else
  (ih2 x_1 x_2 (x_3 + 1)))
def F_X0_indexOf_2 (a0 : Nat) : Nat → Int32 × Int32 × Int32 → zMn Int32 := z_fix fun ih s => B_X0_indexOf_2 a0 (fun y0 y1 y2 => ih (y0, y1, y2)) s.1 s.2.1 s.2.2
def F_X0_indexOf (a0 : Nat) (p0 : Int32) (p1 : Int32) : zMn Int32 :=
  F_X0_indexOf_2 a0 z_N (p0, p1, 0)
def B_X0_remove_20 (a0 : Nat) (ih20 : Int32 → Int32 → Int32 → zMn Unit) (x_1 : Int32) (x_4 : Int32) (x_5 : Int32) : zMn Unit :=
  z_bd (z_ga ((some a0)) 1 1) fun r5 =>
  z_bd (z_li r5 x_1) fun x6 =>
  if x6 ≤ (x_5 + 1) then (z_bd (z_ga ((some a0)) 1 1) fun r8 =>
  z_bd (z_li r8 x_1) fun x9 =>
  z_bd (z_si r8 x_1 (x9 - 1)) fun _ =>
  z_ret ()) else
  (z_bd (z_ga ((some a0)) 1 0) fun r10 =>
  z_bd (z_ga ((some a0)) 1 0) fun r11 =>
  z_bd (z_li r11 ((x_4 + x_5) + 1)) fun x12 =>
  z_bd (z_si r10 (x_4 + x_5) x12) fun _ =>
  ih20 x_1 x_4 (x_5 + 1))
def F_X0_remove_20 (a0 : Nat) : Nat → Int32 × Int32 × Int32 → zMn Unit := z_fix fun ih s => B_X0_remove_20 a0 (fun y0 y1 y2 => ih (y0, y1, y2)) s.1 s.2.1 s.2.2
def F_X0_remove (a0 : Nat) (p0 : Int32) (p1 : Int32) : zMn Unit :=
  z_bd (z_rc ((some a0)) 1) fun b2 => z_bd (F_X0_indexOf b2 p0 p1) fun x1 =>
  if 0 ≤ x1 then (z_bd (z_ret (p0 * 4)) fun x4 =>
  F_X0_remove_20 a0 z_N (p0, x4, x1)) else
  (z_ret ())
def F_X5_keyOf (p0 : Int32) (p1 : Int32) : zMn Int32 :=
  z_ret ((p0 * 16) + p1)
def F_X5_drop (a0 : Nat) (p0 : Int32) (p1 : Int32) (p2 : Int32) : zMn Int32 :=
  z_bd (F_X5_keyOf p1 p2) fun x1 =>
  z_bd (z_ga ((some a0)) 5 0) fun r2 =>
  z_bd (z_rc r2 1) fun b4 => z_bd (F_X0_indexOf b4 p0 x1) fun x3 =>
  if 0 ≤ x3 then (z_bd (z_ga ((some a0)) 5 0) fun r6 =>
  z_bd (z_rc r6 1) fun b7 => z_bd (F_X0_remove b7 p0 x1) fun _ =>
  z_bd (z_ga ((some a0)) 5 1) fun r8 =>
  z_bd (F_X5_keyOf p1 p0) fun x9 =>
  z_bd (z_rc r8 1) fun b10 => z_bd (F_X0_remove b10 p2 x9) fun _ =>
  z_bd (z_gi ((some a0)) 5 2) fun x11 =>
  z_bd (z_pf ((some a0)) 5 2 (.int (x11 - 1))) fun _ =>
  z_ret 1) else
  (z_ret 0)
def F_X0_isFull_15 (a0 : Nat) (s_0 : Int32) : zMn Int32 :=
  z_rb s_0
def F_X0_isFull (a0 : Nat) (p0 : Int32) : zMn Int32 :=
  z_bd (z_ga ((some a0)) 1 1) fun r1 =>
  z_bd (z_li r1 p0) fun x2 =>
  if x2 < 4 then (F_X0_isFull_15 a0 0) else
  (F_X0_isFull_15 a0 1)
def F_X0_insert_64 (a0 : Nat) (x_1 : Int32) (x_2 : Int32) (x_4 : Int32) : zMn Unit :=
  z_bd (z_ga ((some a0)) 1 0) fun r15 =>
  z_bd (z_si r15 x_4 x_2) fun _ =>
  z_bd (z_ga ((some a0)) 1 1) fun r16 =>
  z_bd (z_li r16 x_1) fun x17 =>
  z_bd (z_si r16 x_1 (x17 + 1)) fun _ =>
  z_ret ()
def B_X0_insert_23 (a0 : Nat) (ih23 : Int32 → Int32 → Int32 → Int32 → zMn Unit) (x_1 : Int32) (x_2 : Int32) (x_3 : Int32) (x_4 : Int32) : zMn Unit :=
  if x_4 ≤ x_3 then (F_X0_insert_64 a0 x_1 x_2 x_4) else
  (z_bd (z_ga ((some a0)) 1 0) fun r9 =>
  z_bd (z_li r9 (x_4 - 1)) fun x10 =>
  if x10 ≤ x_2 then (F_X0_insert_64 a0 x_1 x_2 x_4) else
  (z_bd (z_ga ((some a0)) 1 0) fun r12 =>
  z_bd (z_ga ((some a0)) 1 0) fun r13 =>
  z_bd (z_li r13 (x_4 - 1)) fun x14 =>
  z_bd (z_si r12 x_4 x14) fun _ =>
  ih23 x_1 x_2 x_3 (x_4 + (-1))))
def F_X0_insert_23 (a0 : Nat) : Nat → Int32 × Int32 × Int32 × Int32 → zMn Unit := z_fix fun ih s => B_X0_insert_23 a0 (fun y0 y1 y2 y3 => ih (y0, y1, y2, y3)) s.1 s.2.1 s.2.2.1 s.2.2.2
def F_X0_insert (a0 : Nat) (p0 : Int32) (p1 : Int32) : zMn Unit :=
  z_bd (z_rc ((some a0)) 1) fun b2 => z_bd (F_X0_isFull b2 p0) fun x1 =>
  if x1 = 0 then (z_bd (z_ret (p0 * 4)) fun x4 =>
  z_bd (z_ga ((some a0)) 1 1) fun r5 =>
  z_bd (z_li r5 p0) fun x6 =>
  z_bd (z_ret (x4 + x6)) fun x7 =>
  F_X0_insert_23 a0 z_N (p0, p1, x4, x7)) else
  (z_ret ())
def F_X5_put_53 (a0 : Nat)  : zMn Int32 :=
  z_ret ((-2))
def F_X5_put (a0 : Nat) (p0 : Int32) (p1 : Int32) (p2 : Int32) : zMn Int32 :=
  z_bd (F_X5_keyOf p1 p2) fun x1 =>
  z_bd (z_ga ((some a0)) 5 0) fun r2 =>
  z_bd (z_rc r2 1) fun b4 => z_bd (F_X0_indexOf b4 p0 x1) fun x3 =>
  if x3 < 0 then (z_bd (z_gi ((some a0)) 5 2) fun x6 =>
  if 60 ≤ x6 then (F_X5_put_53 a0) else
  (z_bd (z_ga ((some a0)) 5 0) fun r8 =>
  z_bd (z_rc r8 1) fun b10 => z_bd (F_X0_isFull b10 p0) fun x9 =>
  if x9 = 0 then (z_bd (z_ga ((some a0)) 5 1) fun r12 =>
  z_bd (z_rc r12 1) fun b14 => z_bd (F_X0_isFull b14 p2) fun x13 =>
  if x13 = 0 then (z_bd (z_ga ((some a0)) 5 0) fun r16 =>
  z_bd (z_rc r16 1) fun b17 => z_bd (F_X0_insert b17 p0 x1) fun _ =>
  z_bd (z_ga ((some a0)) 5 1) fun r18 =>
  z_bd (F_X5_keyOf p1 p0) fun x19 =>
  z_bd (z_rc r18 1) fun b20 => z_bd (F_X0_insert b20 p2 x19) fun _ =>
  z_bd (z_gi ((some a0)) 5 2) fun x21 =>
  z_bd (z_pf ((some a0)) 5 2 (.int (x21 + 1))) fun _ =>
  z_ret 1) else
  (F_X5_put_53 a0)) else
  (F_X5_put_53 a0))) else
  (z_ret 0)
def F_X9_noteArcs (a0 : Nat) : zMn Unit :=
  z_bd (z_pf ((some a0)) 9 6 (.int 1)) fun _ =>
  z_ret ()
def F_X10_arc_66 (a0 : Nat) (x_5 : Int32) : zMn Int32 :=
  z_ret x_5
def F_X10_arc_51 (a0 : Nat) (s_0 : Int32) : zMn Int32 :=
  if s_0 = 1 then (z_bd (z_ga ((some a0)) 10 4) fun r15 =>
  z_bd (z_rc r15 9) fun b16 => z_bd (F_X9_noteArcs b16) fun _ =>
  F_X10_arc_66 a0 s_0) else
  (F_X10_arc_66 a0 s_0)
def F_X10_arc_21 (a0 : Nat)  : zMn Int32 :=
  z_ret ((-1))
def F_X10_arc (a0 : Nat) (p0 : Int32) (p1 : Int32) (p2 : Int32) (p3 : Int32) : zMn Int32 :=
  z_bd (F_X10_isNode p0) fun x1 =>
  if x1 = 0 then (F_X10_arc_21 a0) else
  (z_bd (F_X10_isLabel p1) fun x3 =>
  if x3 = 0 then (F_X10_arc_21 a0) else
  (z_bd (F_X10_isNode p2) fun x5 =>
  if x5 = 0 then (F_X10_arc_21 a0) else
  (if p3 = 0 then (z_bd (z_ga ((some a0)) 10 0) fun r8 =>
  z_bd (z_rc r8 5) fun b10 => z_bd (F_X5_drop b10 p0 p1 p2) fun x9 =>
  F_X10_arc_51 a0 x9) else
  (z_bd (z_ga ((some a0)) 10 0) fun r11 =>
  z_bd (z_rc r11 5) fun b13 => z_bd (F_X5_put b13 p0 p1 p2) fun x12 =>
  F_X10_arc_51 a0 x12))))
def F_X10_arcs (a0 : Nat) : zMn Int32 :=
  z_bd (z_ga ((some a0)) 10 0) fun r1 =>
  z_bd (z_gi r1 5 2) fun x2 =>
  z_ret x2
def F_X1_indexesOf_23 (s_0 : Int32) : zMn Int32 :=
  z_ret s_0
def F_X1_indexesOf_20  : zMn Int32 :=
  F_X1_indexesOf_23 3125
def F_X1_indexesOf (p0 : Int32) : zMn Int32 :=
  if p0 < 0 then (F_X1_indexesOf_20) else
  (z_bd (z_len ((some 1))) fun n2 =>
  if n2 ≤ p0 then (F_X1_indexesOf_20) else
  (z_bd (z_li ((some 1)) p0) fun x4 =>
  F_X1_indexesOf_23 x4))
def B_X7_slotOf_2 (ih2 : Option Nat → Int32 → Int32 → zMn Int32) (r_0 : Option Nat) (x_1 : Int32) (x_2 : Int32) : zMn Int32 :=
  z_bd (z_len r_0) fun n1 =>
  if n1 ≤ x_2 then (z_ret ((-1))) else
  (z_bd (z_la r_0 x_2) fun r3 =>
  z_bd (z_gi r3 7 0) fun x4 =>
  if x4 = x_1 then (z_ret x_2) else
  (ih2 r_0 x_1 (x_2 + 1)))
def F_X7_slotOf_2 : Nat → (Option Nat) × Int32 × Int32 → zMn Int32 := z_fix fun ih s => B_X7_slotOf_2 (fun y0 y1 y2 => ih (y0, y1, y2)) s.1 s.2.1 s.2.2
def F_X7_slotOf (q0 : Option Nat) (p1 : Int32) : zMn Int32 :=
  F_X7_slotOf_2 z_N (q0, p1, 0)
def B_X1_moved_14 (ih14 : Option Nat → Option Nat → Int32 → Int32 → Int32 → zMn Int32) (r_1 : Option Nat) (r_2 : Option Nat) (x_3 : Int32) (x_4 : Int32) (x_5 : Int32) : zMn Int32 :=
  z_bd (z_len r_1) fun n3 =>
  if n3 ≤ x_5 then (z_ret x_4) else
  (z_bd (z_la r_1 x_5) fun r5 =>
  z_bd (z_gi r5 7 0) fun x6 =>
  z_bd (F_X7_slotOf r_2 x6) fun x7 =>
  z_bd (F_X1_indexesOf x7) fun x8 =>
  z_bd (z_ret (x_4 + ((x_3 - x_3 / 5 * 5) * x8))) fun x9 =>
  z_bd (z_ret (x_3 / 5)) fun x10 =>
  ih14 r_1 r_2 x10 x9 (x_5 + 1))
def F_X1_moved_14 : Nat → (Option Nat) × (Option Nat) × Int32 × Int32 × Int32 → zMn Int32 := z_fix fun ih s => B_X1_moved_14 (fun y0 y1 y2 y3 y4 => ih (y0, y1, y2, y3, y4)) s.1 s.2.1 s.2.2.1 s.2.2.2.1 s.2.2.2.2
def F_X1_moved (p0 : Int32) (q1 : Option Nat) (q2 : Option Nat) : zMn Int32 :=
  z_bd (z_ret (p0 &&& 16383)) fun x1 =>
  z_bd (z_ret (p0 - x1)) fun x2 =>
  F_X1_moved_14 z_N (q1, q2, x1, x2, 0)
def B_X2_clear_2 (a0 : Nat) (ih2 : Int32 → zMn Unit) (x_1 : Int32) : zMn Unit :=
  z_bd (z_gi ((some a0)) 2 3) fun x1 =>
  if x1 ≤ x_1 then (z_bd (z_pf ((some a0)) 2 3 (.int 0)) fun _ =>
  z_ret ()) else
  (z_bd (z_ga ((some a0)) 2 0) fun r3 =>
  z_bd (z_ga ((some a0)) 2 1) fun r4 =>
  z_bd (z_li r4 x_1) fun x5 =>
  z_bd (z_si r3 (x5 &&& 16383) 0) fun _ =>
  ih2 (x_1 + 1))
def F_X2_clear_2 (a0 : Nat) : Nat → Int32 → zMn Unit := z_fix fun ih s => B_X2_clear_2 a0 (fun y0 => ih (y0)) s
def F_X2_clear (a0 : Nat) : zMn Unit :=
  F_X2_clear_2 a0 z_N (0)
def F_X2_enter_74 (a0 : Nat) (x_2 : Int32) : zMn Int32 :=
  z_bd (z_ga ((some a0)) 2 0) fun r15 =>
  z_bd (z_li r15 x_2) fun x16 =>
  z_ret (x16 - 1)
def F_X2_enter (a0 : Nat) (p0 : Int32) : zMn Int32 :=
  z_bd (z_ret (p0 &&& 16383)) fun x1 =>
  if x1 < 3125 then (z_bd (z_ga ((some a0)) 2 0) fun r3 =>
  z_bd (z_li r3 x1) fun x4 =>
  if x4 = 0 then (z_bd (z_gi ((some a0)) 2 3) fun x6 =>
  if 525 ≤ x6 then (F_X2_enter_74 a0 x1) else
  (z_bd (z_ga ((some a0)) 2 1) fun r8 =>
  z_bd (z_gi ((some a0)) 2 3) fun x9 =>
  z_bd (z_si r8 x9 p0) fun _ =>
  z_bd (z_ga ((some a0)) 2 2) fun r10 =>
  z_bd (z_gi ((some a0)) 2 3) fun x11 =>
  z_bd (z_si r10 x11 0) fun _ =>
  z_bd (z_gi ((some a0)) 2 3) fun x12 =>
  z_bd (z_pf ((some a0)) 2 3 (.int (x12 + 1))) fun _ =>
  z_bd (z_ga ((some a0)) 2 0) fun r13 =>
  z_bd (z_gi ((some a0)) 2 3) fun x14 =>
  z_bd (z_si r13 x1 x14) fun _ =>
  F_X2_enter_74 a0 x1)) else
  (F_X2_enter_74 a0 x1)) else
  (z_ret ((-1)))
def B_X4_eitherOf_34 (a0 : Nat) (ih34 : Option Nat → Int32 → zMn (Option Nat)) (r_2 : Option Nat) (x_3 : Int32) : zMn (Option Nat) :=
  z_bd (z_len r_2) fun n9 =>
  if n9 ≤ x_3 then (z_bd (z_ga ((some a0)) 4 1) fun r11 =>
  z_bd (z_ga r11 2 1) fun r12 =>
  z_bd (z_ga ((some a0)) 4 1) fun r13 =>
  z_bd (z_gi r13 2 3) fun x14 =>
  z_bd (F_J7_copyOf_59c91 r12 x14) fun r15 =>
  z_ret r15) else
  (z_bd (z_ga ((some a0)) 4 1) fun r16 =>
  z_bd (z_li r_2 x_3) fun x17 =>
  z_bd (z_rc r16 2) fun b19 => z_bd (F_X2_enter b19 x17) fun x18 =>
  ih34 r_2 (x_3 + 1))
def F_X4_eitherOf_34 (a0 : Nat) : Nat → (Option Nat) × Int32 → zMn (Option Nat) := z_fix fun ih s => B_X4_eitherOf_34 a0 (fun y0 y1 => ih (y0, y1)) s.1 s.2
def B_X4_eitherOf_9 (a0 : Nat) (ih9 : Option Nat → Option Nat → Int32 → zMn (Option Nat)) (r_1 : Option Nat) (r_2 : Option Nat) (x_3 : Int32) : zMn (Option Nat) :=
  z_bd (z_len r_1) fun n3 =>
  if n3 ≤ x_3 then (F_X4_eitherOf_34 a0 z_N (r_2, 0)) else
  (z_bd (z_ga ((some a0)) 4 1) fun r5 =>
  z_bd (z_li r_1 x_3) fun x6 =>
  z_bd (z_rc r5 2) fun b8 => z_bd (F_X2_enter b8 x6) fun x7 =>
  ih9 r_1 r_2 (x_3 + 1))
def F_X4_eitherOf_9 (a0 : Nat) : Nat → (Option Nat) × (Option Nat) × Int32 → zMn (Option Nat) := z_fix fun ih s => B_X4_eitherOf_9 a0 (fun y0 y1 y2 => ih (y0, y1, y2)) s.1 s.2.1 s.2.2
def F_X4_eitherOf (a0 : Nat) (q0 : Option Nat) (q1 : Option Nat) : zMn (Option Nat) :=
  z_bd (z_ga ((some a0)) 4 1) fun r1 =>
  z_bd (z_rc r1 2) fun b2 => z_bd (F_X2_clear b2) fun _ =>
  F_X4_eitherOf_9 a0 z_N (q0, q1, 0)
def F_X3_init_114 (a0 : Nat) (ih31 : Option Nat → Int32 → Int32 → Int32 → Int32 → zMn Unit) (r_2 : Option Nat) (x_4 : Int32) (x_5 : Int32) (x_7 : Int32) (s_0 : Int32) (s_1 : Int32) : zMn Unit :=
  z_bd (z_ret (s_0 ||| s_1)) fun x16 =>
  ih31 r_2 x_4 x_5 x16 (x_7 + 1)
def F_X3_init_89 (a0 : Nat) (ih31 : Option Nat → Int32 → Int32 → Int32 → Int32 → zMn Unit) (r_2 : Option Nat) (x_4 : Int32) (x_6 : Int32) (x_7 : Int32) (r_8 : Option Nat) (s_0 : Int32) (s_1 : Int32) : zMn Unit :=
  z_bd (z_ret (s_0 ||| s_1)) fun x12 =>
  z_bd (z_gi r_8 7 3) fun x13 =>
  if x13 = ((-1)) then (F_X3_init_114 a0 ih31 r_2 x_4 x12 x_7 x_6 0) else
  (z_bd (z_gi r_8 7 3) fun x15 =>
  F_X3_init_114 a0 ih31 r_2 x_4 x12 x_7 x_6 ((1 : Int32) <<< (x15 &&& 31)))
def F_X3_init_65 (a0 : Nat) (ih31 : Option Nat → Int32 → Int32 → Int32 → Int32 → zMn Unit) (r_2 : Option Nat) (x_5 : Int32) (x_6 : Int32) (x_7 : Int32) (r_8 : Option Nat) (s_0 : Int32) (s_1 : Int32) : zMn Unit :=
  z_bd (z_ret (s_0 ||| s_1)) fun x8 =>
  z_bd (z_gi r_8 7 1) fun x9 =>
  if x9 = 0 then (z_bd (z_gi r_8 7 2) fun x11 =>
  F_X3_init_89 a0 ih31 r_2 x8 x_6 x_7 r_8 x_5 ((1 : Int32) <<< (x11 &&& 31))) else
  (F_X3_init_89 a0 ih31 r_2 x8 x_6 x_7 r_8 x_5 0)
def B_X3_init_31 (a0 : Nat) (ih31 : Option Nat → Int32 → Int32 → Int32 → Int32 → zMn Unit) (r_2 : Option Nat) (x_4 : Int32) (x_5 : Int32) (x_6 : Int32) (x_7 : Int32) : zMn Unit :=
  z_bd (z_len r_2) fun n2 =>
  if n2 ≤ x_7 then (z_bd (z_pf ((some a0)) 3 3 (.int x_4)) fun _ =>
  z_bd (z_pf ((some a0)) 3 4 (.int x_5)) fun _ =>
  z_bd (z_pf ((some a0)) 3 5 (.int x_6)) fun _ =>
  z_ret ()) else
  (z_bd (z_la r_2 x_7) fun r4 =>
  z_bd (z_gi r4 7 1) fun x5 =>
  if x5 = 0 then (F_X3_init_65 a0 ih31 r_2 x_5 x_6 x_7 r4 x_4 0) else
  (z_bd (z_gi r4 7 2) fun x7 =>
  F_X3_init_65 a0 ih31 r_2 x_5 x_6 x_7 r4 x_4 ((1 : Int32) <<< (x7 &&& 31))))
def F_X3_init_31 (a0 : Nat) : Nat → (Option Nat) × Int32 × Int32 × Int32 × Int32 → zMn Unit := z_fix fun ih s => B_X3_init_31 a0 (fun y0 y1 y2 y3 y4 => ih (y0, y1, y2, y3, y4)) s.1 s.2.1 s.2.2.1 s.2.2.2.1 s.2.2.2.2
def F_X3_init (a0 : Nat) (p0 : Int32) (q1 : Option Nat) (q2 : Option Nat) : zMn Unit :=
  z_bd (z_ck (p0 = 0 ∨ p0 = 1)) fun _ =>
  z_bd (z_pf ((some a0)) 3 0 (.int p0)) fun _ =>
  z_bd (z_pf ((some a0)) 3 1 (va_rf q1)) fun _ =>
  z_bd (z_pf ((some a0)) 3 2 (va_rf q2)) fun _ =>
  F_X3_init_31 a0 z_N (q1, 0, 0, 0, 0)
def F_X4_isFull_14 (a0 : Nat) (s_0 : Int32) : zMn Int32 :=
  z_rb s_0
def F_X4_isFull (a0 : Nat) : zMn Int32 :=
  z_bd (z_gi ((some a0)) 4 2) fun x1 =>
  if x1 < 60 then (F_X4_isFull_14 a0 0) else
  (F_X4_isFull_14 a0 1)
def F_X4_keep (a0 : Nat) (p0 : Int32) (q1 : Option Nat) (q2 : Option Nat) : zMn Int32 :=
  z_bd (z_rc ((some a0)) 4) fun b2 => z_bd (F_X4_isFull b2) fun x1 =>
  if x1 = 0 then (z_bd (z_ga ((some a0)) 4 0) fun r4 =>
  z_bd (z_gi ((some a0)) 4 2) fun x5 =>
  z_bd (z_nw (.inr (3, [.int 0, .null, .null, .int 0, .int 0, .int 0]))) fun a6 =>
  z_bd (F_X3_init a6 p0 q1 q2) fun _ =>
  z_bd (z_sa r4 x5 ((some a6))) fun _ =>
  z_bd (z_gi ((some a0)) 4 2) fun x7 =>
  z_bd (z_pf ((some a0)) 4 2 (.int (x7 + 1))) fun _ =>
  z_bd (z_gi ((some a0)) 4 2) fun x8 =>
  z_ret (x8 - 1)) else
  (z_ret ((-2)))
def F_X4_keepWide (a0 : Nat) : zMn Int32 :=
  z_bd (z_nwa 15 .null 0) fun a1 =>
  z_bd (z_nwa 0 (.int 0) 0) fun a2 =>
  z_bd (z_rc ((some a0)) 4) fun b4 => z_bd (F_X4_keep b4 1 ((some a1)) ((some a2))) fun x3 =>
  z_ret x3
def F_X1_fits_15 (s_0 : Int32) : zMn Int32 :=
  z_rb s_0
def F_X1_fits (p0 : Int32) : zMn Int32 :=
  if ((p0 + 835584) &&& 2228224) = 0 then (F_X1_fits_15 1) else
  (F_X1_fits_15 0)
def F_X4_together_55 (a0 : Nat) (ih9 : Option Nat → Option Nat → Int32 → zMn (Option Nat)) (ih18 : Option Nat → Option Nat → Int32 → Int32 → zMn (Option Nat)) (r_1 : Option Nat) (r_2 : Option Nat) (x_3 : Int32) (x_4 : Int32) : zMn (Option Nat) :=
  ih18 r_1 r_2 x_3 (x_4 + 1)
def B_X4_together_18 (a0 : Nat) (ih9 : Option Nat → Option Nat → Int32 → zMn (Option Nat)) (ih18 : Option Nat → Option Nat → Int32 → Int32 → zMn (Option Nat)) (r_1 : Option Nat) (r_2 : Option Nat) (x_3 : Int32) (x_4 : Int32) : zMn (Option Nat) :=
  z_bd (z_len r_2) fun n10 =>
  if n10 ≤ x_4 then (ih9 r_1 r_2 (x_3 + 1)) else
  (z_bd (z_li r_1 x_3) fun x12 =>
  z_bd (z_li r_2 x_4) fun x13 =>
  z_bd (F_X1_fits (x12 + x13)) fun x14 =>
  if x14 = 0 then (F_X4_together_55 a0 ih9 ih18 r_1 r_2 x_3 x_4) else
  (z_bd (z_ga ((some a0)) 4 1) fun r16 =>
  z_bd (z_li r_1 x_3) fun x17 =>
  z_bd (z_li r_2 x_4) fun x18 =>
  z_bd (z_rc r16 2) fun b20 => z_bd (F_X2_enter b20 (x17 + x18)) fun x19 =>
  F_X4_together_55 a0 ih9 ih18 r_1 r_2 x_3 x_4))
def F_X4_together_18 (a0 : Nat) (ih9 : Option Nat → Option Nat → Int32 → zMn (Option Nat)) : Nat → (Option Nat) × (Option Nat) × Int32 × Int32 → zMn (Option Nat) := z_fix fun ih s => B_X4_together_18 a0 ih9 (fun y0 y1 y2 y3 => ih (y0, y1, y2, y3)) s.1 s.2.1 s.2.2.1 s.2.2.2
def B_X4_together_9 (a0 : Nat) (ih9 : Option Nat → Option Nat → Int32 → zMn (Option Nat)) (r_1 : Option Nat) (r_2 : Option Nat) (x_3 : Int32) : zMn (Option Nat) :=
  z_bd (z_len r_1) fun n3 =>
  if n3 ≤ x_3 then (z_bd (z_ga ((some a0)) 4 1) fun r5 =>
  z_bd (z_ga r5 2 1) fun r6 =>
  z_bd (z_ga ((some a0)) 4 1) fun r7 =>
  z_bd (z_gi r7 2 3) fun x8 =>
  z_bd (F_J7_copyOf_59c91 r6 x8) fun r9 =>
  z_ret r9) else
  (F_X4_together_18 a0 ih9 z_N (r_1, r_2, x_3, 0))
def F_X4_together_9 (a0 : Nat) : Nat → (Option Nat) × (Option Nat) × Int32 → zMn (Option Nat) := z_fix fun ih s => B_X4_together_9 a0 (fun y0 y1 y2 => ih (y0, y1, y2)) s.1 s.2.1 s.2.2
def F_X4_together (a0 : Nat) (q0 : Option Nat) (q1 : Option Nat) : zMn (Option Nat) :=
  z_bd (z_ga ((some a0)) 4 1) fun r1 =>
  z_bd (z_rc r1 2) fun b2 => z_bd (F_X2_clear b2) fun _ =>
  F_X4_together_9 a0 z_N (q0, q1, 0)
def F_X7_union_112 (ih74 : Option Nat → Option Nat → Int32 → Option Nat → Int32 → Int32 → zMn (Option Nat)) (r_0 : Option Nat) (r_1 : Option Nat) (x_2 : Int32) (r_3 : Option Nat) (x_4 : Int32) (x_5 : Int32) : zMn (Option Nat) :=
  ih74 r_0 r_1 x_2 r_3 x_4 (x_5 + 1)
def B_X7_union_74 (ih74 : Option Nat → Option Nat → Int32 → Option Nat → Int32 → Int32 → zMn (Option Nat)) (r_0 : Option Nat) (r_1 : Option Nat) (x_2 : Int32) (r_3 : Option Nat) (x_4 : Int32) (x_5 : Int32) : zMn (Option Nat) :=
  z_bd (z_len r_1) fun n14 =>
  if n14 ≤ x_5 then (z_ret r_3) else
  (z_bd (z_la r_1 x_5) fun r16 =>
  z_bd (z_gi r16 7 0) fun x17 =>
  z_bd (F_X7_slotOf r_0 x17) fun x18 =>
  if 0 ≤ x18 then (F_X7_union_112 ih74 r_0 r_1 x_2 r_3 x_4 x_5) else
  (if x_2 ≤ x_4 then (F_X7_union_112 ih74 r_0 r_1 x_2 r_3 x_4 x_5) else
  (z_bd (z_la r_1 x_5) fun r21 =>
  z_bd (z_sa r_3 x_4 r21) fun _ =>
  F_X7_union_112 ih74 r_0 r_1 x_2 r_3 (x_4 + 1) x_5)))
def F_X7_union_74 : Nat → (Option Nat) × (Option Nat) × Int32 × (Option Nat) × Int32 × Int32 → zMn (Option Nat) := z_fix fun ih s => B_X7_union_74 (fun y0 y1 y2 y3 y4 y5 => ih (y0, y1, y2, y3, y4, y5)) s.1 s.2.1 s.2.2.1 s.2.2.2.1 s.2.2.2.2.1 s.2.2.2.2.2
def B_X7_union_46 (ih46 : Option Nat → Option Nat → Int32 → Option Nat → Int32 → zMn (Option Nat)) (r_0 : Option Nat) (r_1 : Option Nat) (x_2 : Int32) (r_3 : Option Nat) (x_4 : Int32) : zMn (Option Nat) :=
  z_bd (z_len r_0) fun n10 =>
  if n10 ≤ x_4 then (z_bd (z_len r_0) fun n12 =>
  F_X7_union_74 z_N (r_0, r_1, x_2, r_3, n12, 0)) else
  (z_bd (z_la r_0 x_4) fun r13 =>
  z_bd (z_sa r_3 x_4 r13) fun _ =>
  ih46 r_0 r_1 x_2 r_3 (x_4 + 1))
def F_X7_union_46 : Nat → (Option Nat) × (Option Nat) × Int32 × (Option Nat) × Int32 → zMn (Option Nat) := z_fix fun ih s => B_X7_union_46 (fun y0 y1 y2 y3 y4 => ih (y0, y1, y2, y3, y4)) s.1 s.2.1 s.2.2.1 s.2.2.2.1 s.2.2.2.2
def F_X7_union_30 (ih5 : Option Nat → Option Nat → Int32 → Int32 → zMn (Option Nat)) (r_0 : Option Nat) (r_1 : Option Nat) (x_3 : Int32) (s_0 : Int32) (s_1 : Int32) : zMn (Option Nat) :=
  z_bd (z_ret (s_0 + s_1)) fun x9 =>
  ih5 r_0 r_1 x9 (x_3 + 1)
def B_X7_union_5 (ih5 : Option Nat → Option Nat → Int32 → Int32 → zMn (Option Nat)) (r_0 : Option Nat) (r_1 : Option Nat) (x_2 : Int32) (x_3 : Int32) : zMn (Option Nat) :=
  z_bd (z_len r_1) fun n2 =>
  if n2 ≤ x_3 then (z_bd (z_nwa 15 .null x_2) fun a4 =>
  F_X7_union_46 z_N (r_0, r_1, x_2, (some a4), 0)) else
  (z_bd (z_la r_1 x_3) fun r5 =>
  z_bd (z_gi r5 7 0) fun x6 =>
  z_bd (F_X7_slotOf r_0 x6) fun x7 =>
  if 0 ≤ x7 then (F_X7_union_30 ih5 r_0 r_1 x_3 x_2 0) else
  (F_X7_union_30 ih5 r_0 r_1 x_3 x_2 1))
def F_X7_union_5 : Nat → (Option Nat) × (Option Nat) × Int32 × Int32 → zMn (Option Nat) := z_fix fun ih s => B_X7_union_5 (fun y0 y1 y2 y3 => ih (y0, y1, y2, y3)) s.1 s.2.1 s.2.2.1 s.2.2.2
def F_X7_union (q0 : Option Nat) (q1 : Option Nat) : zMn (Option Nat) :=
  z_bd (z_len q0) fun n1 =>
  F_X7_union_5 z_N (q0, q1, n1, 0)
def F_X4_addPair_122 (a0 : Nat) (t_0 : Option Nat) (s_1 : Int32) (t_2 : Option Nat) (t_3 : Option Nat) : zMn Int32 :=
  z_bd (z_rc t_0 4) fun b29 => z_bd (F_X4_keep b29 s_1 t_2 t_3) fun x28 =>
  z_ret x28
def B_X4_addPair_56 (a0 : Nat) (ih56 : Int32 → Option Nat → Option Nat → Option Nat → Option Nat → Int32 → zMn Int32) (x_1 : Int32) (r_2 : Option Nat) (r_3 : Option Nat) (r_4 : Option Nat) (r_5 : Option Nat) (x_6 : Int32) : zMn Int32 :=
  z_bd (z_len r_5) fun n15 =>
  if n15 ≤ x_6 then (if x_1 = 0 then (z_bd (z_ga r_2 3 2) fun r18 =>
  z_bd (z_rc ((some a0)) 4) fun b20 => z_bd (F_X4_eitherOf b20 r18 r_5) fun r19 =>
  F_X4_addPair_122 a0 ((some a0)) 0 r_4 r19) else
  (z_bd (z_ga r_2 3 2) fun r21 =>
  z_bd (z_rc ((some a0)) 4) fun b23 => z_bd (F_X4_together b23 r21 r_5) fun r22 =>
  F_X4_addPair_122 a0 ((some a0)) 0 r_4 r22)) else
  (z_bd (z_ga r_3 3 2) fun r24 =>
  z_bd (z_li r24 x_6) fun x25 =>
  z_bd (z_ga r_3 3 1) fun r26 =>
  z_bd (F_X1_moved x25 r26 r_4) fun x27 =>
  z_bd (z_si r_5 x_6 x27) fun _ =>
  ih56 x_1 r_2 r_3 r_4 r_5 (x_6 + 1))
def F_X4_addPair_56 (a0 : Nat) : Nat → Int32 × (Option Nat) × (Option Nat) × (Option Nat) × (Option Nat) × Int32 → zMn Int32 := z_fix fun ih s => B_X4_addPair_56 a0 (fun y0 y1 y2 y3 y4 y5 => ih (y0, y1, y2, y3, y4, y5)) s.1 s.2.1 s.2.2.1 s.2.2.2.1 s.2.2.2.2.1 s.2.2.2.2.2
def F_X4_addPair_14 (a0 : Nat)  : zMn Int32 :=
  z_bd (z_rc ((some a0)) 4) fun b31 => z_bd (F_X4_keepWide b31) fun x30 =>
  z_ret x30
def F_X4_addPair (a0 : Nat) (p0 : Int32) (q1 : Option Nat) (q2 : Option Nat) : zMn Int32 :=
  z_bd (z_gi q1 3 0) fun x1 =>
  if x1 = 0 then (z_bd (z_gi q2 3 0) fun x3 =>
  if x3 = 0 then (z_bd (z_ga q1 3 1) fun r5 =>
  z_bd (z_ga q2 3 1) fun r6 =>
  z_bd (F_X7_union r5 r6) fun r7 =>
  z_bd (z_len r7) fun n8 =>
  if n8 ≤ 5 then (z_bd (z_ga q2 3 2) fun r10 =>
  z_bd (z_len r10) fun n11 =>
  z_bd (z_nwa 0 (.int 0) n11) fun a12 =>
  F_X4_addPair_56 a0 z_N (p0, q1, q2, r7, (some a12), 0)) else
  (z_bd (z_rc ((some a0)) 4) fun b14 => z_bd (F_X4_keepWide b14) fun x13 =>
  z_ret x13)) else
  (F_X4_addPair_14 a0)) else
  (F_X4_addPair_14 a0)
def F_X4_find_22 (a0 : Nat) (t_0 : Option Nat) : zMn (Option Nat) :=
  z_ret t_0
def F_X4_find_12 (a0 : Nat)  : zMn (Option Nat) :=
  F_X4_find_22 a0 none
def F_X4_find (a0 : Nat) (p0 : Int32) : zMn (Option Nat) :=
  if p0 < 0 then (F_X4_find_12 a0) else
  (z_bd (z_gi ((some a0)) 4 2) fun x2 =>
  if p0 < x2 then (z_bd (z_ga ((some a0)) 4 0) fun r4 =>
  z_bd (z_la r4 p0) fun r5 =>
  F_X4_find_22 a0 r5) else
  (F_X4_find_12 a0))
