def F_X10_addPair_59 (a0 : Nat) (s_0 : Int32) : zMn Int32 :=
  z_ret s_0
def F_X10_addPair_30 (a0 : Nat)  : zMn Int32 :=
  z_ret ((-1))
def F_X10_addPair (a0 : Nat) (p0 : Int32) (p1 : Int32) (p2 : Int32) : zMn Int32 :=
  z_bd (z_ga ((some a0)) 10 1) fun r1 =>
  z_bd (z_rc r1 4) fun b3 => z_bd (F_X4_find b3 p1) fun r2 =>
  z_bd (z_ga ((some a0)) 10 1) fun r4 =>
  z_bd (z_rc r4 4) fun b6 => z_bd (F_X4_find b6 p2) fun r5 =>
  if r2 = none then (F_X10_addPair_30 a0) else
  (if r5 = none then (F_X10_addPair_30 a0) else
  (z_bd (z_ga ((some a0)) 10 1) fun r9 =>
  z_bd (z_rc r9 4) fun b11 => z_bd (F_X4_isFull b11) fun x10 =>
  if x10 = 0 then (z_bd (z_ga ((some a0)) 10 1) fun r13 =>
  z_bd (z_rc r13 4) fun b15 => z_bd (F_X4_addPair b15 p0 r2 r5) fun x14 =>
  F_X10_addPair_59 a0 x14) else
  (F_X10_addPair_59 a0 ((-2)))))
def F_X10_isShape_15 (s_0 : Int32) : zMn Int32 :=
  z_rb s_0
def F_X10_isShape_14  : zMn Int32 :=
  F_X10_isShape_15 0
def F_X10_isShape (p0 : Int32) : zMn Int32 :=
  if p0 < 0 then (F_X10_isShape_14) else
  (if 16 ≤ p0 then (F_X10_isShape_14) else
  (F_X10_isShape_15 1))
def F_X1_ofOne_16 (s_0 : Int32) (s_1 : Int32) : zMn Int32 :=
  z_ret (s_0 + s_1)
def F_X1_ofOne (p0 : Int32) (p1 : Int32) : zMn Int32 :=
  z_bd (F_X1_indexesOf p0) fun x1 =>
  if p1 = 0 then (F_X1_ofOne_16 x1 262144) else
  (F_X1_ofOne_16 x1 16384)
def F_X7_init (a0 : Nat) (p0 : Int32) (p1 : Int32) (p2 : Int32) (p3 : Int32) : zMn Unit :=
  z_bd (z_pf ((some a0)) 7 0 (.int p0)) fun _ =>
  z_bd (z_ck (p1 = 0 ∨ p1 = 1)) fun _ =>
  z_bd (z_pf ((some a0)) 7 1 (.int p1)) fun _ =>
  z_bd (z_pf ((some a0)) 7 2 (.int p2)) fun _ =>
  z_bd (z_pf ((some a0)) 7 3 (.int p3)) fun _ =>
  z_ret ()
def F_X4_addPlace (a0 : Nat) (p0 : Int32) (p1 : Int32) (p2 : Int32) : zMn Int32 :=
  z_bd (z_nwa 15 .null 1) fun a1 =>
  z_bd (z_nw (.inr (7, [.int 0, .int 0, .int 0, .int 0]))) fun a2 =>
  z_bd (z_gi ((some a0)) 4 2) fun x3 =>
  z_bd (F_X7_init a2 x3 p0 p1 p2) fun _ =>
  z_bd (z_sa ((some a1)) 0 ((some a2))) fun _ =>
  z_bd (z_nwa 0 (.int 0) 1) fun a4 =>
  z_bd (F_X1_ofOne 0 p0) fun x5 =>
  z_bd (z_si ((some a4)) 0 x5) fun _ =>
  z_bd (z_rc ((some a0)) 4) fun b7 => z_bd (F_X4_keep b7 0 ((some a1)) ((some a4))) fun x6 =>
  z_ret x6
def F_X10_addPlace_46 (a0 : Nat) (s_0 : Int32) : zMn Int32 :=
  z_ret s_0
def F_X10_addPlace_21 (a0 : Nat) (x_1 : Int32) (x_2 : Int32) (x_3 : Int32) : zMn Int32 :=
  z_bd (z_ga ((some a0)) 10 1) fun r6 =>
  z_bd (z_rc r6 4) fun b8 => z_bd (F_X4_isFull b8) fun x7 =>
  if x7 = 0 then (z_bd (z_ga ((some a0)) 10 1) fun r10 =>
  z_bd (z_rc r10 4) fun b12 => z_bd (F_X4_addPlace b12 x_1 x_2 x_3) fun x11 =>
  F_X10_addPlace_46 a0 x11) else
  (F_X10_addPlace_46 a0 ((-2)))
def F_X10_addPlace_19 (a0 : Nat)  : zMn Int32 :=
  z_ret ((-1))
def F_X10_addPlace (a0 : Nat) (p0 : Int32) (p1 : Int32) (p2 : Int32) : zMn Int32 :=
  z_bd (F_X10_isLabel p1) fun x1 =>
  if x1 = 0 then (F_X10_addPlace_19 a0) else
  (if p2 = ((-1)) then (F_X10_addPlace_21 a0 p0 p1 p2) else
  (z_bd (F_X10_isShape p2) fun x4 =>
  if x4 = 0 then (F_X10_addPlace_19 a0) else
  (F_X10_addPlace_21 a0 p0 p1 p2)))
def F_X4_bagsMarked_103 (a0 : Nat) (ih53 : Int32 → Int32 → Option Nat → Int32 → Int32 → zMn (Option Nat)) (x_1 : Int32) (x_2 : Int32) (r_3 : Option Nat) (x_4 : Int32) (x_5 : Int32) : zMn (Option Nat) :=
  ih53 x_1 x_2 r_3 x_4 (x_5 + 1)
def B_X4_bagsMarked_53 (a0 : Nat) (ih53 : Int32 → Int32 → Option Nat → Int32 → Int32 → zMn (Option Nat)) (x_1 : Int32) (x_2 : Int32) (r_3 : Option Nat) (x_4 : Int32) (x_5 : Int32) : zMn (Option Nat) :=
  z_bd (z_ga ((some a0)) 4 1) fun r10 =>
  z_bd (z_gi r10 2 3) fun x11 =>
  if x11 ≤ x_5 then (z_ret r_3) else
  (z_bd (z_ga ((some a0)) 4 1) fun r13 =>
  z_bd (z_ga r13 2 2) fun r14 =>
  z_bd (z_li r14 x_5) fun x15 =>
  if (x15 &&& x_1) = 0 then (F_X4_bagsMarked_103 a0 ih53 x_1 x_2 r_3 x_4 x_5) else
  (if x_2 ≤ x_4 then (F_X4_bagsMarked_103 a0 ih53 x_1 x_2 r_3 x_4 x_5) else
  (z_bd (z_ga ((some a0)) 4 1) fun r18 =>
  z_bd (z_ga r18 2 1) fun r19 =>
  z_bd (z_li r19 x_5) fun x20 =>
  z_bd (z_si r_3 x_4 x20) fun _ =>
  F_X4_bagsMarked_103 a0 ih53 x_1 x_2 r_3 (x_4 + 1) x_5)))
def F_X4_bagsMarked_53 (a0 : Nat) : Nat → Int32 × Int32 × (Option Nat) × Int32 × Int32 → zMn (Option Nat) := z_fix fun ih s => B_X4_bagsMarked_53 a0 (fun y0 y1 y2 y3 y4 => ih (y0, y1, y2, y3, y4)) s.1 s.2.1 s.2.2.1 s.2.2.2.1 s.2.2.2.2
def F_X4_bagsMarked_35 (a0 : Nat) (ih4 : Int32 → Int32 → Int32 → zMn (Option Nat)) (x_1 : Int32) (x_3 : Int32) (s_0 : Int32) (s_1 : Int32) : zMn (Option Nat) :=
  z_bd (z_ret (s_0 + s_1)) fun x9 =>
  ih4 x_1 x9 (x_3 + 1)
def B_X4_bagsMarked_4 (a0 : Nat) (ih4 : Int32 → Int32 → Int32 → zMn (Option Nat)) (x_1 : Int32) (x_2 : Int32) (x_3 : Int32) : zMn (Option Nat) :=
  z_bd (z_ga ((some a0)) 4 1) fun r1 =>
  z_bd (z_gi r1 2 3) fun x2 =>
  if x2 ≤ x_3 then (z_bd (z_nwa 0 (.int 0) x_2) fun a4 =>
  F_X4_bagsMarked_53 a0 z_N (x_1, x_2, (some a4), 0, 0)) else
  (z_bd (z_ga ((some a0)) 4 1) fun r5 =>
  z_bd (z_ga r5 2 2) fun r6 =>
  z_bd (z_li r6 x_3) fun x7 =>
  if (x7 &&& x_1) = 0 then (F_X4_bagsMarked_35 a0 ih4 x_1 x_3 x_2 0) else
  (F_X4_bagsMarked_35 a0 ih4 x_1 x_3 x_2 1))
def F_X4_bagsMarked_4 (a0 : Nat) : Nat → Int32 × Int32 × Int32 → zMn (Option Nat) := z_fix fun ih s => B_X4_bagsMarked_4 a0 (fun y0 y1 y2 => ih (y0, y1, y2)) s.1 s.2.1 s.2.2
def F_X4_bagsMarked (a0 : Nat) (p0 : Int32) : zMn (Option Nat) :=
  F_X4_bagsMarked_4 a0 z_N (p0, 0, 0)
def F_X2_markIn_20 (a0 : Nat)  : zMn Unit :=
  z_ret ()
def F_X2_markIn (a0 : Nat) (p0 : Int32) (p1 : Int32) : zMn Unit :=
  z_bd (z_rc ((some a0)) 2) fun b2 => z_bd (F_X2_enter b2 p0) fun x1 =>
  if x1 < 0 then (F_X2_markIn_20 a0) else
  (z_bd (z_ga ((some a0)) 2 2) fun r4 =>
  z_bd (z_li r4 x1) fun x5 =>
  z_bd (z_si r4 x1 (x5 ||| p1)) fun _ =>
  F_X2_markIn_20 a0)
def F_X2_spotOf_25 (a0 : Nat) (s_0 : Int32) : zMn Int32 :=
  z_ret s_0
def F_X2_spotOf (a0 : Nat) (p0 : Int32) : zMn Int32 :=
  z_bd (z_ret (p0 &&& 16383)) fun x1 =>
  if x1 < 3125 then (z_bd (z_ga ((some a0)) 2 0) fun r3 =>
  z_bd (z_li r3 x1) fun x4 =>
  F_X2_spotOf_25 a0 (x4 - 1)) else
  (F_X2_spotOf_25 a0 ((-1)))
def F_X4_countParts_125 (a0 : Nat) (ih27 : Option Nat → Int32 → Int32 → zMn Unit) (r_1 : Option Nat) (x_2 : Int32) (x_3 : Int32) : zMn Unit :=
  ih27 r_1 x_2 (x_3 + 1)
def F_X4_countParts_119 (a0 : Nat) (ih27 : Option Nat → Int32 → Int32 → zMn Unit) (ih45 : Option Nat → Int32 → Int32 → Int32 → Int32 → zMn Unit) (r_1 : Option Nat) (x_2 : Int32) (x_3 : Int32) (x_4 : Int32) (x_5 : Int32) : zMn Unit :=
  ih45 r_1 x_2 x_3 x_4 (x_5 + 1)
def B_X4_countParts_45 (a0 : Nat) (ih27 : Option Nat → Int32 → Int32 → zMn Unit) (ih45 : Option Nat → Int32 → Int32 → Int32 → Int32 → zMn Unit) (r_1 : Option Nat) (x_2 : Int32) (x_3 : Int32) (x_4 : Int32) (x_5 : Int32) : zMn Unit :=
  if x_4 < 0 then (F_X4_countParts_125 a0 ih27 r_1 x_2 x_3) else
  (z_bd (z_ga r_1 3 2) fun r13 =>
  z_bd (z_len r13) fun n14 =>
  if n14 ≤ x_5 then (F_X4_countParts_125 a0 ih27 r_1 x_2 x_3) else
  (z_bd (z_ga ((some a0)) 4 1) fun r16 =>
  z_bd (z_ga r16 2 1) fun r17 =>
  z_bd (z_li r17 x_4) fun x18 =>
  z_bd (z_ga r_1 3 2) fun r19 =>
  z_bd (z_li r19 x_5) fun x20 =>
  z_bd (z_ret (x18 + x20)) fun x21 =>
  z_bd (z_ga r_1 3 2) fun r22 =>
  z_bd (z_li r22 x_5) fun x23 =>
  if x23 = 0 then (F_X4_countParts_119 a0 ih27 ih45 r_1 x_2 x_3 x_4 x_5) else
  (z_bd (F_X1_fits x21) fun x25 =>
  if x25 = 0 then (F_X4_countParts_119 a0 ih27 ih45 r_1 x_2 x_3 x_4 x_5) else
  (z_bd (z_ga ((some a0)) 4 1) fun r27 =>
  z_bd (z_ga ((some a0)) 4 1) fun r28 =>
  z_bd (z_ga r28 2 2) fun r29 =>
  z_bd (z_li r29 x_4) fun x30 =>
  z_bd (z_rc r27 2) fun b31 => z_bd (F_X2_markIn b31 x21 (x30 <<< (1 &&& 31))) fun _ =>
  F_X4_countParts_119 a0 ih27 ih45 r_1 x_2 x_3 x_4 x_5))))
def F_X4_countParts_45 (a0 : Nat) (ih27 : Option Nat → Int32 → Int32 → zMn Unit) : Nat → (Option Nat) × Int32 × Int32 × Int32 × Int32 → zMn Unit := z_fix fun ih s => B_X4_countParts_45 a0 ih27 (fun y0 y1 y2 y3 y4 => ih (y0, y1, y2, y3, y4)) s.1 s.2.1 s.2.2.1 s.2.2.2.1 s.2.2.2.2
def B_X4_countParts_27 (a0 : Nat) (ih27 : Option Nat → Int32 → Int32 → zMn Unit) (r_1 : Option Nat) (x_2 : Int32) (x_3 : Int32) : zMn Unit :=
  if x_2 ≤ x_3 then (z_ret ()) else
  (z_bd (z_ga ((some a0)) 4 1) fun r9 =>
  z_bd (z_rc r9 2) fun b11 => z_bd (F_X2_spotOf b11 x_3) fun x10 =>
  F_X4_countParts_45 a0 ih27 z_N (r_1, x_2, x_3, x10, 0))
def F_X4_countParts_27 (a0 : Nat) : Nat → (Option Nat) × Int32 × Int32 → zMn Unit := z_fix fun ih s => B_X4_countParts_27 a0 (fun y0 y1 y2 => ih (y0, y1, y2)) s.1 s.2.1 s.2.2
def F_X4_countParts (a0 : Nat) (q0 : Option Nat) : zMn Unit :=
  z_bd (z_ga ((some a0)) 4 1) fun r1 =>
  z_bd (z_rc r1 2) fun b2 => z_bd (F_X2_clear b2) fun _ =>
  z_bd (z_ga ((some a0)) 4 1) fun r3 =>
  z_bd (z_rc r3 2) fun b4 => z_bd (F_X2_markIn b4 0 1) fun _ =>
  z_bd (z_ga q0 3 1) fun r5 =>
  z_bd (z_len r5) fun n6 =>
  z_bd (F_X1_indexesOf n6) fun x7 =>
  F_X4_countParts_27 a0 z_N (q0, x7, 0)
def B_X4_holdsEmpty_2 (ih2 : Option Nat → Int32 → zMn Int32) (r_0 : Option Nat) (x_1 : Int32) : zMn Int32 :=
  z_bd (z_len r_0) fun n1 =>
  if n1 ≤ x_1 then (z_rb 0) else
  (z_bd (z_li r_0 x_1) fun x3 =>
  if x3 = 0 then (z_rb 1) else
  (ih2 r_0 (x_1 + 1)))
def F_X4_holdsEmpty_2 : Nat → (Option Nat) × Int32 → zMn Int32 := z_fix fun ih s => B_X4_holdsEmpty_2 (fun y0 y1 => ih (y0, y1)) s.1 s.2
def F_X4_holdsEmpty (q0 : Option Nat) : zMn Int32 :=
  F_X4_holdsEmpty_2 z_N (q0, 0)
def B_X4_repeated_61 (a0 : Nat) (ih61 : Int32 → Int32 → Int32 → zMn (Option Nat)) (x_5 : Int32) (x_6 : Int32) (x_7 : Int32) : zMn (Option Nat) :=
  if x_5 < x_7 then (z_bd (z_rc ((some a0)) 4) fun b11 => z_bd (F_X4_bagsMarked b11 x_6) fun r10 =>
  z_ret r10) else
  (z_bd (z_ret (x_6 ||| ((1 : Int32) <<< (x_7 &&& 31)))) fun x12 =>
  ih61 x_5 x12 (x_7 + 1))
def F_X4_repeated_61 (a0 : Nat) : Nat → Int32 × Int32 × Int32 → zMn (Option Nat) := z_fix fun ih s => B_X4_repeated_61 a0 (fun y0 y1 y2 => ih (y0, y1, y2)) s.1 s.2.1 s.2.2
def F_X4_repeated_52 (a0 : Nat) (x_4 : Int32) (s_0 : Int32) : zMn (Option Nat) :=
  F_X4_repeated_61 a0 z_N (s_0, 0, x_4)
def F_X4_repeated_34 (a0 : Nat) (x_3 : Int32) (s_0 : Int32) : zMn (Option Nat) :=
  if x_3 = ((-1)) then (F_X4_repeated_52 a0 s_0 8) else
  (F_X4_repeated_52 a0 s_0 (if 8 < x_3 then 8 else x_3))
def F_X4_repeated_14 (a0 : Nat) (r_1 : Option Nat) (x_2 : Int32) (x_3 : Int32) : zMn (Option Nat) :=
  z_bd (z_rc ((some a0)) 4) fun b4 => z_bd (F_X4_countParts b4 r_1) fun _ =>
  z_bd (z_ga r_1 3 2) fun r5 =>
  z_bd (F_X4_holdsEmpty r5) fun x6 =>
  if x6 = 0 then (F_X4_repeated_34 a0 x_3 x_2) else
  (F_X4_repeated_34 a0 x_3 0)
def F_X4_repeated (a0 : Nat) (q0 : Option Nat) (p1 : Int32) (p2 : Int32) : zMn (Option Nat) :=
  if p2 = ((-1)) then (F_X4_repeated_14 a0 q0 p1 p2) else
  (if p1 ≤ p2 then (F_X4_repeated_14 a0 q0 p1 p2) else
  (z_bd (z_nwa 0 (.int 0) 0) fun a3 =>
  z_ret ((some a3))))
def F_X4_addRepeated (a0 : Nat) (q0 : Option Nat) (p1 : Int32) (p2 : Int32) : zMn Int32 :=
  z_bd (z_gi q0 3 0) fun x1 =>
  if x1 = 0 then (z_bd (z_ga q0 3 1) fun r3 =>
  z_bd (z_rc ((some a0)) 4) fun b5 => z_bd (F_X4_repeated b5 q0 p1 p2) fun r4 =>
  z_bd (z_rc ((some a0)) 4) fun b7 => z_bd (F_X4_keep b7 0 r3 r4) fun x6 =>
  z_ret x6) else
  (z_bd (z_rc ((some a0)) 4) fun b9 => z_bd (F_X4_keepWide b9) fun x8 =>
  z_ret x8)
def F_X10_addRepeated_47 (a0 : Nat) (s_0 : Int32) : zMn Int32 :=
  z_ret s_0
def F_X10_addRepeated_19 (a0 : Nat)  : zMn Int32 :=
  z_ret ((-1))
def F_X10_addRepeated (a0 : Nat) (p0 : Int32) (p1 : Int32) (p2 : Int32) : zMn Int32 :=
  z_bd (z_ga ((some a0)) 10 1) fun r1 =>
  z_bd (z_rc r1 4) fun b3 => z_bd (F_X4_find b3 p0) fun r2 =>
  if r2 = none then (F_X10_addRepeated_19 a0) else
  (if 0 ≤ p1 then (z_bd (z_ga ((some a0)) 10 1) fun r6 =>
  z_bd (z_rc r6 4) fun b8 => z_bd (F_X4_isFull b8) fun x7 =>
  if x7 = 0 then (z_bd (z_ga ((some a0)) 10 1) fun r10 =>
  z_bd (z_rc r10 4) fun b12 => z_bd (F_X4_addRepeated b12 r2 p1 p2) fun x11 =>
  F_X10_addRepeated_47 a0 x11) else
  (F_X10_addRepeated_47 a0 ((-2)))) else
  (F_X10_addRepeated_19 a0))
def F_X4_addNothing (a0 : Nat) : zMn Int32 :=
  z_bd (z_nwa 0 (.int 0) 1) fun a1 =>
  z_bd (z_si ((some a1)) 0 0) fun _ =>
  z_bd (z_nwa 15 .null 0) fun a2 =>
  z_bd (z_rc ((some a0)) 4) fun b4 => z_bd (F_X4_keep b4 0 ((some a2)) ((some a1))) fun x3 =>
  z_ret x3
def F_X10_expression_104 (a0 : Nat) (s_0 : Int32) : zMn Int32 :=
  z_ret s_0
def F_X10_expression_67 (a0 : Nat) (x_2 : Int32) (x_3 : Int32) (t_0 : Option Nat) (s_1 : Int32) : zMn Int32 :=
  z_bd (z_rc t_0 10) fun b21 => z_bd (F_X10_addPair b21 s_1 x_2 x_3) fun x20 =>
  z_ret x20
def F_X10_expression_50 (a0 : Nat) (x_2 : Int32) (x_3 : Int32) (t_0 : Option Nat) (s_1 : Int32) : zMn Int32 :=
  z_bd (z_rc t_0 10) fun b23 => z_bd (F_X10_addPlace b23 s_1 x_2 x_3) fun x22 =>
  z_ret x22
def F_X10_expression (a0 : Nat) (p0 : Int32) (p1 : Int32) (p2 : Int32) (p3 : Int32) : zMn Int32 :=
  if p0 = 0 then (if p0 = 0 then (F_X10_expression_50 a0 p1 p2 ((some a0)) 1) else
  (F_X10_expression_50 a0 p1 p2 ((some a0)) 0)) else
  (if p0 = 1 then (if p0 = 0 then (F_X10_expression_50 a0 p1 p2 ((some a0)) 1) else
  (F_X10_expression_50 a0 p1 p2 ((some a0)) 0)) else
  (if p0 = 2 then (if p0 = 2 then (F_X10_expression_67 a0 p1 p2 ((some a0)) 1) else
  (F_X10_expression_67 a0 p1 p2 ((some a0)) 0)) else
  (if p0 = 3 then (if p0 = 2 then (F_X10_expression_67 a0 p1 p2 ((some a0)) 1) else
  (F_X10_expression_67 a0 p1 p2 ((some a0)) 0)) else
  (if p0 = 4 then (z_bd (z_rc ((some a0)) 10) fun b11 => z_bd (F_X10_addRepeated b11 p1 p2 p3) fun x10 =>
  z_ret x10) else
  (if p0 = 5 then (z_bd (z_ga ((some a0)) 10 1) fun r13 =>
  z_bd (z_rc r13 4) fun b15 => z_bd (F_X4_isFull b15) fun x14 =>
  if x14 = 0 then (z_bd (z_ga ((some a0)) 10 1) fun r17 =>
  z_bd (z_rc r17 4) fun b19 => z_bd (F_X4_addNothing b19) fun x18 =>
  F_X10_expression_104 a0 x18) else
  (F_X10_expression_104 a0 ((-2)))) else
  (z_ret ((-1))))))))
def F_X9_leads_18 (a0 : Nat) (s_0 : Int32) : zMn Int32 :=
  z_rb s_0
def F_X9_leads (a0 : Nat) (p0 : Int32) (p1 : Int32) : zMn Int32 :=
  z_bd (z_ga ((some a0)) 9 2) fun r1 =>
  z_bd (z_li r1 p0) fun x2 =>
  if ((x2 >>> (p1 &&& 31)) &&& 1) = 0 then (F_X9_leads_18 a0 0) else
  (F_X9_leads_18 a0 1)
def F_X9_findLeastWrong_49 (a0 : Nat) (ih2 : Int32 → zMn Int32) (ih10 : Int32 → Int32 → zMn Int32) (x_1 : Int32) (x_2 : Int32) : zMn Int32 :=
  ih10 x_1 (x_2 + 1)
def B_X9_findLeastWrong_10 (a0 : Nat) (ih2 : Int32 → zMn Int32) (ih10 : Int32 → Int32 → zMn Int32) (x_1 : Int32) (x_2 : Int32) : zMn Int32 :=
  if 16 ≤ x_2 then (ih2 (x_1 + 1)) else
  (z_bd (z_ga ((some a0)) 9 0) fun r3 =>
  z_bd (z_la r3 x_2) fun r4 =>
  z_bd (z_gi r4 8 0) fun x5 =>
  if x5 = 3 then (z_bd (z_rc ((some a0)) 9) fun b8 => z_bd (F_X9_leads b8 x_1 x_2) fun x7 =>
  if x7 = 0 then (F_X9_findLeastWrong_49 a0 ih2 ih10 x_1 x_2) else
  (z_bd (z_rc ((some a0)) 9) fun b11 => z_bd (F_X9_leads b11 x_2 x_1) fun x10 =>
  if x10 = 0 then (F_X9_findLeastWrong_49 a0 ih2 ih10 x_1 x_2) else
  (z_ret x_1))) else
  (F_X9_findLeastWrong_49 a0 ih2 ih10 x_1 x_2))
def F_X9_findLeastWrong_10 (a0 : Nat) (ih2 : Int32 → zMn Int32) : Nat → Int32 × Int32 → zMn Int32 := z_fix fun ih s => B_X9_findLeastWrong_10 a0 ih2 (fun y0 y1 => ih (y0, y1)) s.1 s.2
def B_X9_findLeastWrong_2 (a0 : Nat) (ih2 : Int32 → zMn Int32) (x_1 : Int32) : zMn Int32 :=
  if 16 ≤ x_1 then (z_ret ((-1))) else
  (F_X9_findLeastWrong_10 a0 ih2 z_N (x_1, 0))
def F_X9_findLeastWrong_2 (a0 : Nat) : Nat → Int32 → zMn Int32 := z_fix fun ih s => B_X9_findLeastWrong_2 a0 (fun y0 => ih (y0)) s
def F_X9_findLeastWrong (a0 : Nat) : zMn Int32 :=
  F_X9_findLeastWrong_2 a0 z_N (0)
def F_X9_findReach_69 (a0 : Nat) (ih31 : Int32 → zMn Unit) (ih39 : Int32 → Int32 → zMn Unit) (x_1 : Int32) (x_2 : Int32) : zMn Unit :=
  ih39 x_1 (x_2 + 1)
def B_X9_findReach_39 (a0 : Nat) (ih31 : Int32 → zMn Unit) (ih39 : Int32 → Int32 → zMn Unit) (x_1 : Int32) (x_2 : Int32) : zMn Unit :=
  if 16 ≤ x_2 then (ih31 (x_1 + 1)) else
  (z_bd (z_rc ((some a0)) 9) fun b9 => z_bd (F_X9_leads b9 x_2 x_1) fun x8 =>
  if x8 = 0 then (F_X9_findReach_69 a0 ih31 ih39 x_1 x_2) else
  (z_bd (z_ga ((some a0)) 9 2) fun r11 =>
  z_bd (z_li r11 x_2) fun x12 =>
  z_bd (z_ga ((some a0)) 9 2) fun r13 =>
  z_bd (z_li r13 x_1) fun x14 =>
  z_bd (z_si r11 x_2 (x12 ||| x14)) fun _ =>
  F_X9_findReach_69 a0 ih31 ih39 x_1 x_2))
def F_X9_findReach_39 (a0 : Nat) (ih31 : Int32 → zMn Unit) : Nat → Int32 × Int32 → zMn Unit := z_fix fun ih s => B_X9_findReach_39 a0 ih31 (fun y0 y1 => ih (y0, y1)) s.1 s.2
def B_X9_findReach_31 (a0 : Nat) (ih31 : Int32 → zMn Unit) (x_1 : Int32) : zMn Unit :=
  if 16 ≤ x_1 then (z_ret ()) else
  (F_X9_findReach_39 a0 ih31 z_N (x_1, 0))
def F_X9_findReach_31 (a0 : Nat) : Nat → Int32 → zMn Unit := z_fix fun ih s => B_X9_findReach_31 a0 (fun y0 => ih (y0)) s
def B_X9_findReach_2 (a0 : Nat) (ih2 : Int32 → zMn Unit) (x_1 : Int32) : zMn Unit :=
  if 16 ≤ x_1 then (F_X9_findReach_31 a0 z_N (0)) else
  (z_bd (z_ga ((some a0)) 9 2) fun r2 =>
  z_bd (z_ga ((some a0)) 9 0) fun r3 =>
  z_bd (z_la r3 x_1) fun r4 =>
  z_bd (z_gi r4 8 6) fun x5 =>
  z_bd (z_si r2 x_1 x5) fun _ =>
  ih2 (x_1 + 1))
def F_X9_findReach_2 (a0 : Nat) : Nat → Int32 → zMn Unit := z_fix fun ih s => B_X9_findReach_2 a0 (fun y0 => ih (y0)) s
def F_X9_findReach (a0 : Nat) : zMn Unit :=
  F_X9_findReach_2 a0 z_N (0)
def F_X9_leastWrong_24 (a0 : Nat)  : zMn Int32 :=
  z_bd (z_gi ((some a0)) 9 4) fun x6 =>
  z_ret x6
def F_X9_leastWrong (a0 : Nat) : zMn Int32 :=
  z_bd (z_gi ((some a0)) 9 5) fun x1 =>
  if x1 = 0 then (F_X9_leastWrong_24 a0) else
  (z_bd (z_pf ((some a0)) 9 5 (.int 0)) fun _ =>
  z_bd (z_rc ((some a0)) 9) fun b3 => z_bd (F_X9_findReach b3) fun _ =>
  z_bd (z_rc ((some a0)) 9) fun b5 => z_bd (F_X9_findLeastWrong b5) fun x4 =>
  z_bd (z_pf ((some a0)) 9 4 (.int x4)) fun _ =>
  F_X9_leastWrong_24 a0)
def F_X2_addTo_20 (a0 : Nat)  : zMn Unit :=
  z_ret ()
def F_X2_addTo (a0 : Nat) (p0 : Int32) (p1 : Int32) : zMn Unit :=
  z_bd (z_rc ((some a0)) 2) fun b2 => z_bd (F_X2_enter b2 p0) fun x1 =>
  if x1 < 0 then (F_X2_addTo_20 a0) else
  (z_bd (z_ga ((some a0)) 2 2) fun r4 =>
  z_bd (z_li r4 x1) fun x5 =>
  z_bd (z_si r4 x1 (x5 + p1)) fun _ =>
  F_X2_addTo_20 a0)
def F_X0_count (a0 : Nat) (p0 : Int32) : zMn Int32 :=
  z_bd (z_ga ((some a0)) 1 1) fun r1 =>
  z_bd (z_li r1 p0) fun x2 =>
  z_ret x2
def F_X5_labelOf (p0 : Int32) : zMn Int32 :=
  z_ret (p0 / 16)
def F_X6_addConcerned_32 (a0 : Nat)  : zMn Unit :=
  z_ret ()
def F_X6_addConcerned (a0 : Nat) (p0 : Int32) : zMn Unit :=
  z_bd (z_gi ((some a0)) 6 4) fun x1 =>
  z_bd (z_ga ((some a0)) 6 3) fun r2 =>
  z_bd (z_len r2) fun n3 =>
  if n3 ≤ x1 then (F_X6_addConcerned_32 a0) else
  (z_bd (z_ga ((some a0)) 6 3) fun r5 =>
  z_bd (z_gi ((some a0)) 6 4) fun x6 =>
  z_bd (z_si r5 x6 p0) fun _ =>
  z_bd (z_gi ((some a0)) 6 4) fun x7 =>
  z_bd (z_pf ((some a0)) 6 4 (.int (x7 + 1))) fun _ =>
  F_X6_addConcerned_32 a0)
def F_X5_otherOf (p0 : Int32) : zMn Int32 :=
  z_ret (p0 - p0 / 16 * 16)
def F_X7_takes_43 (a0 : Nat) (s_0 : Int32) : zMn Int32 :=
  z_rb s_0
def F_X7_takes_42 (a0 : Nat)  : zMn Int32 :=
  F_X7_takes_43 a0 0
def F_X7_takes_38 (a0 : Nat)  : zMn Int32 :=
  F_X7_takes_43 a0 1
def F_X7_takes (a0 : Nat) (p0 : Int32) (p1 : Int32) (p2 : Int32) (q3 : Option Nat) : zMn Int32 :=
  z_bd (z_gi ((some a0)) 7 1) fun x1 =>
  if x1 = p0 then (z_bd (z_gi ((some a0)) 7 2) fun x3 =>
  if x3 = p1 then (z_bd (z_gi ((some a0)) 7 3) fun x5 =>
  if x5 = ((-1)) then (F_X7_takes_38 a0) else
  (z_bd (z_gi ((some a0)) 7 3) fun x7 =>
  z_bd (z_li q3 x7) fun x8 =>
  if ((x8 >>> (p2 &&& 31)) &&& 1) = 0 then (F_X7_takes_42 a0) else
  (F_X7_takes_38 a0))) else
  (F_X7_takes_42 a0)) else
  (F_X7_takes_42 a0)
def F_X6_takers_42 (ih6 : Option Nat → Int32 → Int32 → Option Nat → Int32 → Int32 → zMn Int32) (r_0 : Option Nat) (x_1 : Int32) (x_2 : Int32) (r_3 : Option Nat) (x_4 : Int32) (x_5 : Int32) : zMn Int32 :=
  ih6 r_0 x_1 x_2 r_3 x_4 (x_5 + 1)
def B_X6_takers_6 (ih6 : Option Nat → Int32 → Int32 → Option Nat → Int32 → Int32 → zMn Int32) (r_0 : Option Nat) (x_1 : Int32) (x_2 : Int32) (r_3 : Option Nat) (x_4 : Int32) (x_5 : Int32) : zMn Int32 :=
  z_bd (z_len r_0) fun n1 =>
  if n1 ≤ x_5 then (z_ret x_4) else
  (z_bd (z_la r_0 x_5) fun r3 =>
  z_bd (F_X5_labelOf x_2) fun x4 =>
  z_bd (F_X5_otherOf x_2) fun x5 =>
  z_bd (z_rc r3 7) fun b7 => z_bd (F_X7_takes b7 x_1 x4 x5 r_3) fun x6 =>
  if x6 = 0 then (F_X6_takers_42 ih6 r_0 x_1 x_2 r_3 x_4 x_5) else
  (z_bd (z_ret (x_4 ||| ((1 : Int32) <<< (x_5 &&& 31)))) fun x9 =>
  F_X6_takers_42 ih6 r_0 x_1 x_2 r_3 x9 x_5))
def F_X6_takers_6 : Nat → (Option Nat) × Int32 × Int32 × (Option Nat) × Int32 × Int32 → zMn Int32 := z_fix fun ih s => B_X6_takers_6 (fun y0 y1 y2 y3 y4 y5 => ih (y0, y1, y2, y3, y4, y5)) s.1 s.2.1 s.2.2.1 s.2.2.2.1 s.2.2.2.2.1 s.2.2.2.2.2
def F_X6_takers (q0 : Option Nat) (p1 : Int32) (p2 : Int32) (q3 : Option Nat) : zMn Int32 :=
  F_X6_takers_6 z_N (q0, p1, p2, q3, 0, 0)
def F_X6_gather_187 (a0 : Nat) (ih124 : Int32 → Option Nat → Option Nat → Int32 → zMn Unit) (x_1 : Int32) (r_3 : Option Nat) (r_4 : Option Nat) (x_5 : Int32) : zMn Unit :=
  ih124 x_1 r_3 r_4 (x_5 + 1)
def B_X6_gather_124 (a0 : Nat) (ih124 : Int32 → Option Nat → Option Nat → Int32 → zMn Unit) (x_1 : Int32) (r_3 : Option Nat) (r_4 : Option Nat) (x_5 : Int32) : zMn Unit :=
  z_bd (z_ga ((some a0)) 6 0) fun r23 =>
  z_bd (z_ga r23 5 1) fun r24 =>
  z_bd (z_rc r24 1) fun b26 => z_bd (F_X0_count b26 x_1) fun x25 =>
  if x25 ≤ x_5 then (z_ret ()) else
  (z_bd (z_ga ((some a0)) 6 0) fun r28 =>
  z_bd (z_ga r28 5 1) fun r29 =>
  z_bd (z_rc r29 1) fun b31 => z_bd (F_X0_key b31 x_1 x_5) fun x30 =>
  z_bd (z_gi r_4 3 4) fun x32 =>
  z_bd (F_X5_labelOf x30) fun x33 =>
  if ((x32 >>> (x33 &&& 31)) &&& 1) = 0 then (F_X6_gather_187 a0 ih124 x_1 r_3 r_4 x_5) else
  (z_bd (z_ga r_4 3 1) fun r35 =>
  z_bd (F_X6_takers r35 0 x30 r_3) fun x36 =>
  z_bd (z_rc ((some a0)) 6) fun b37 => z_bd (F_X6_addConcerned b37 x36) fun _ =>
  F_X6_gather_187 a0 ih124 x_1 r_3 r_4 x_5))
def F_X6_gather_124 (a0 : Nat) : Nat → Int32 × (Option Nat) × (Option Nat) × Int32 → zMn Unit := z_fix fun ih s => B_X6_gather_124 a0 (fun y0 y1 y2 y3 => ih (y0, y1, y2, y3)) s.1 s.2.1 s.2.2.1 s.2.2.2
def F_X6_gather_115 (a0 : Nat) (ih20 : Int32 → Option Nat → Option Nat → Option Nat → Int32 → zMn Unit) (x_1 : Int32) (r_2 : Option Nat) (r_3 : Option Nat) (r_4 : Option Nat) (x_5 : Int32) : zMn Unit :=
  ih20 x_1 r_2 r_3 r_4 (x_5 + 1)
def F_X6_gather_94 (a0 : Nat) (ih20 : Int32 → Option Nat → Option Nat → Option Nat → Int32 → zMn Unit) (x_1 : Int32) (r_2 : Option Nat) (r_3 : Option Nat) (r_4 : Option Nat) (x_5 : Int32) (x_6 : Int32) (s_0 : Int32) : zMn Unit :=
  z_bd (z_ga r_4 3 1) fun r20 =>
  z_bd (F_X6_takers r20 1 x_6 r_3) fun x21 =>
  z_bd (z_rc ((some a0)) 6) fun b22 => z_bd (F_X6_addConcerned b22 (s_0 ||| x21)) fun _ =>
  F_X6_gather_115 a0 ih20 x_1 r_2 r_3 r_4 x_5
def F_X6_gather_78 (a0 : Nat) (ih20 : Int32 → Option Nat → Option Nat → Option Nat → Int32 → zMn Unit) (x_1 : Int32) (r_2 : Option Nat) (r_3 : Option Nat) (r_4 : Option Nat) (x_5 : Int32) (x_6 : Int32) (x_7 : Int32) : zMn Unit :=
  z_bd (z_gi r_2 8 4) fun x18 =>
  if (x18 &&& x_7) = 0 then (F_X6_gather_94 a0 ih20 x_1 r_2 r_3 r_4 x_5 x_6 0) else
  (F_X6_gather_94 a0 ih20 x_1 r_2 r_3 r_4 x_5 x_6 32)
def B_X6_gather_20 (a0 : Nat) (ih20 : Int32 → Option Nat → Option Nat → Option Nat → Int32 → zMn Unit) (x_1 : Int32) (r_2 : Option Nat) (r_3 : Option Nat) (r_4 : Option Nat) (x_5 : Int32) : zMn Unit :=
  z_bd (z_ga ((some a0)) 6 0) fun r3 =>
  z_bd (z_ga r3 5 0) fun r4 =>
  z_bd (z_rc r4 1) fun b6 => z_bd (F_X0_count b6 x_1) fun x5 =>
  if x5 ≤ x_5 then (F_X6_gather_124 a0 z_N (x_1, r_3, r_4, 0)) else
  (z_bd (z_ga ((some a0)) 6 0) fun r8 =>
  z_bd (z_ga r8 5 0) fun r9 =>
  z_bd (z_rc r9 1) fun b11 => z_bd (F_X0_key b11 x_1 x_5) fun x10 =>
  z_bd (F_X5_labelOf x10) fun x12 =>
  z_bd (z_ret ((1 : Int32) <<< (x12 &&& 31))) fun x13 =>
  z_bd (z_gi r_2 8 5) fun x14 =>
  if x14 = 0 then (z_bd (z_gi r_4 3 3) fun x16 =>
  if (x16 &&& x13) = 0 then (F_X6_gather_115 a0 ih20 x_1 r_2 r_3 r_4 x_5) else
  (F_X6_gather_78 a0 ih20 x_1 r_2 r_3 r_4 x_5 x10 x13)) else
  (F_X6_gather_78 a0 ih20 x_1 r_2 r_3 r_4 x_5 x10 x13))
def F_X6_gather_20 (a0 : Nat) : Nat → Int32 × (Option Nat) × (Option Nat) × (Option Nat) × Int32 → zMn Unit := z_fix fun ih s => B_X6_gather_20 a0 (fun y0 y1 y2 y3 y4 => ih (y0, y1, y2, y3, y4)) s.1 s.2.1 s.2.2.1 s.2.2.2.1 s.2.2.2.2
def F_X6_gather (a0 : Nat) (p0 : Int32) (q1 : Option Nat) (q2 : Option Nat) : zMn Unit :=
  z_bd (z_pf ((some a0)) 6 4 (.int 0)) fun _ =>
  z_bd (z_ga q1 8 3) fun r1 =>
  if r1 = none then (z_ret ()) else
  (F_X6_gather_20 a0 z_N (p0, q1, q2, r1, 0))
def F_X6_giveArc_94 (a0 : Nat) (ih8 : Int32 → Option Nat → Option Nat → Option Nat → Int32 → zMn Unit) (ih46 : Int32 → Option Nat → Option Nat → Option Nat → Int32 → Int32 → zMn Unit) (x_1 : Int32) (r_2 : Option Nat) (r_3 : Option Nat) (r_4 : Option Nat) (x_5 : Int32) (x_6 : Int32) : zMn Unit :=
  ih46 x_1 r_2 r_3 r_4 x_5 (x_6 + 1)
def B_X6_giveArc_46 (a0 : Nat) (ih8 : Int32 → Option Nat → Option Nat → Option Nat → Int32 → zMn Unit) (ih46 : Int32 → Option Nat → Option Nat → Option Nat → Int32 → Int32 → zMn Unit) (x_1 : Int32) (r_2 : Option Nat) (r_3 : Option Nat) (r_4 : Option Nat) (x_5 : Int32) (x_6 : Int32) : zMn Unit :=
  z_bd (z_len r_2) fun n10 =>
  if n10 ≤ x_6 then (ih8 x_1 r_2 r_3 r_4 (x_5 + 1)) else
  (if ((x_1 >>> (x_6 &&& 31)) &&& 1) = 0 then (F_X6_giveArc_94 a0 ih8 ih46 x_1 r_2 r_3 r_4 x_5 x_6) else
  (z_bd (z_ga r_3 2 1) fun r13 =>
  z_bd (z_li r13 x_5) fun x14 =>
  z_bd (z_la r_2 x_6) fun r15 =>
  z_bd (z_gi r15 7 1) fun x16 =>
  z_bd (F_X1_ofOne x_6 x16) fun x17 =>
  z_bd (z_ga r_3 2 2) fun r18 =>
  z_bd (z_li r18 x_5) fun x19 =>
  z_bd (z_rc r_4 2) fun b20 => z_bd (F_X2_addTo b20 (x14 + x17) x19) fun _ =>
  F_X6_giveArc_94 a0 ih8 ih46 x_1 r_2 r_3 r_4 x_5 x_6))
def F_X6_giveArc_46 (a0 : Nat) (ih8 : Int32 → Option Nat → Option Nat → Option Nat → Int32 → zMn Unit) : Nat → Int32 × (Option Nat) × (Option Nat) × (Option Nat) × Int32 × Int32 → zMn Unit := z_fix fun ih s => B_X6_giveArc_46 a0 ih8 (fun y0 y1 y2 y3 y4 y5 => ih (y0, y1, y2, y3, y4, y5)) s.1 s.2.1 s.2.2.1 s.2.2.2.1 s.2.2.2.2.1 s.2.2.2.2.2
def F_X6_giveArc_43 (a0 : Nat) (ih8 : Int32 → Option Nat → Option Nat → Option Nat → Int32 → zMn Unit) (x_1 : Int32) (r_2 : Option Nat) (r_3 : Option Nat) (r_4 : Option Nat) (x_5 : Int32) : zMn Unit :=
  F_X6_giveArc_46 a0 ih8 z_N (x_1, r_2, r_3, r_4, x_5, 0)
def B_X6_giveArc_8 (a0 : Nat) (ih8 : Int32 → Option Nat → Option Nat → Option Nat → Int32 → zMn Unit) (x_1 : Int32) (r_2 : Option Nat) (r_3 : Option Nat) (r_4 : Option Nat) (x_5 : Int32) : zMn Unit :=
  z_bd (z_gi r_3 2 3) fun x2 =>
  if x2 ≤ x_5 then (z_ret ()) else
  (if (x_1 &&& 32) = 0 then (F_X6_giveArc_43 a0 ih8 x_1 r_2 r_3 r_4 x_5) else
  (z_bd (z_ga r_3 2 1) fun r5 =>
  z_bd (z_li r5 x_5) fun x6 =>
  z_bd (z_ga r_3 2 2) fun r7 =>
  z_bd (z_li r7 x_5) fun x8 =>
  z_bd (z_rc r_4 2) fun b9 => z_bd (F_X2_addTo b9 x6 x8) fun _ =>
  F_X6_giveArc_43 a0 ih8 x_1 r_2 r_3 r_4 x_5))
def F_X6_giveArc_8 (a0 : Nat) : Nat → Int32 × (Option Nat) × (Option Nat) × (Option Nat) × Int32 → zMn Unit := z_fix fun ih s => B_X6_giveArc_8 a0 (fun y0 y1 y2 y3 y4 => ih (y0, y1, y2, y3, y4)) s.1 s.2.1 s.2.2.1 s.2.2.2.1 s.2.2.2.2
def F_X6_giveArc (a0 : Nat) (p0 : Int32) (q1 : Option Nat) (q2 : Option Nat) (q3 : Option Nat) : zMn Unit :=
  z_bd (z_rc q3 2) fun b1 => z_bd (F_X2_clear b1) fun _ =>
  F_X6_giveArc_8 a0 z_N (p0, q1, q2, q3, 0)
def F_X6_sumAllowed_39 (ih4 : Option Nat → Option Nat → Int32 → Int32 → zMn Int32) (r_0 : Option Nat) (r_1 : Option Nat) (x_2 : Int32) (x_3 : Int32) : zMn Int32 :=
  ih4 r_0 r_1 x_2 (x_3 + 1)
def B_X6_sumAllowed_4 (ih4 : Option Nat → Option Nat → Int32 → Int32 → zMn Int32) (r_0 : Option Nat) (r_1 : Option Nat) (x_2 : Int32) (x_3 : Int32) : zMn Int32 :=
  z_bd (z_len r_0) fun n1 =>
  if n1 ≤ x_3 then (z_ret x_2) else
  (z_bd (z_li r_0 x_3) fun x3 =>
  z_bd (z_rc r_1 2) fun b5 => z_bd (F_X2_spotOf b5 x3) fun x4 =>
  if x4 < 0 then (F_X6_sumAllowed_39 ih4 r_0 r_1 x_2 x_3) else
  (z_bd (z_ga r_1 2 2) fun r7 =>
  z_bd (z_li r7 x4) fun x8 =>
  z_bd (z_ret (if (x_2 + x8) < 1000000 then (x_2 + x8) else 1000000)) fun x9 =>
  F_X6_sumAllowed_39 ih4 r_0 r_1 x9 x_3))
def F_X6_sumAllowed_4 : Nat → (Option Nat) × (Option Nat) × Int32 × Int32 → zMn Int32 := z_fix fun ih s => B_X6_sumAllowed_4 (fun y0 y1 y2 y3 => ih (y0, y1, y2, y3)) s.1 s.2.1 s.2.2.1 s.2.2.2
def F_X6_sumAllowed (q0 : Option Nat) (q1 : Option Nat) : zMn Int32 :=
  F_X6_sumAllowed_4 z_N (q0, q1, 0, 0)
