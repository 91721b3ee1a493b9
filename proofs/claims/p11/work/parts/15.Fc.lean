def F_X6_countWays_102 (a0 : Nat) (r_4 : Option Nat) (r_5 : Option Nat) : zMn Int32 :=
  z_bd (z_ga r_4 3 2) fun r16 =>
  z_bd (F_X6_sumAllowed r16 r_5) fun x17 =>
  z_ret x17
def B_X6_countWays_47 (a0 : Nat) (ih47 : Option Nat → Option Nat → Option Nat → Int32 → zMn Int32) (r_4 : Option Nat) (r_5 : Option Nat) (r_6 : Option Nat) (x_7 : Int32) : zMn Int32 :=
  z_bd (z_gi ((some a0)) 6 4) fun x8 =>
  if x8 ≤ x_7 then (F_X6_countWays_102 a0 r_4 r_5) else
  (z_bd (z_gi r_5 2 3) fun x10 =>
  if x10 ≤ 0 then (F_X6_countWays_102 a0 r_4 r_5) else
  (z_bd (z_ga ((some a0)) 6 3) fun r12 =>
  z_bd (z_li r12 x_7) fun x13 =>
  z_bd (z_ga r_4 3 1) fun r14 =>
  z_bd (z_rc ((some a0)) 6) fun b15 => z_bd (F_X6_giveArc b15 x13 r14 r_5 r_6) fun _ =>
  ih47 r_4 r_6 r_5 (x_7 + 1)))
def F_X6_countWays_47 (a0 : Nat) : Nat → (Option Nat) × (Option Nat) × (Option Nat) × Int32 → zMn Int32 := z_fix fun ih s => B_X6_countWays_47 a0 (fun y0 y1 y2 y3 => ih (y0, y1, y2, y3)) s.1 s.2.1 s.2.2.1 s.2.2.2
def F_X6_countWays (a0 : Nat) (p0 : Int32) (q1 : Option Nat) (q2 : Option Nat) : zMn Int32 :=
  z_bd (z_ga q1 8 3) fun r1 =>
  if r1 = none then (z_ret 0) else
  (z_bd (z_rc ((some a0)) 6) fun b3 => z_bd (F_X6_gather b3 p0 q1 q2) fun _ =>
  z_bd (z_ga ((some a0)) 6 1) fun r4 =>
  z_bd (z_ga ((some a0)) 6 2) fun r5 =>
  z_bd (z_rc r4 2) fun b6 => z_bd (F_X2_clear b6) fun _ =>
  z_bd (z_rc r4 2) fun b7 => z_bd (F_X2_addTo b7 0 1) fun _ =>
  F_X6_countWays_47 a0 z_N (r1, r4, r5, 0))
def F_X6_matching_44 (a0 : Nat) (ih6 : Int32 → Option Nat → Option Nat → Int32 → Int32 → zMn Int32) (x_1 : Int32) (r_2 : Option Nat) (r_3 : Option Nat) (x_4 : Int32) (x_5 : Int32) : zMn Int32 :=
  ih6 x_1 r_2 r_3 x_4 (x_5 + 1)
def B_X6_matching_6 (a0 : Nat) (ih6 : Int32 → Option Nat → Option Nat → Int32 → Int32 → zMn Int32) (x_1 : Int32) (r_2 : Option Nat) (r_3 : Option Nat) (x_4 : Int32) (x_5 : Int32) : zMn Int32 :=
  if 16 ≤ x_5 then (z_ret x_4) else
  (z_bd (z_ret ((1 : Int32) <<< (x_5 &&& 31))) fun x2 =>
  if (x_1 &&& x2) = 0 then (F_X6_matching_44 a0 ih6 x_1 r_2 r_3 x_4 x_5) else
  (z_bd (z_rc ((some a0)) 6) fun b5 => z_bd (F_X6_countWays b5 x_5 r_2 r_3) fun x4 =>
  if x4 ≤ 0 then (F_X6_matching_44 a0 ih6 x_1 r_2 r_3 x_4 x_5) else
  (z_bd (z_ret (x_4 ||| x2)) fun x7 =>
  F_X6_matching_44 a0 ih6 x_1 r_2 r_3 x7 x_5)))
def F_X6_matching_6 (a0 : Nat) : Nat → Int32 × (Option Nat) × (Option Nat) × Int32 × Int32 → zMn Int32 := z_fix fun ih s => B_X6_matching_6 a0 (fun y0 y1 y2 y3 y4 => ih (y0, y1, y2, y3, y4)) s.1 s.2.1 s.2.2.1 s.2.2.2.1 s.2.2.2.2
def F_X6_matching (a0 : Nat) (p0 : Int32) (q1 : Option Nat) (q2 : Option Nat) : zMn Int32 :=
  F_X6_matching_6 a0 z_N (p0, q1, q2, 0, 0)
def F_X9_combined (a0 : Nat) (q0 : Option Nat) : zMn Int32 :=
  z_bd (z_gi q0 8 0) fun x1 =>
  if x1 = 1 then (z_bd (z_ga ((some a0)) 9 3) fun r3 =>
  z_bd (z_gi q0 8 1) fun x4 =>
  z_bd (z_li r3 x4) fun x5 =>
  z_bd (z_ga ((some a0)) 9 3) fun r6 =>
  z_bd (z_gi q0 8 2) fun x7 =>
  z_bd (z_li r6 x7) fun x8 =>
  z_ret (x5 &&& x8)) else
  (if x1 = 2 then (z_bd (z_ga ((some a0)) 9 3) fun r10 =>
  z_bd (z_gi q0 8 1) fun x11 =>
  z_bd (z_li r10 x11) fun x12 =>
  z_bd (z_ga ((some a0)) 9 3) fun r13 =>
  z_bd (z_gi q0 8 2) fun x14 =>
  z_bd (z_li r13 x14) fun x15 =>
  z_ret (x12 ||| x15)) else
  (if x1 = 3 then (z_bd (z_ga ((some a0)) 9 3) fun r17 =>
  z_bd (z_gi q0 8 1) fun x18 =>
  z_bd (z_li r17 x18) fun x19 =>
  z_ret (65535 &&& (x19 ^^^ ((-1))))) else
  (if x1 = 4 then (z_bd (z_gi q0 8 1) fun x21 =>
  z_ret x21) else
  (z_ret 0))))
def F_X9_thoseThatReferTo_34 (a0 : Nat) (ih4 : Int32 → Int32 → Int32 → zMn Int32) (x_1 : Int32) (x_3 : Int32) (s_0 : Int32) (s_1 : Int32) : zMn Int32 :=
  z_bd (z_ret (s_0 ||| s_1)) fun x6 =>
  ih4 x_1 x6 (x_3 + 1)
def B_X9_thoseThatReferTo_4 (a0 : Nat) (ih4 : Int32 → Int32 → Int32 → zMn Int32) (x_1 : Int32) (x_2 : Int32) (x_3 : Int32) : zMn Int32 :=
  if 16 ≤ x_3 then (z_ret x_2) else
  (z_bd (z_ga ((some a0)) 9 0) fun r2 =>
  z_bd (z_la r2 x_3) fun r3 =>
  z_bd (z_gi r3 8 6) fun x4 =>
  if ((x4 >>> (x_1 &&& 31)) &&& 1) = 0 then (F_X9_thoseThatReferTo_34 a0 ih4 x_1 x_3 x_2 0) else
  (F_X9_thoseThatReferTo_34 a0 ih4 x_1 x_3 x_2 ((1 : Int32) <<< (x_3 &&& 31))))
def F_X9_thoseThatReferTo_4 (a0 : Nat) : Nat → Int32 × Int32 × Int32 → zMn Int32 := z_fix fun ih s => B_X9_thoseThatReferTo_4 a0 (fun y0 y1 y2 => ih (y0, y1, y2)) s.1 s.2.1 s.2.2
def F_X9_thoseThatReferTo (a0 : Nat) (p0 : Int32) : zMn Int32 :=
  F_X9_thoseThatReferTo_4 a0 z_N (p0, 0, 0)
def F_X9_settleGroup_146 (a0 : Nat)  : zMn Unit :=
  z_ret ()
def F_X9_settleGroup_140 (a0 : Nat) (ih34 : Int32 → Int32 → Int32 → zMn Unit) (x_1 : Int32) (x_2 : Int32) (x_3 : Int32) : zMn Unit :=
  ih34 x_1 x_2 (x_3 + 1)
def F_X9_settleGroup_115 (a0 : Nat) (ih34 : Int32 → Int32 → Int32 → zMn Unit) (x_1 : Int32) (x_2 : Int32) (x_3 : Int32) (x_4 : Int32) (x_6 : Int32) (t_0 : Option Nat) (s_1 : Int32) (s_2 : Int32) (s_3 : Int32) : zMn Unit :=
  z_bd (z_si t_0 s_1 (s_2 &&& s_3)) fun _ =>
  z_bd (z_ga ((some a0)) 9 3) fun r22 =>
  z_bd (z_li r22 x_4) fun x23 =>
  if x23 = x_6 then (F_X9_settleGroup_140 a0 ih34 x_1 x_2 x_3) else
  (z_bd (z_rc ((some a0)) 9) fun b26 => z_bd (F_X9_thoseThatReferTo b26 x_4) fun x25 =>
  z_bd (z_ret (x_2 ||| (x_1 &&& x25))) fun x27 =>
  F_X9_settleGroup_140 a0 ih34 x_1 x27 x_3)
def B_X9_settleGroup_34 (a0 : Nat) (ih34 : Int32 → Int32 → Int32 → zMn Unit) (x_1 : Int32) (x_2 : Int32) (x_3 : Int32) : zMn Unit :=
  if 4112 ≤ x_3 then (F_X9_settleGroup_146 a0) else
  (if x_2 = 0 then (F_X9_settleGroup_146 a0) else
  (z_bd (F_J6_numberOfTrailingZeros_0f7a4 x_2) fun x6 =>
  z_bd (z_ret (x_2 &&& (x_2 - 1))) fun x7 =>
  z_bd (z_ga ((some a0)) 9 0) fun r8 =>
  z_bd (z_la r8 x6) fun r9 =>
  z_bd (z_ga ((some a0)) 9 3) fun r10 =>
  z_bd (z_li r10 x6) fun x11 =>
  z_bd (z_ga ((some a0)) 9 3) fun r12 =>
  z_bd (z_li r12 x6) fun x13 =>
  z_bd (z_gi r9 8 0) fun x14 =>
  if x14 = 0 then (z_bd (z_ga ((some a0)) 9 1) fun r18 =>
  z_bd (z_ga ((some a0)) 9 3) fun r19 =>
  z_bd (z_rc r18 6) fun b21 => z_bd (F_X6_matching b21 x11 r9 r19) fun x20 =>
  F_X9_settleGroup_115 a0 ih34 x_1 x7 x_3 x6 x11 r12 x6 x13 x20) else
  (z_bd (z_rc ((some a0)) 9) fun b17 => z_bd (F_X9_combined b17 r9) fun x16 =>
  F_X9_settleGroup_115 a0 ih34 x_1 x7 x_3 x6 x11 r12 x6 x13 x16)))
def F_X9_settleGroup_34 (a0 : Nat) : Nat → Int32 × Int32 × Int32 → zMn Unit := z_fix fun ih s => B_X9_settleGroup_34 a0 (fun y0 y1 y2 => ih (y0, y1, y2)) s.1 s.2.1 s.2.2
def F_X9_settleGroup_24 (a0 : Nat) (ih2 : Int32 → Int32 → zMn Unit) (x_1 : Int32) (x_2 : Int32) : zMn Unit :=
  ih2 x_1 (x_2 + 1)
def B_X9_settleGroup_2 (a0 : Nat) (ih2 : Int32 → Int32 → zMn Unit) (x_1 : Int32) (x_2 : Int32) : zMn Unit :=
  if 16 ≤ x_2 then (F_X9_settleGroup_34 a0 z_N (x_1, x_1, 0)) else
  (if ((x_1 >>> (x_2 &&& 31)) &&& 1) = 0 then (F_X9_settleGroup_24 a0 ih2 x_1 x_2) else
  (z_bd (z_ga ((some a0)) 9 3) fun r3 =>
  z_bd (z_si r3 x_2 65535) fun _ =>
  F_X9_settleGroup_24 a0 ih2 x_1 x_2))
def F_X9_settleGroup_2 (a0 : Nat) : Nat → Int32 × Int32 → zMn Unit := z_fix fun ih s => B_X9_settleGroup_2 a0 (fun y0 y1 => ih (y0, y1)) s.1 s.2
def F_X9_settleGroup (a0 : Nat) (p0 : Int32) : zMn Unit :=
  F_X9_settleGroup_2 a0 z_N (p0, 0)
def F_X9_settled_66 (a0 : Nat) (ih25 : Int32 → zMn Int32) (ih35 : Int32 → Int32 → Int32 → zMn Int32) (x_1 : Int32) (x_3 : Int32) (s_0 : Int32) (s_1 : Int32) : zMn Int32 :=
  z_bd (z_ret (s_0 ||| s_1)) fun x13 =>
  ih35 x_1 x13 (x_3 + 1)
def B_X9_settled_35 (a0 : Nat) (ih25 : Int32 → zMn Int32) (ih35 : Int32 → Int32 → Int32 → zMn Int32) (x_1 : Int32) (x_2 : Int32) (x_3 : Int32) : zMn Int32 :=
  if 16 ≤ x_3 then (z_bd (z_rc ((some a0)) 9) fun b8 => z_bd (F_X9_settleGroup b8 x_2) fun _ =>
  ih25 (x_1 + 1)) else
  (z_bd (z_ga ((some a0)) 9 2) fun r9 =>
  z_bd (z_li r9 x_3) fun x10 =>
  z_bd (F_J6_bitCount_0f7a4 (x10 ||| ((1 : Int32) <<< (x_3 &&& 31)))) fun x11 =>
  if x11 = x_1 then (F_X9_settled_66 a0 ih25 ih35 x_1 x_3 x_2 ((1 : Int32) <<< (x_3 &&& 31))) else
  (F_X9_settled_66 a0 ih25 ih35 x_1 x_3 x_2 0))
def F_X9_settled_35 (a0 : Nat) (ih25 : Int32 → zMn Int32) : Nat → Int32 × Int32 × Int32 → zMn Int32 := z_fix fun ih s => B_X9_settled_35 a0 ih25 (fun y0 y1 y2 => ih (y0, y1, y2)) s.1 s.2.1 s.2.2
def B_X9_settled_25 (a0 : Nat) (ih25 : Int32 → zMn Int32) (x_1 : Int32) : zMn Int32 :=
  if 16 < x_1 then (z_rb 1) else
  (F_X9_settled_35 a0 ih25 z_N (x_1, 0, 0))
def F_X9_settled_25 (a0 : Nat) : Nat → Int32 → zMn Int32 := z_fix fun ih s => B_X9_settled_25 a0 (fun y0 => ih (y0)) s
def F_X9_settled (a0 : Nat) : zMn Int32 :=
  z_bd (z_rc ((some a0)) 9) fun b2 => z_bd (F_X9_leastWrong b2) fun x1 =>
  if x1 < 0 then (z_bd (z_gi ((some a0)) 9 6) fun x4 =>
  if x4 = 0 then (z_rb 1) else
  (z_bd (z_pf ((some a0)) 9 6 (.int 0)) fun _ =>
  F_X9_settled_25 a0 z_N (1))) else
  (z_rb 0)
def F_X10_has_44 (a0 : Nat) (s_0 : Int32) : zMn Int32 :=
  z_ret s_0
def F_X10_has_14 (a0 : Nat)  : zMn Int32 :=
  z_ret ((-1))
def F_X10_has (a0 : Nat) (p0 : Int32) (p1 : Int32) : zMn Int32 :=
  z_bd (F_X10_isNode p0) fun x1 =>
  if x1 = 0 then (F_X10_has_14 a0) else
  (z_bd (F_X10_isShape p1) fun x3 =>
  if x3 = 0 then (F_X10_has_14 a0) else
  (z_bd (z_ga ((some a0)) 10 4) fun r5 =>
  z_bd (z_rc r5 9) fun b7 => z_bd (F_X9_settled b7) fun x6 =>
  if x6 = 0 then (F_X10_has_44 a0 ((-3))) else
  (z_bd (z_ga ((some a0)) 10 4) fun r9 =>
  z_bd (z_ga r9 9 3) fun r10 =>
  z_bd (z_li r10 p1) fun x11 =>
  F_X10_has_44 a0 ((x11 >>> (p0 &&& 31)) &&& 1))))
def F_X2_init (a0 : Nat) : zMn Unit :=
  z_bd (z_nwa 0 (.int 0) 3125) fun a1 =>
  z_bd (z_pf ((some a0)) 2 0 (va_rf ((some a1)))) fun _ =>
  z_bd (z_nwa 0 (.int 0) 525) fun a2 =>
  z_bd (z_pf ((some a0)) 2 1 (va_rf ((some a2)))) fun _ =>
  z_bd (z_nwa 0 (.int 0) 525) fun a3 =>
  z_bd (z_pf ((some a0)) 2 2 (va_rf ((some a3)))) fun _ =>
  z_ret ()
def F_X4_init (a0 : Nat) (q0 : Option Nat) : zMn Unit :=
  z_bd (z_nwa 11 .null 60) fun a1 =>
  z_bd (z_pf ((some a0)) 4 0 (va_rf ((some a1)))) fun _ =>
  z_bd (z_pf ((some a0)) 4 1 (va_rf q0)) fun _ =>
  z_ret ()
def F_X0_init (a0 : Nat) : zMn Unit :=
  z_bd (z_nwa 0 (.int 0) 64) fun a1 =>
  z_bd (z_pf ((some a0)) 1 0 (va_rf ((some a1)))) fun _ =>
  z_bd (z_nwa 0 (.int 0) 16) fun a2 =>
  z_bd (z_pf ((some a0)) 1 1 (va_rf ((some a2)))) fun _ =>
  z_ret ()
def F_X5_init (a0 : Nat) : zMn Unit :=
  z_bd (z_nw (.inr (1, [.null, .null]))) fun a1 =>
  z_bd (F_X0_init a1) fun _ =>
  z_bd (z_pf ((some a0)) 5 0 (va_rf ((some a1)))) fun _ =>
  z_bd (z_nw (.inr (1, [.null, .null]))) fun a2 =>
  z_bd (F_X0_init a2) fun _ =>
  z_bd (z_pf ((some a0)) 5 1 (va_rf ((some a2)))) fun _ =>
  z_ret ()
def F_X6_init (a0 : Nat) (q0 : Option Nat) (q1 : Option Nat) (q2 : Option Nat) : zMn Unit :=
  z_bd (z_nwa 0 (.int 0) 8) fun a1 =>
  z_bd (z_pf ((some a0)) 6 3 (va_rf ((some a1)))) fun _ =>
  z_bd (z_pf ((some a0)) 6 0 (va_rf q0)) fun _ =>
  z_bd (z_pf ((some a0)) 6 1 (va_rf q1)) fun _ =>
  z_bd (z_pf ((some a0)) 6 2 (va_rf q2)) fun _ =>
  z_ret ()
def F_X8_init (a0 : Nat) : zMn Unit :=
  z_bd (z_pf ((some a0)) 8 0 (.int ((-1)))) fun _ =>
  z_ret ()
def F_X9_init (a0 : Nat) (q0 : Option Nat) (q1 : Option Nat) : zMn Unit :=
  z_bd (z_nwa 0 (.int 0) 16) fun a1 =>
  z_bd (z_pf ((some a0)) 9 2 (va_rf ((some a1)))) fun _ =>
  z_bd (z_nwa 0 (.int 0) 16) fun a2 =>
  z_bd (z_pf ((some a0)) 9 3 (va_rf ((some a2)))) fun _ =>
  z_bd (z_pf ((some a0)) 9 4 (.int ((-1)))) fun _ =>
  z_bd (z_pf ((some a0)) 9 0 (va_rf q0)) fun _ =>
  z_bd (z_pf ((some a0)) 9 1 (va_rf q1)) fun _ =>
  z_bd (z_pf ((some a0)) 9 5 (.int 1)) fun _ =>
  z_bd (z_pf ((some a0)) 9 6 (.int 1)) fun _ =>
  z_ret ()
def B_X10_init_46 (a0 : Nat) (ih46 : Option Nat → Int32 → zMn Unit) (r_1 : Option Nat) (x_2 : Int32) : zMn Unit :=
  if 16 ≤ x_2 then (z_bd (z_nw (.inr (6, [.null, .null, .null, .null, .int 0]))) fun a6 =>
  z_bd (z_ga ((some a0)) 10 0) fun r7 =>
  z_bd (z_nw (.inr (2, [.null, .null, .null, .int 0]))) fun a8 =>
  z_bd (F_X2_init a8) fun _ =>
  z_bd (F_X6_init a6 r7 r_1 ((some a8))) fun _ =>
  z_bd (z_pf ((some a0)) 10 3 (va_rf ((some a6)))) fun _ =>
  z_bd (z_nw (.inr (9, [.null, .null, .null, .null, .int 0, .int 0, .int 0]))) fun a9 =>
  z_bd (z_ga ((some a0)) 10 2) fun r10 =>
  z_bd (z_ga ((some a0)) 10 3) fun r11 =>
  z_bd (F_X9_init a9 r10 r11) fun _ =>
  z_bd (z_pf ((some a0)) 10 4 (va_rf ((some a9)))) fun _ =>
  z_ret ()) else
  (z_bd (z_ga ((some a0)) 10 2) fun r12 =>
  z_bd (z_nw (.inr (8, [.int 0, .int 0, .int 0, .null, .int 0, .int 0, .int 0]))) fun a13 =>
  z_bd (F_X8_init a13) fun _ =>
  z_bd (z_sa r12 x_2 ((some a13))) fun _ =>
  ih46 r_1 (x_2 + 1))
def F_X10_init_46 (a0 : Nat) : Nat → (Option Nat) × Int32 → zMn Unit := z_fix fun ih s => B_X10_init_46 a0 (fun y0 y1 => ih (y0, y1)) s.1 s.2
def F_X10_init (a0 : Nat) : zMn Unit :=
  z_bd (z_nw (.inr (2, [.null, .null, .null, .int 0]))) fun a1 =>
  z_bd (F_X2_init a1) fun _ =>
  z_bd (z_nw (.inr (5, [.null, .null, .int 0]))) fun a2 =>
  z_bd (F_X5_init a2) fun _ =>
  z_bd (z_pf ((some a0)) 10 0 (va_rf ((some a2)))) fun _ =>
  z_bd (z_nw (.inr (4, [.null, .null, .int 0]))) fun a3 =>
  z_bd (F_X4_init a3 ((some a1))) fun _ =>
  z_bd (z_pf ((some a0)) 10 1 (va_rf ((some a3)))) fun _ =>
  z_bd (z_nwa 16 .null 16) fun a4 =>
  z_bd (z_pf ((some a0)) 10 2 (va_rf ((some a4)))) fun _ =>
  F_X10_init_46 a0 z_N ((some a1), 0)
def F_X10_isBare_24 (a0 : Nat) (s_0 : Int32) : zMn Int32 :=
  z_rb s_0
def F_X10_isBare_23 (a0 : Nat)  : zMn Int32 :=
  F_X10_isBare_24 a0 0
def F_X10_isBare (a0 : Nat) (p0 : Int32) : zMn Int32 :=
  z_bd (F_X10_isShape p0) fun x1 =>
  if x1 = 0 then (F_X10_isBare_23 a0) else
  (z_bd (z_ga ((some a0)) 10 2) fun r3 =>
  z_bd (z_la r3 p0) fun r4 =>
  z_bd (z_gi r4 8 0) fun x5 =>
  if x5 = 0 then (F_X10_isBare_24 a0 1) else
  (F_X10_isBare_23 a0))
def F_X6_countLoose_39 (a0 : Nat) (ih13 : Int32 → Int32 → zMn Int32) (x_5 : Int32) (s_0 : Int32) (s_1 : Int32) : zMn Int32 :=
  z_bd (z_ret (s_0 + s_1)) fun x7 =>
  ih13 x7 (x_5 + 1)
def B_X6_countLoose_13 (a0 : Nat) (ih13 : Int32 → Int32 → zMn Int32) (x_4 : Int32) (x_5 : Int32) : zMn Int32 :=
  z_bd (z_gi ((some a0)) 6 4) fun x2 =>
  if x2 ≤ x_5 then (z_ret x_4) else
  (z_bd (z_ga ((some a0)) 6 3) fun r4 =>
  z_bd (z_li r4 x_5) fun x5 =>
  if x5 = 0 then (F_X6_countLoose_39 a0 ih13 x_5 x_4 1) else
  (F_X6_countLoose_39 a0 ih13 x_5 x_4 0))
def F_X6_countLoose_13 (a0 : Nat) : Nat → Int32 × Int32 → zMn Int32 := z_fix fun ih s => B_X6_countLoose_13 a0 (fun y0 y1 => ih (y0, y1)) s.1 s.2
def F_X6_countLoose (a0 : Nat) (p0 : Int32) (q1 : Option Nat) (q2 : Option Nat) : zMn Int32 :=
  z_bd (z_rc ((some a0)) 6) fun b1 => z_bd (F_X6_gather b1 p0 q1 q2) fun _ =>
  F_X6_countLoose_13 a0 z_N (0, 0)
def F_X10_loose_53 (a0 : Nat) (s_0 : Int32) : zMn Int32 :=
  z_ret s_0
def F_X10_loose_15 (a0 : Nat)  : zMn Int32 :=
  z_ret ((-1))
def F_X10_loose (a0 : Nat) (p0 : Int32) (p1 : Int32) : zMn Int32 :=
  z_bd (F_X10_isNode p0) fun x1 =>
  if x1 = 0 then (F_X10_loose_15 a0) else
  (z_bd (z_rc ((some a0)) 10) fun b4 => z_bd (F_X10_isBare b4 p1) fun x3 =>
  if x3 = 0 then (F_X10_loose_15 a0) else
  (z_bd (z_ga ((some a0)) 10 4) fun r6 =>
  z_bd (z_rc r6 9) fun b8 => z_bd (F_X9_settled b8) fun x7 =>
  if x7 = 0 then (F_X10_loose_53 a0 ((-3))) else
  (z_bd (z_ga ((some a0)) 10 3) fun r10 =>
  z_bd (z_ga ((some a0)) 10 2) fun r11 =>
  z_bd (z_la r11 p1) fun r12 =>
  z_bd (z_ga ((some a0)) 10 4) fun r13 =>
  z_bd (z_ga r13 9 3) fun r14 =>
  z_bd (z_rc r10 6) fun b16 => z_bd (F_X6_countLoose b16 p0 r12 r14) fun x15 =>
  F_X10_loose_53 a0 x15)))
def F_X10_nodes_33 (a0 : Nat) (s_0 : Int32) : zMn Int32 :=
  z_ret s_0
def F_X10_nodes (a0 : Nat) (p0 : Int32) : zMn Int32 :=
  z_bd (F_X10_isShape p0) fun x1 =>
  if x1 = 0 then (z_ret ((-1))) else
  (z_bd (z_ga ((some a0)) 10 4) fun r3 =>
  z_bd (z_rc r3 9) fun b5 => z_bd (F_X9_settled b5) fun x4 =>
  if x4 = 0 then (F_X10_nodes_33 a0 ((-3))) else
  (z_bd (z_ga ((some a0)) 10 4) fun r7 =>
  z_bd (z_ga r7 9 3) fun r8 =>
  z_bd (z_li r8 p0) fun x9 =>
  F_X10_nodes_33 a0 x9))
def F_X8_becomeNone (a0 : Nat) : zMn Unit :=
  z_bd (z_pf ((some a0)) 8 0 (.int ((-1)))) fun _ =>
  z_bd (z_pf ((some a0)) 8 1 (.int 0)) fun _ =>
  z_bd (z_pf ((some a0)) 8 2 (.int 0)) fun _ =>
  z_bd (z_pf ((some a0)) 8 3 (va_rf none)) fun _ =>
  z_bd (z_pf ((some a0)) 8 4 (.int 0)) fun _ =>
  z_bd (z_pf ((some a0)) 8 5 (.int 0)) fun _ =>
  z_bd (z_pf ((some a0)) 8 6 (.int 0)) fun _ =>
  z_ret ()
def F_X8_becomeBare (a0 : Nat) (q0 : Option Nat) (p1 : Int32) (p2 : Int32) : zMn Unit :=
  z_bd (z_rc ((some a0)) 8) fun b1 => z_bd (F_X8_becomeNone b1) fun _ =>
  z_bd (z_pf ((some a0)) 8 0 (.int 0)) fun _ =>
  z_bd (z_pf ((some a0)) 8 3 (va_rf q0)) fun _ =>
  z_bd (z_pf ((some a0)) 8 4 (.int p1)) fun _ =>
  z_bd (z_ck (p2 = 0 ∨ p2 = 1)) fun _ =>
  z_bd (z_pf ((some a0)) 8 5 (.int p2)) fun _ =>
  z_bd (z_gi q0 3 5) fun x3 =>
  z_bd (z_pf ((some a0)) 8 6 (.int x3)) fun _ =>
  z_ret ()
def F_X10_setBare_23 (a0 : Nat)  : zMn Int32 :=
  z_rb 0
def F_X10_setBare (a0 : Nat) (q0 : Option Nat) (p1 : Int32) (p2 : Int32) (p3 : Int32) : zMn Int32 :=
  z_bd (z_ga ((some a0)) 10 1) fun r1 =>
  z_bd (z_rc r1 4) fun b3 => z_bd (F_X4_find b3 p1) fun r2 =>
  if r2 = none then (F_X10_setBare_23 a0) else
  (z_bd (z_gi r2 3 0) fun x5 =>
  if x5 = 0 then (z_bd (z_rc q0 8) fun b7 => z_bd (F_X8_becomeBare b7 r2 p2 p3) fun _ =>
  z_rb 1) else
  (F_X10_setBare_23 a0))
def F_X8_becomeAmong (a0 : Nat) (p0 : Int32) : zMn Unit :=
  z_bd (z_rc ((some a0)) 8) fun b1 => z_bd (F_X8_becomeNone b1) fun _ =>
  z_bd (z_pf ((some a0)) 8 0 (.int 4)) fun _ =>
  z_bd (z_pf ((some a0)) 8 1 (.int p0)) fun _ =>
  z_ret ()
def F_X8_becomeNot (a0 : Nat) (p0 : Int32) : zMn Unit :=
  z_bd (z_rc ((some a0)) 8) fun b1 => z_bd (F_X8_becomeNone b1) fun _ =>
  z_bd (z_pf ((some a0)) 8 0 (.int 3)) fun _ =>
  z_bd (z_pf ((some a0)) 8 1 (.int p0)) fun _ =>
  z_bd (z_pf ((some a0)) 8 6 (.int ((1 : Int32) <<< (p0 &&& 31)))) fun _ =>
  z_ret ()
def F_X8_becomePair (a0 : Nat) (p0 : Int32) (p1 : Int32) (p2 : Int32) : zMn Unit :=
  z_bd (z_rc ((some a0)) 8) fun b1 => z_bd (F_X8_becomeNone b1) fun _ =>
  z_bd (z_pf ((some a0)) 8 0 (.int p0)) fun _ =>
  z_bd (z_pf ((some a0)) 8 1 (.int p1)) fun _ =>
  z_bd (z_pf ((some a0)) 8 2 (.int p2)) fun _ =>
  z_bd (z_pf ((some a0)) 8 6 (.int (((1 : Int32) <<< (p1 &&& 31)) ||| ((1 : Int32) <<< (p2 &&& 31))))) fun _ =>
  z_ret ()
def F_X10_setShape_85 (a0 : Nat)  : zMn Int32 :=
  z_rb 0
def F_X10_setShape_66 (a0 : Nat) (t_0 : Option Nat) (t_1 : Option Nat) (s_2 : Int32) (s_3 : Int32) (s_4 : Int32) : zMn Int32 :=
  z_bd (z_rc t_0 10) fun b24 => z_bd (F_X10_setBare b24 t_1 s_2 s_3 s_4) fun x23 =>
  z_rb x23
def F_X10_setShape (a0 : Nat) (q0 : Option Nat) (p1 : Int32) (p2 : Int32) (p3 : Int32) (p4 : Int32) : zMn Int32 :=
  if p1 = (-1) then (z_bd (z_rc q0 8) fun b2 => z_bd (F_X8_becomeNone b2) fun _ =>
  z_rb 1) else
  (if p1 = 0 then (if p4 = 1 then (F_X10_setShape_66 a0 ((some a0)) q0 p2 (p3 &&& 255) 1) else
  (F_X10_setShape_66 a0 ((some a0)) q0 p2 (p3 &&& 255) 0)) else
  (if p1 = 1 then (z_bd (F_X10_isShape p2) fun x6 =>
  if x6 = 0 then (F_X10_setShape_85 a0) else
  (z_bd (F_X10_isShape p3) fun x8 =>
  if x8 = 0 then (F_X10_setShape_85 a0) else
  (z_bd (z_rc q0 8) fun b10 => z_bd (F_X8_becomePair b10 p1 p2 p3) fun _ =>
  z_rb 1))) else
  (if p1 = 2 then (z_bd (F_X10_isShape p2) fun x12 =>
  if x12 = 0 then (F_X10_setShape_85 a0) else
  (z_bd (F_X10_isShape p3) fun x14 =>
  if x14 = 0 then (F_X10_setShape_85 a0) else
  (z_bd (z_rc q0 8) fun b16 => z_bd (F_X8_becomePair b16 p1 p2 p3) fun _ =>
  z_rb 1))) else
  (if p1 = 3 then (z_bd (F_X10_isShape p2) fun x18 =>
  if x18 = 0 then (z_rb 0) else
  (z_bd (z_rc q0 8) fun b20 => z_bd (F_X8_becomeNot b20 p2) fun _ =>
  z_rb 1)) else
  (if p1 = 4 then (z_bd (z_rc q0 8) fun b22 => z_bd (F_X8_becomeAmong b22 (p2 &&& 65535)) fun _ =>
  z_rb 1) else
  (z_rb 0))))))
def F_X9_noteShapes (a0 : Nat) : zMn Unit :=
  z_bd (z_pf ((some a0)) 9 5 (.int 1)) fun _ =>
  z_bd (z_pf ((some a0)) 9 6 (.int 1)) fun _ =>
  z_ret ()
def F_X10_shape_26 (a0 : Nat)  : zMn Int32 :=
  z_ret ((-1))
def F_X10_shape (a0 : Nat) (p0 : Int32) (p1 : Int32) (p2 : Int32) (p3 : Int32) (p4 : Int32) : zMn Int32 :=
  z_bd (F_X10_isShape p0) fun x1 =>
  if x1 = 0 then (F_X10_shape_26 a0) else
  (z_bd (z_ga ((some a0)) 10 2) fun r3 =>
  z_bd (z_la r3 p0) fun r4 =>
  z_bd (z_rc ((some a0)) 10) fun b6 => z_bd (F_X10_setShape b6 r4 p1 p2 p3 p4) fun x5 =>
  if x5 = 0 then (F_X10_shape_26 a0) else
  (z_bd (z_ga ((some a0)) 10 4) fun r8 =>
  z_bd (z_rc r8 9) fun b9 => z_bd (F_X9_noteShapes b9) fun _ =>
  z_ret 1))
def F_X10_ways_53 (a0 : Nat) (s_0 : Int32) : zMn Int32 :=
  z_ret s_0
def F_X10_ways_15 (a0 : Nat)  : zMn Int32 :=
  z_ret ((-1))
def F_X10_ways (a0 : Nat) (p0 : Int32) (p1 : Int32) : zMn Int32 :=
  z_bd (F_X10_isNode p0) fun x1 =>
  if x1 = 0 then (F_X10_ways_15 a0) else
  (z_bd (z_rc ((some a0)) 10) fun b4 => z_bd (F_X10_isBare b4 p1) fun x3 =>
  if x3 = 0 then (F_X10_ways_15 a0) else
  (z_bd (z_ga ((some a0)) 10 4) fun r6 =>
  z_bd (z_rc r6 9) fun b8 => z_bd (F_X9_settled b8) fun x7 =>
  if x7 = 0 then (F_X10_ways_53 a0 ((-3))) else
  (z_bd (z_ga ((some a0)) 10 3) fun r10 =>
  z_bd (z_ga ((some a0)) 10 2) fun r11 =>
  z_bd (z_la r11 p1) fun r12 =>
  z_bd (z_ga ((some a0)) 10 4) fun r13 =>
  z_bd (z_ga r13 9 3) fun r14 =>
  z_bd (z_rc r10 6) fun b16 => z_bd (F_X6_countWays b16 p0 r12 r14) fun x15 =>
  F_X10_ways_53 a0 x15)))
def F_X10_wrong (a0 : Nat) : zMn Int32 :=
  z_bd (z_ga ((some a0)) 10 4) fun r1 =>
  z_bd (z_rc r1 9) fun b3 => z_bd (F_X9_leastWrong b3) fun x2 =>
  z_ret x2
