/-! THE LAW's BODY. wsLt: its words, and the class that other's handler names -/
def wsLt : List Cond := wsL_law ++ [Cond.classLink RL 13 RJx00060]
theorem gLt {a : List Cond} (h : GoodIn wsL_law a) : GoodIn wsLt a := fun w hw => ⟨List.mem_append_left _ (h w hw).1, (h w hw).2⟩
theorem gLt_Lo : GoodIn wsLt wsLo := goodIn_app (gLt ggL_law_L_other) (fun w hw => by
  rw [List.mem_singleton] at hw
  subst hw
  exact ⟨List.mem_append_right _ (List.mem_singleton.mpr rfl), good_of_word rfl⟩)
theorem wsLt_in : ∀ w ∈ wsLt, w ∈ lw_tbl := List.forall_mem_append.mpr ⟨wsL_law_in, by decide +kernel⟩
/-- the law's answer: 1, or the claim is not so -/
def z_one (x : Int32) : zMn Int32 := if x = 1 then z_ret x else z_no
section ZL
variable {p : Program} {l : Launch} {e : Env} {s : State} {m : MethodId} {below : List Frame} {meth : Method} {c : Code} {E : zE} {own : String} {Ts : List Cond} {M0 : zM} {M : zM} {pc : Nat} {lv : List (Nat × zV)} {b : Nat}
theorem s_one {fin : Int32 × zM} (X : z_X p room_1 s m #[Value.ref b] meth c E code 7 own Ts 11 406 M0 fin.2) (hE : E.2.1 = s.heap.size) (hr : meth.sig.returnType = ret) {x : Int32} (hd : decode code pc = .ok (.ireturn, 1)) : z_S p l e room_1 s m #[Value.ref b] below meth c (lw_Z below #[Value.ref b] s) E 7 M0 fin M pc lv [zi x] (z_one x) := by
  intro hF H locs ls h1 h2 h3 h5
  unfold z_one at hF
  split at hF
  · rename_i hx
    subst hx
    cases hF
    refine va_forget (fun q hq => by rw [← hE]; exact h2.2.2 q hq) (W.widen (k := 600002) (n := 7302232) X.2.2.2.2.1 X.2.2.2.2.2.1 ?_)
    exact lw_ret X.1.1 X.1.2.1 hr X.2.2.2.2.2.2 hd
  · cases hF
end ZL
theorem z_lt32 {j : Nat} (h : j < 32) : j = 0 ∨ j = 1 ∨ j = 2 ∨ j = 3 ∨ j = 4 ∨ j = 5 ∨ j = 6 ∨ j = 7 ∨ j = 8 ∨ j = 9 ∨ j = 10 ∨ j = 11 ∨ j = 12 ∨ j = 13 ∨ j = 14 ∨ j = 15 ∨ j = 16 ∨ j = 17 ∨ j = 18 ∨ j = 19 ∨ j = 20 ∨ j = 21 ∨ j = 22 ∨ j = 23 ∨ j = 24 ∨ j = 25 ∨ j = 26 ∨ j = 27 ∨ j = 28 ∨ j = 29 ∨ j = 30 ∨ j = 31 := by omega
def F_L_law_565 (ih23 : Option Nat → Option Nat → Option Nat → Option Nat → Int32 → zMn Int32) (r_0 : Option Nat) (r_1 : Option Nat) (r_2 : Option Nat) (r_3 : Option Nat) (x_4 : Int32) : zMn Int32 :=
  ih23 r_0 r_1 r_2 r_3 (x_4 + 6)
def F_L_law_562 (ih23 : Option Nat → Option Nat → Option Nat → Option Nat → Int32 → zMn Int32) (r_0 : Option Nat) (r_1 : Option Nat) (r_2 : Option Nat) (r_3 : Option Nat) (x_4 : Int32) : zMn Int32 :=
  F_L_law_565 ih23 r_0 r_1 r_2 r_3 x_4
def F_L_law_523 (ih23 : Option Nat → Option Nat → Option Nat → Option Nat → Int32 → zMn Int32) (r_0 : Option Nat) (r_1 : Option Nat) (r_2 : Option Nat) (r_3 : Option Nat) (x_4 : Int32) (x_5 : Int32) (t_0 : Option Nat) (s_1 : Int32) (s_2 : Int32) : zMn Int32 :=
  z_bd (z_li r_0 (x_4 + 3)) fun x102 =>
  z_bd (z_rc t_0 11) fun b104 => z_bd (F_X11_other b104 s_1 s_2 x102) fun x103 =>
  z_bd (z_rc r_2 11) fun b106 => z_bd (F_X11_thrown b106) fun x105 =>
  if x105 = x_5 then (if x_5 = 0 then (z_bd (z_ll r_3 0) fun w109 =>
  if (lg_cmp w109 ((x103 : Int32).toInt64)) = 0 then (F_L_law_562 ih23 r_0 r_1 r_2 r_3 x_4) else
  (z_one 0)) else
  (F_L_law_562 ih23 r_0 r_1 r_2 r_3 x_4)) else
  (z_one 0)
def F_L_law_490 (ih23 : Option Nat → Option Nat → Option Nat → Option Nat → Int32 → zMn Int32) (r_0 : Option Nat) (r_1 : Option Nat) (r_2 : Option Nat) (r_3 : Option Nat) (x_4 : Int32) (t_0 : Option Nat) (s_1 : Int32) (s_2 : Int32) : zMn Int32 :=
  z_bd (z_li r_0 (x_4 + 3)) fun x97 =>
  z_bd (F_L_other t_0 s_1 s_2 x97 r_3) fun x98 =>
  z_bd (z_li r_0 (x_4 + 1)) fun x99 =>
  z_bd (z_li r_0 (x_4 + 2)) fun x100 =>
  if x100 = 0 then (F_L_law_523 ih23 r_0 r_1 r_2 r_3 x_4 x98 r_2 x99 0) else
  (F_L_law_523 ih23 r_0 r_1 r_2 r_3 x_4 x98 r_2 x99 1)
def F_L_law_165 (ih23 : Option Nat → Option Nat → Option Nat → Option Nat → Int32 → zMn Int32) (r_0 : Option Nat) (r_1 : Option Nat) (r_2 : Option Nat) (r_3 : Option Nat) (x_4 : Int32) (s_0 : Int32) (t_1 : Option Nat) (s_2 : Int32) (s_3 : Int32) (s_4 : Int32) (s_5 : Int32) : zMn Int32 :=
  z_bd (z_rc t_1 11) fun b119 => z_bd (F_X11_arc b119 s_2 s_3 s_4 s_5) fun x118 =>
  if s_0 = x118 then (F_L_law_565 ih23 r_0 r_1 r_2 r_3 x_4) else
  (z_one 0)
def F_L_law_129 (ih23 : Option Nat → Option Nat → Option Nat → Option Nat → Int32 → zMn Int32) (r_0 : Option Nat) (r_1 : Option Nat) (r_2 : Option Nat) (r_3 : Option Nat) (x_4 : Int32) (t_0 : Option Nat) (s_1 : Int32) (s_2 : Int32) (s_3 : Int32) (s_4 : Int32) : zMn Int32 :=
  z_bd (z_rc t_0 10) fun b112 => z_bd (F_X10_arc b112 s_1 s_2 s_3 s_4) fun x111 =>
  z_bd (z_li r_0 (x_4 + 1)) fun x113 =>
  z_bd (z_li r_0 (x_4 + 2)) fun x114 =>
  z_bd (z_li r_0 (x_4 + 3)) fun x115 =>
  z_bd (z_li r_0 (x_4 + 4)) fun x116 =>
  if x116 = 0 then (F_L_law_165 ih23 r_0 r_1 r_2 r_3 x_4 x111 r_2 x113 x114 x115 0) else
  (F_L_law_165 ih23 r_0 r_1 r_2 r_3 x_4 x111 r_2 x113 x114 x115 1)
def B_L_law_23 (ih23 : Option Nat → Option Nat → Option Nat → Option Nat → Int32 → zMn Int32) (r_0 : Option Nat) (r_1 : Option Nat) (r_2 : Option Nat) (r_3 : Option Nat) (x_4 : Int32) : zMn Int32 :=
  z_bd (z_len r_0) fun n4 =>
  if (n4 - 6) < x_4 then (z_one 1) else
  (z_bd (z_li r_0 x_4) fun x6 =>
  if (x6 &&& 15) = 0 then (z_bd (z_li r_0 (x_4 + 1)) fun x8 =>
  z_bd (z_li r_0 (x_4 + 2)) fun x9 =>
  z_bd (z_li r_0 (x_4 + 3)) fun x10 =>
  z_bd (z_li r_0 (x_4 + 4)) fun x11 =>
  if x11 = 0 then (F_L_law_129 ih23 r_0 r_1 r_2 r_3 x_4 r_1 x8 x9 x10 0) else
  (F_L_law_129 ih23 r_0 r_1 r_2 r_3 x_4 r_1 x8 x9 x10 1)) else
  (if (x6 &&& 15) = 1 then (z_bd (z_li r_0 (x_4 + 1)) fun x14 =>
  z_bd (z_li r_0 (x_4 + 2)) fun x15 =>
  z_bd (z_li r_0 (x_4 + 3)) fun x16 =>
  z_bd (z_li r_0 (x_4 + 4)) fun x17 =>
  z_bd (z_rc r_1 10) fun b19 => z_bd (F_X10_expression b19 x14 x15 x16 x17) fun x18 =>
  z_bd (z_li r_0 (x_4 + 1)) fun x20 =>
  z_bd (z_li r_0 (x_4 + 2)) fun x21 =>
  z_bd (z_li r_0 (x_4 + 3)) fun x22 =>
  z_bd (z_li r_0 (x_4 + 4)) fun x23 =>
  z_bd (z_rc r_2 11) fun b25 => z_bd (F_X11_expression b25 x20 x21 x22 x23) fun x24 =>
  if x18 = x24 then (F_L_law_565 ih23 r_0 r_1 r_2 r_3 x_4) else
  (z_one 0)) else
  (if (x6 &&& 15) = 2 then (z_bd (z_li r_0 (x_4 + 1)) fun x28 =>
  z_bd (z_li r_0 (x_4 + 2)) fun x29 =>
  z_bd (z_li r_0 (x_4 + 3)) fun x30 =>
  z_bd (z_li r_0 (x_4 + 4)) fun x31 =>
  z_bd (z_li r_0 (x_4 + 5)) fun x32 =>
  z_bd (z_rc r_1 10) fun b34 => z_bd (F_X10_shape b34 x28 x29 x30 x31 x32) fun x33 =>
  z_bd (z_li r_0 (x_4 + 1)) fun x35 =>
  z_bd (z_li r_0 (x_4 + 2)) fun x36 =>
  z_bd (z_li r_0 (x_4 + 3)) fun x37 =>
  z_bd (z_li r_0 (x_4 + 4)) fun x38 =>
  z_bd (z_li r_0 (x_4 + 5)) fun x39 =>
  z_bd (z_rc r_2 11) fun b41 => z_bd (F_X11_shape b41 x35 x36 x37 x38 x39) fun x40 =>
  if x33 = x40 then (F_L_law_565 ih23 r_0 r_1 r_2 r_3 x_4) else
  (z_one 0)) else
  (if (x6 &&& 15) = 3 then (z_bd (z_li r_0 (x_4 + 1)) fun x44 =>
  z_bd (z_li r_0 (x_4 + 2)) fun x45 =>
  z_bd (z_rc r_1 10) fun b47 => z_bd (F_X10_has b47 x44 x45) fun x46 =>
  z_bd (z_li r_0 (x_4 + 1)) fun x48 =>
  z_bd (z_li r_0 (x_4 + 2)) fun x49 =>
  z_bd (z_rc r_2 11) fun b51 => z_bd (F_X11_has b51 x48 x49) fun x50 =>
  if x46 = x50 then (F_L_law_565 ih23 r_0 r_1 r_2 r_3 x_4) else
  (z_one 0)) else
  (if (x6 &&& 15) = 4 then (z_bd (z_li r_0 (x_4 + 1)) fun x54 =>
  z_bd (z_rc r_1 10) fun b56 => z_bd (F_X10_nodes b56 x54) fun x55 =>
  z_bd (z_li r_0 (x_4 + 1)) fun x57 =>
  z_bd (z_rc r_2 11) fun b59 => z_bd (F_X11_nodes b59 x57) fun x58 =>
  if x55 = x58 then (F_L_law_565 ih23 r_0 r_1 r_2 r_3 x_4) else
  (z_one 0)) else
  (if (x6 &&& 15) = 5 then (z_bd (z_rc r_1 10) fun b63 => z_bd (F_X10_wrong b63) fun x62 =>
  z_bd (z_rc r_2 11) fun b65 => z_bd (F_X11_wrong b65) fun x64 =>
  if x62 = x64 then (F_L_law_565 ih23 r_0 r_1 r_2 r_3 x_4) else
  (z_one 0)) else
  (if (x6 &&& 15) = 6 then (z_bd (z_li r_0 (x_4 + 1)) fun x68 =>
  z_bd (z_li r_0 (x_4 + 2)) fun x69 =>
  z_bd (z_rc r_1 10) fun b71 => z_bd (F_X10_loose b71 x68 x69) fun x70 =>
  z_bd (z_li r_0 (x_4 + 1)) fun x72 =>
  z_bd (z_li r_0 (x_4 + 2)) fun x73 =>
  z_bd (z_rc r_2 11) fun b75 => z_bd (F_X11_loose b75 x72 x73) fun x74 =>
  if x70 = x74 then (F_L_law_565 ih23 r_0 r_1 r_2 r_3 x_4) else
  (z_one 0)) else
  (if (x6 &&& 15) = 7 then (z_bd (z_li r_0 (x_4 + 1)) fun x78 =>
  z_bd (z_li r_0 (x_4 + 2)) fun x79 =>
  z_bd (z_rc r_1 10) fun b81 => z_bd (F_X10_ways b81 x78 x79) fun x80 =>
  z_bd (z_li r_0 (x_4 + 1)) fun x82 =>
  z_bd (z_li r_0 (x_4 + 2)) fun x83 =>
  z_bd (z_rc r_2 11) fun b85 => z_bd (F_X11_ways b85 x82 x83) fun x84 =>
  if x80 = x84 then (F_L_law_565 ih23 r_0 r_1 r_2 r_3 x_4) else
  (z_one 0)) else
  (if (x6 &&& 15) = 8 then (z_bd (z_rc r_1 10) fun b89 => z_bd (F_X10_arcs b89) fun x88 =>
  z_bd (z_rc r_2 11) fun b91 => z_bd (F_X11_arcs b91) fun x90 =>
  if x88 = x90 then (F_L_law_565 ih23 r_0 r_1 r_2 r_3 x_4) else
  (z_one 0)) else
  (if (x6 &&& 15) = 9 then (z_bd (z_li r_0 (x_4 + 1)) fun x94 =>
  z_bd (z_li r_0 (x_4 + 2)) fun x95 =>
  if x95 = 0 then (F_L_law_490 ih23 r_0 r_1 r_2 r_3 x_4 r_1 x94 0) else
  (F_L_law_490 ih23 r_0 r_1 r_2 r_3 x_4 r_1 x94 1)) else
  (F_L_law_565 ih23 r_0 r_1 r_2 r_3 x_4)))))))))))
def F_L_law_23 : Nat → (Option Nat) × (Option Nat) × (Option Nat) × (Option Nat) × Int32 → zMn Int32 := z_fix fun ih s => B_L_law_23 (fun y0 y1 y2 y3 y4 => ih (y0, y1, y2, y3, y4)) s.1 s.2.1 s.2.2.1 s.2.2.2.1 s.2.2.2.2
def F_L_law (q0 : Option Nat) : zMn Int32 :=
  z_bd (z_nw (.inr (10, [.null, .null, .null, .null, .null]))) fun a1 =>
  z_bd (F_X10_init a1) fun _ =>
  z_bd (z_nw (.inr (11, [.null, .int 0, .null, .null, .null, .null, .int 0, .null, .null, .null, .null, .null, .int 0, .int 0, .null, .null, .int 0, .null, .null, .null, .null, .int 0, .int 0, .null, .null, .null, .null, .null, .null, .null, .null, .null]))) fun a2 =>
  z_bd (F_X11_init a2) fun _ =>
  z_bd (z_nwa 3 (.long 0) 1) fun a3 =>
  F_L_law_23 z_N (q0, (some a1), (some a2), (some a3), 0)
set_option maxHeartbeats 4000000 in
set_option maxRecDepth 100000 in
theorem w_L_law (l : Launch) (htr : l.stackTraces = false) (E : zE) (q0 : Option Nat) {p : Program} {e : Env} {s0 : State} {m : MethodId} {below : List Frame} {meth : Method} {c : Code} {b : Nat} {M0 : zM} {fin : Int32 × zM} (X : z_X p room_1 s0 m #[Value.ref b] meth c E cL_law 7 RL wsLt 11 406 M0 fin.2) (hE : E.2.1 = s0.heap.size) (hr : meth.sig.returnType = ret) : z_S p l e room_1 s0 m #[Value.ref b] below meth c (lw_Z below #[Value.ref b] s0) E 7 M0 fin M0 0 [(0, za q0)] [] (F_L_law q0) := by
  have hiX10 : ∀ w ∈ u_ws RX10 TX10 5, w ∈ wsLt := fun w h => List.mem_append_left _ (inlX10 w h)
  have hiX11 : ∀ w ∈ u_ws RX11 TX11 32, w ∈ wsLt := fun w h => List.mem_append_left _ (inlX11 w h)
  have L23 : ∀ (n : Nat) (s : (Option Nat) × (Option Nat) × (Option Nat) × (Option Nat) × Int32) (M : zM), z_S p l e room_1 s0 m #[Value.ref b] below meth c (lw_Z below #[Value.ref b] s0) E 7 M0 fin M 23 [(0, za s.1), (1, za s.2.1), (2, za s.2.2.1), (3, za s.2.2.2.1), (4, zi s.2.2.2.2)] [] (F_L_law_23 n s) := by
    refine s_fix ?_
    intro ih23_ hih23
    have J565 : ∀ (r_0 : Option Nat) (r_1 : Option Nat) (r_2 : Option Nat) (r_3 : Option Nat) (x_4 : Int32) (M : zM), z_S p l e room_1 s0 m #[Value.ref b] below meth c (lw_Z below #[Value.ref b] s0) E 7 M0 fin M 565 [(0, za r_0), (1, za r_1), (2, za r_2), (3, za r_3), (4, zi x_4)] [] (F_L_law_565 (fun y0 y1 y2 y3 y4 => ih23_ (y0, y1, y2, y3, y4)) r_0 r_1 r_2 r_3 x_4) := by
      intro r_0 r_1 r_2 r_3 x_4 M
      refine s_iinc X 6 dL_law_565 4 rfl (by decide) (by decide) [(4, zi (x_4 + 6)), (0, za r_0), (1, za r_1), (2, za r_2), (3, za r_3)] rfl ?_
      refine s_goto X 23 dL_law_568 (by decide) ?_
      refine s_lv [(0, za r_0), (1, za r_1), (2, za r_2), (3, za r_3), (4, zi (x_4 + 6))] [1, 2, 3, 4, 0] rfl ?_
      exact hih23 (r_0, r_1, r_2, r_3, x_4 + 6) _
    have J562 : ∀ (r_0 : Option Nat) (r_1 : Option Nat) (r_2 : Option Nat) (r_3 : Option Nat) (x_4 : Int32) (M : zM), z_S p l e room_1 s0 m #[Value.ref b] below meth c (lw_Z below #[Value.ref b] s0) E 7 M0 fin M 562 [(0, za r_0), (1, za r_1), (2, za r_2), (3, za r_3), (4, zi x_4)] [] (F_L_law_562 (fun y0 y1 y2 y3 y4 => ih23_ (y0, y1, y2, y3, y4)) r_0 r_1 r_2 r_3 x_4) := by
      intro r_0 r_1 r_2 r_3 x_4 M
      refine s_goto X 565 dL_law_562 (by decide) ?_
      exact J565 r_0 r_1 r_2 r_3 x_4 _
    have J523 : ∀ (r_0 : Option Nat) (r_1 : Option Nat) (r_2 : Option Nat) (r_3 : Option Nat) (x_4 : Int32) (x_5 : Int32) (t_0 : Option Nat) (s_1 : Int32) (s_2 : Int32) (M : zM), z_S p l e room_1 s0 m #[Value.ref b] below meth c (lw_Z below #[Value.ref b] s0) E 7 M0 fin M 523 [(0, za r_0), (1, za r_1), (2, za r_2), (3, za r_3), (4, zi x_4), (5, zi x_5)] [zi s_2, zi s_1, za t_0] (F_L_law_523 (fun y0 y1 y2 y3 y4 => ih23_ (y0, y1, y2, y3, y4)) r_0 r_1 r_2 r_3 x_4 x_5 t_0 s_1 s_2) := by
      intro r_0 r_1 r_2 r_3 x_4 x_5 t_0 s_1 s_2 M
      refine s_aload_n X dL_law_523 0 rfl ?_
      refine s_iload X dL_law_524 4 rfl ?_
      refine s_iconst X 3 dL_law_526 (by decide) ?_
      refine s_iadd X dL_law_527 ?_
      refine s_li X dL_law_528 (fun x102 => ?_)
      refine s_callV (ci := 11) (C := RX11) (As := [zi s_1, zi s_2, zi x102]) (st := []) X (fun a => c_X11_other l E a s_1 s_2 x102) (gLt gL_law_X11_other) rfl hy_X11_other rfl rfl rfl rfl (Nat.le_of_ble_eq_true rfl) (by decide) dL_law_529 (fun x103 M => ?_)
      refine s_istore X dL_law_532 (by decide) [(6, zi x103), (0, za r_0), (1, za r_1), (2, za r_2), (3, za r_3), (4, zi x_4), (5, zi x_5)] rfl ?_
      refine s_aload_n X dL_law_534 3 rfl ?_
      refine s_callV (ci := 11) (C := RX11) (As := []) (st := []) X (fun a => c_X11_thrown l E a) (gLt gL_law_X11_thrown) rfl hy_X11_thrown rfl rfl rfl rfl (Nat.le_of_ble_eq_true rfl) (by decide) dL_law_535 (fun x105 M => ?_)
      refine s_iload X dL_law_538 6 rfl ?_
      refine s_icmp_eq X 545 dL_law_540 (by decide) (fun h107 => ?_) (fun h107 => ?_)
      · refine s_iload X dL_law_545 6 rfl ?_
        refine s_if_ne X 562 dL_law_547 (by decide) (fun h108 => ?_) (fun h108 => ?_)
        · refine s_lv [(0, za r_0), (1, za r_1), (2, za r_2), (3, za r_3), (4, zi x_4)] [1, 2, 3, 4, 5] rfl ?_
          exact J562 r_0 r_1 r_2 r_3 x_4 _
        · refine s_aload_n X dL_law_550 4 rfl ?_
          refine s_iconst X 0 dL_law_551 (by decide) ?_
          refine s_ll X dL_law_552 (fun w109 => ?_)
          refine s_iload X dL_law_553 0 rfl ?_
          refine s_i2l X dL_law_555 ?_
          refine s_lcmp X dL_law_556 ?_
          refine s_if_eq X 562 dL_law_557 (by decide) (fun h110 => ?_) (fun h110 => ?_)
          · refine s_lv [(0, za r_0), (1, za r_1), (2, za r_2), (3, za r_3), (4, zi x_4)] [1, 2, 3, 4, 5] rfl ?_
            exact J562 r_0 r_1 r_2 r_3 x_4 _
          · refine s_iconst X 0 dL_law_560 (by decide) ?_
            exact s_one X hE hr dL_law_561
      · refine s_iconst X 0 dL_law_543 (by decide) ?_
        exact s_one X hE hr dL_law_544
    have J490 : ∀ (r_0 : Option Nat) (r_1 : Option Nat) (r_2 : Option Nat) (r_3 : Option Nat) (x_4 : Int32) (t_0 : Option Nat) (s_1 : Int32) (s_2 : Int32) (M : zM), z_S p l e room_1 s0 m #[Value.ref b] below meth c (lw_Z below #[Value.ref b] s0) E 7 M0 fin M 490 [(0, za r_0), (1, za r_1), (2, za r_2), (3, za r_3), (4, zi x_4)] [zi s_2, zi s_1, za t_0] (F_L_law_490 (fun y0 y1 y2 y3 y4 => ih23_ (y0, y1, y2, y3, y4)) r_0 r_1 r_2 r_3 x_4 t_0 s_1 s_2) := by
      intro r_0 r_1 r_2 r_3 x_4 t_0 s_1 s_2 M
      refine s_aload_n X dL_law_490 0 rfl ?_
      refine s_iload X dL_law_491 4 rfl ?_
      refine s_iconst X 3 dL_law_493 (by decide) ?_
      refine s_iadd X dL_law_494 ?_
      refine s_li X dL_law_495 (fun x97 => ?_)
      refine s_aload_n X dL_law_496 3 rfl ?_
      refine s_callSW (As := [za t_0, zi s_1, zi s_2, zi x97, za r_3]) (st := []) X (c_L_other l htr E t_0 s_1 s_2 x97 r_3) gLt_Lo rfl (by decide +kernel) (by decide +kernel) (by decide +kernel) hy_L_other rfl rfl (Nat.le_of_ble_eq_true rfl) (by decide) dL_law_497 (fun x98 M => ?_)
      refine s_istore X dL_law_500 (by decide) [(5, zi x98), (0, za r_0), (1, za r_1), (2, za r_2), (3, za r_3), (4, zi x_4)] rfl ?_
      refine s_aload_n X dL_law_502 3 rfl ?_
      refine s_aload_n X dL_law_503 1 rfl ?_
      refine s_iload X dL_law_504 5 rfl ?_
      refine s_iconst X 1 dL_law_506 (by decide) ?_
      refine s_iadd X dL_law_507 ?_
      refine s_li X dL_law_508 (fun x99 => ?_)
      refine s_aload_n X dL_law_509 1 rfl ?_
      refine s_iload X dL_law_510 5 rfl ?_
      refine s_iconst X 2 dL_law_512 (by decide) ?_
      refine s_iadd X dL_law_513 ?_
      refine s_li X dL_law_514 (fun x100 => ?_)
      refine s_if_eq X 522 dL_law_515 (by decide) (fun h101 => ?_) (fun h101 => ?_)
      · refine s_iconst X 0 dL_law_522 (by decide) ?_
        refine s_lv [(0, za r_0), (1, za r_1), (2, za r_2), (3, za r_3), (4, zi x_4), (5, zi x98)] [1, 2, 3, 4, 5, 0] rfl ?_
        exact J523 r_0 r_1 r_2 r_3 x_4 x98 r_2 x99 0 _
      · refine s_iconst X 1 dL_law_518 (by decide) ?_
        refine s_goto X 523 dL_law_519 (by decide) ?_
        refine s_lv [(0, za r_0), (1, za r_1), (2, za r_2), (3, za r_3), (4, zi x_4), (5, zi x98)] [1, 2, 3, 4, 5, 0] rfl ?_
        exact J523 r_0 r_1 r_2 r_3 x_4 x98 r_2 x99 1 _
    have J165 : ∀ (r_0 : Option Nat) (r_1 : Option Nat) (r_2 : Option Nat) (r_3 : Option Nat) (x_4 : Int32) (s_0 : Int32) (t_1 : Option Nat) (s_2 : Int32) (s_3 : Int32) (s_4 : Int32) (s_5 : Int32) (M : zM), z_S p l e room_1 s0 m #[Value.ref b] below meth c (lw_Z below #[Value.ref b] s0) E 7 M0 fin M 165 [(0, za r_0), (1, za r_1), (2, za r_2), (3, za r_3), (4, zi x_4)] [zi s_5, zi s_4, zi s_3, zi s_2, za t_1, zi s_0] (F_L_law_165 (fun y0 y1 y2 y3 y4 => ih23_ (y0, y1, y2, y3, y4)) r_0 r_1 r_2 r_3 x_4 s_0 t_1 s_2 s_3 s_4 s_5) := by
      intro r_0 r_1 r_2 r_3 x_4 s_0 t_1 s_2 s_3 s_4 s_5 M
      refine s_callV (ci := 11) (C := RX11) (As := [zi s_2, zi s_3, zi s_4, zi s_5]) (st := [zi s_0]) X (fun a => c_X11_arc l E a s_2 s_3 s_4 s_5) (gLt gL_law_X11_arc) rfl hy_X11_arc rfl rfl rfl rfl (Nat.le_of_ble_eq_true rfl) (by decide) dL_law_165 (fun x118 M => ?_)
      refine s_icmp_eq X 565 dL_law_168 (by decide) (fun h120 => ?_) (fun h120 => ?_)
      · exact J565 r_0 r_1 r_2 r_3 x_4 _
      · refine s_iconst X 0 dL_law_171 (by decide) ?_
        exact s_one X hE hr dL_law_172
    have J129 : ∀ (r_0 : Option Nat) (r_1 : Option Nat) (r_2 : Option Nat) (r_3 : Option Nat) (x_4 : Int32) (t_0 : Option Nat) (s_1 : Int32) (s_2 : Int32) (s_3 : Int32) (s_4 : Int32) (M : zM), z_S p l e room_1 s0 m #[Value.ref b] below meth c (lw_Z below #[Value.ref b] s0) E 7 M0 fin M 129 [(0, za r_0), (1, za r_1), (2, za r_2), (3, za r_3), (4, zi x_4)] [zi s_4, zi s_3, zi s_2, zi s_1, za t_0] (F_L_law_129 (fun y0 y1 y2 y3 y4 => ih23_ (y0, y1, y2, y3, y4)) r_0 r_1 r_2 r_3 x_4 t_0 s_1 s_2 s_3 s_4) := by
      intro r_0 r_1 r_2 r_3 x_4 t_0 s_1 s_2 s_3 s_4 M
      refine s_callV (ci := 10) (C := RX10) (As := [zi s_1, zi s_2, zi s_3, zi s_4]) (st := []) X (fun a => c_X10_arc l E a s_1 s_2 s_3 s_4) (gLt gL_law_X10_arc) rfl hy_X10_arc rfl rfl rfl rfl (Nat.le_of_ble_eq_true rfl) (by decide) dL_law_129 (fun x111 M => ?_)
      refine s_aload_n X dL_law_132 2 rfl ?_
      refine s_aload_n X dL_law_133 0 rfl ?_
      refine s_iload X dL_law_134 4 rfl ?_
      refine s_iconst X 1 dL_law_136 (by decide) ?_
      refine s_iadd X dL_law_137 ?_
      refine s_li X dL_law_138 (fun x113 => ?_)
      refine s_aload_n X dL_law_139 0 rfl ?_
      refine s_iload X dL_law_140 4 rfl ?_
      refine s_iconst X 2 dL_law_142 (by decide) ?_
      refine s_iadd X dL_law_143 ?_
      refine s_li X dL_law_144 (fun x114 => ?_)
      refine s_aload_n X dL_law_145 0 rfl ?_
      refine s_iload X dL_law_146 4 rfl ?_
      refine s_iconst X 3 dL_law_148 (by decide) ?_
      refine s_iadd X dL_law_149 ?_
      refine s_li X dL_law_150 (fun x115 => ?_)
      refine s_aload_n X dL_law_151 0 rfl ?_
      refine s_iload X dL_law_152 4 rfl ?_
      refine s_iconst X 4 dL_law_154 (by decide) ?_
      refine s_iadd X dL_law_155 ?_
      refine s_li X dL_law_156 (fun x116 => ?_)
      refine s_if_eq X 164 dL_law_157 (by decide) (fun h117 => ?_) (fun h117 => ?_)
      · refine s_iconst X 0 dL_law_164 (by decide) ?_
        exact J165 r_0 r_1 r_2 r_3 x_4 x111 r_2 x113 x114 x115 0 _
      · refine s_iconst X 1 dL_law_160 (by decide) ?_
        refine s_goto X 165 dL_law_161 (by decide) ?_
        exact J165 r_0 r_1 r_2 r_3 x_4 x111 r_2 x113 x114 x115 1 _
    rintro ⟨r_0, r_1, r_2, r_3, x_4⟩ M
    refine s_iload X dL_law_23 4 rfl ?_
    refine s_aload_n X dL_law_25 0 rfl ?_
    refine s_len X dL_law_26 (fun n4 => ?_)
    refine s_bipush X 6 dL_law_27 (by decide) ?_
    refine s_isub X dL_law_29 ?_
    refine s_icmp_gt X 571 dL_law_30 (by decide) (fun h5 => ?_) (fun h5 => ?_)
    · refine s_iconst X 1 dL_law_571 (by decide) ?_
      exact s_one X hE hr dL_law_572
    · refine s_aload_n X dL_law_33 0 rfl ?_
      refine s_iload X dL_law_34 4 rfl ?_
      refine s_li X dL_law_36 (fun x6 => ?_)
      refine s_bipush X 15 dL_law_37 (by decide) ?_
      refine s_iand X dL_law_39 ?_
      refine s_by (fun h7 => ?_) (fun h7 => ?_)
      · refine s_tabIn X 0 96 h7 dL_law_40 (by decide) (by decide) (by decide) trivial ?_
        refine s_aload_n X dL_law_96 1 rfl ?_
        refine s_aload_n X dL_law_97 0 rfl ?_
        refine s_iload X dL_law_98 4 rfl ?_
        refine s_iconst X 1 dL_law_100 (by decide) ?_
        refine s_iadd X dL_law_101 ?_
        refine s_li X dL_law_102 (fun x8 => ?_)
        refine s_aload_n X dL_law_103 0 rfl ?_
        refine s_iload X dL_law_104 4 rfl ?_
        refine s_iconst X 2 dL_law_106 (by decide) ?_
        refine s_iadd X dL_law_107 ?_
        refine s_li X dL_law_108 (fun x9 => ?_)
        refine s_aload_n X dL_law_109 0 rfl ?_
        refine s_iload X dL_law_110 4 rfl ?_
        refine s_iconst X 3 dL_law_112 (by decide) ?_
        refine s_iadd X dL_law_113 ?_
        refine s_li X dL_law_114 (fun x10 => ?_)
        refine s_aload_n X dL_law_115 0 rfl ?_
        refine s_iload X dL_law_116 4 rfl ?_
        refine s_iconst X 4 dL_law_118 (by decide) ?_
        refine s_iadd X dL_law_119 ?_
        refine s_li X dL_law_120 (fun x11 => ?_)
        refine s_if_eq X 128 dL_law_121 (by decide) (fun h12 => ?_) (fun h12 => ?_)
        · refine s_iconst X 0 dL_law_128 (by decide) ?_
          exact J129 r_0 r_1 r_2 r_3 x_4 r_1 x8 x9 x10 0 _
        · refine s_iconst X 1 dL_law_124 (by decide) ?_
          refine s_goto X 129 dL_law_125 (by decide) ?_
          exact J129 r_0 r_1 r_2 r_3 x_4 r_1 x8 x9 x10 1 _
      · refine s_by (fun h13 => ?_) (fun h13 => ?_)
        · refine s_tabIn X 1 173 h13 dL_law_40 (by decide) (by decide) (by decide) trivial ?_
          refine s_aload_n X dL_law_173 1 rfl ?_
          refine s_aload_n X dL_law_174 0 rfl ?_
          refine s_iload X dL_law_175 4 rfl ?_
          refine s_iconst X 1 dL_law_177 (by decide) ?_
          refine s_iadd X dL_law_178 ?_
          refine s_li X dL_law_179 (fun x14 => ?_)
          refine s_aload_n X dL_law_180 0 rfl ?_
          refine s_iload X dL_law_181 4 rfl ?_
          refine s_iconst X 2 dL_law_183 (by decide) ?_
          refine s_iadd X dL_law_184 ?_
          refine s_li X dL_law_185 (fun x15 => ?_)
          refine s_aload_n X dL_law_186 0 rfl ?_
          refine s_iload X dL_law_187 4 rfl ?_
          refine s_iconst X 3 dL_law_189 (by decide) ?_
          refine s_iadd X dL_law_190 ?_
          refine s_li X dL_law_191 (fun x16 => ?_)
          refine s_aload_n X dL_law_192 0 rfl ?_
          refine s_iload X dL_law_193 4 rfl ?_
          refine s_iconst X 4 dL_law_195 (by decide) ?_
          refine s_iadd X dL_law_196 ?_
          refine s_li X dL_law_197 (fun x17 => ?_)
          refine s_callV (ci := 10) (C := RX10) (As := [zi x14, zi x15, zi x16, zi x17]) (st := []) X (fun a => c_X10_expression l E a x14 x15 x16 x17) (gLt gL_law_X10_expression) rfl hy_X10_expression rfl rfl rfl rfl (Nat.le_of_ble_eq_true rfl) (by decide) dL_law_198 (fun x18 M => ?_)
          refine s_aload_n X dL_law_201 2 rfl ?_
          refine s_aload_n X dL_law_202 0 rfl ?_
          refine s_iload X dL_law_203 4 rfl ?_
          refine s_iconst X 1 dL_law_205 (by decide) ?_
          refine s_iadd X dL_law_206 ?_
          refine s_li X dL_law_207 (fun x20 => ?_)
          refine s_aload_n X dL_law_208 0 rfl ?_
          refine s_iload X dL_law_209 4 rfl ?_
          refine s_iconst X 2 dL_law_211 (by decide) ?_
          refine s_iadd X dL_law_212 ?_
          refine s_li X dL_law_213 (fun x21 => ?_)
          refine s_aload_n X dL_law_214 0 rfl ?_
          refine s_iload X dL_law_215 4 rfl ?_
          refine s_iconst X 3 dL_law_217 (by decide) ?_
          refine s_iadd X dL_law_218 ?_
          refine s_li X dL_law_219 (fun x22 => ?_)
          refine s_aload_n X dL_law_220 0 rfl ?_
          refine s_iload X dL_law_221 4 rfl ?_
          refine s_iconst X 4 dL_law_223 (by decide) ?_
          refine s_iadd X dL_law_224 ?_
          refine s_li X dL_law_225 (fun x23 => ?_)
          refine s_callV (ci := 11) (C := RX11) (As := [zi x20, zi x21, zi x22, zi x23]) (st := [zi x18]) X (fun a => c_X11_expression l E a x20 x21 x22 x23) (gLt gL_law_X11_expression) rfl hy_X11_expression rfl rfl rfl rfl (Nat.le_of_ble_eq_true rfl) (by decide) dL_law_226 (fun x24 M => ?_)
          refine s_icmp_eq X 565 dL_law_229 (by decide) (fun h26 => ?_) (fun h26 => ?_)
          · exact J565 r_0 r_1 r_2 r_3 x_4 _
          · refine s_iconst X 0 dL_law_232 (by decide) ?_
            exact s_one X hE hr dL_law_233
        · refine s_by (fun h27 => ?_) (fun h27 => ?_)
          · refine s_tabIn X 2 234 h27 dL_law_40 (by decide) (by decide) (by decide) trivial ?_
            refine s_aload_n X dL_law_234 1 rfl ?_
            refine s_aload_n X dL_law_235 0 rfl ?_
            refine s_iload X dL_law_236 4 rfl ?_
            refine s_iconst X 1 dL_law_238 (by decide) ?_
            refine s_iadd X dL_law_239 ?_
            refine s_li X dL_law_240 (fun x28 => ?_)
            refine s_aload_n X dL_law_241 0 rfl ?_
            refine s_iload X dL_law_242 4 rfl ?_
            refine s_iconst X 2 dL_law_244 (by decide) ?_
            refine s_iadd X dL_law_245 ?_
            refine s_li X dL_law_246 (fun x29 => ?_)
            refine s_aload_n X dL_law_247 0 rfl ?_
            refine s_iload X dL_law_248 4 rfl ?_
            refine s_iconst X 3 dL_law_250 (by decide) ?_
            refine s_iadd X dL_law_251 ?_
            refine s_li X dL_law_252 (fun x30 => ?_)
            refine s_aload_n X dL_law_253 0 rfl ?_
            refine s_iload X dL_law_254 4 rfl ?_
            refine s_iconst X 4 dL_law_256 (by decide) ?_
            refine s_iadd X dL_law_257 ?_
            refine s_li X dL_law_258 (fun x31 => ?_)
            refine s_aload_n X dL_law_259 0 rfl ?_
            refine s_iload X dL_law_260 4 rfl ?_
            refine s_iconst X 5 dL_law_262 (by decide) ?_
            refine s_iadd X dL_law_263 ?_
            refine s_li X dL_law_264 (fun x32 => ?_)
            refine s_callV (ci := 10) (C := RX10) (As := [zi x28, zi x29, zi x30, zi x31, zi x32]) (st := []) X (fun a => c_X10_shape l E a x28 x29 x30 x31 x32) (gLt gL_law_X10_shape) rfl hy_X10_shape rfl rfl rfl rfl (Nat.le_of_ble_eq_true rfl) (by decide) dL_law_265 (fun x33 M => ?_)
            refine s_aload_n X dL_law_268 2 rfl ?_
            refine s_aload_n X dL_law_269 0 rfl ?_
            refine s_iload X dL_law_270 4 rfl ?_
            refine s_iconst X 1 dL_law_272 (by decide) ?_
            refine s_iadd X dL_law_273 ?_
            refine s_li X dL_law_274 (fun x35 => ?_)
            refine s_aload_n X dL_law_275 0 rfl ?_
            refine s_iload X dL_law_276 4 rfl ?_
            refine s_iconst X 2 dL_law_278 (by decide) ?_
            refine s_iadd X dL_law_279 ?_
            refine s_li X dL_law_280 (fun x36 => ?_)
            refine s_aload_n X dL_law_281 0 rfl ?_
            refine s_iload X dL_law_282 4 rfl ?_
            refine s_iconst X 3 dL_law_284 (by decide) ?_
            refine s_iadd X dL_law_285 ?_
            refine s_li X dL_law_286 (fun x37 => ?_)
            refine s_aload_n X dL_law_287 0 rfl ?_
            refine s_iload X dL_law_288 4 rfl ?_
            refine s_iconst X 4 dL_law_290 (by decide) ?_
            refine s_iadd X dL_law_291 ?_
            refine s_li X dL_law_292 (fun x38 => ?_)
            refine s_aload_n X dL_law_293 0 rfl ?_
            refine s_iload X dL_law_294 4 rfl ?_
            refine s_iconst X 5 dL_law_296 (by decide) ?_
            refine s_iadd X dL_law_297 ?_
            refine s_li X dL_law_298 (fun x39 => ?_)
            refine s_callV (ci := 11) (C := RX11) (As := [zi x35, zi x36, zi x37, zi x38, zi x39]) (st := [zi x33]) X (fun a => c_X11_shape l E a x35 x36 x37 x38 x39) (gLt gL_law_X11_shape) rfl hy_X11_shape rfl rfl rfl rfl (Nat.le_of_ble_eq_true rfl) (by decide) dL_law_299 (fun x40 M => ?_)
            refine s_icmp_eq X 565 dL_law_302 (by decide) (fun h42 => ?_) (fun h42 => ?_)
            · exact J565 r_0 r_1 r_2 r_3 x_4 _
            · refine s_iconst X 0 dL_law_305 (by decide) ?_
              exact s_one X hE hr dL_law_306
          · refine s_by (fun h43 => ?_) (fun h43 => ?_)
            · refine s_tabIn X 3 307 h43 dL_law_40 (by decide) (by decide) (by decide) trivial ?_
              refine s_aload_n X dL_law_307 1 rfl ?_
              refine s_aload_n X dL_law_308 0 rfl ?_
              refine s_iload X dL_law_309 4 rfl ?_
              refine s_iconst X 1 dL_law_311 (by decide) ?_
              refine s_iadd X dL_law_312 ?_
              refine s_li X dL_law_313 (fun x44 => ?_)
              refine s_aload_n X dL_law_314 0 rfl ?_
              refine s_iload X dL_law_315 4 rfl ?_
              refine s_iconst X 2 dL_law_317 (by decide) ?_
              refine s_iadd X dL_law_318 ?_
              refine s_li X dL_law_319 (fun x45 => ?_)
              refine s_callV (ci := 10) (C := RX10) (As := [zi x44, zi x45]) (st := []) X (fun a => c_X10_has l E a x44 x45) (gLt gL_law_X10_has) rfl hy_X10_has rfl rfl rfl rfl (Nat.le_of_ble_eq_true rfl) (by decide) dL_law_320 (fun x46 M => ?_)
              refine s_aload_n X dL_law_323 2 rfl ?_
              refine s_aload_n X dL_law_324 0 rfl ?_
              refine s_iload X dL_law_325 4 rfl ?_
              refine s_iconst X 1 dL_law_327 (by decide) ?_
              refine s_iadd X dL_law_328 ?_
              refine s_li X dL_law_329 (fun x48 => ?_)
              refine s_aload_n X dL_law_330 0 rfl ?_
              refine s_iload X dL_law_331 4 rfl ?_
              refine s_iconst X 2 dL_law_333 (by decide) ?_
              refine s_iadd X dL_law_334 ?_
              refine s_li X dL_law_335 (fun x49 => ?_)
              refine s_callV (ci := 11) (C := RX11) (As := [zi x48, zi x49]) (st := [zi x46]) X (fun a => c_X11_has l E a x48 x49) (gLt gL_law_X11_has) rfl hy_X11_has rfl rfl rfl rfl (Nat.le_of_ble_eq_true rfl) (by decide) dL_law_336 (fun x50 M => ?_)
              refine s_icmp_eq X 565 dL_law_339 (by decide) (fun h52 => ?_) (fun h52 => ?_)
              · exact J565 r_0 r_1 r_2 r_3 x_4 _
              · refine s_iconst X 0 dL_law_342 (by decide) ?_
                exact s_one X hE hr dL_law_343
            · refine s_by (fun h53 => ?_) (fun h53 => ?_)
              · refine s_tabIn X 4 344 h53 dL_law_40 (by decide) (by decide) (by decide) trivial ?_
                refine s_aload_n X dL_law_344 1 rfl ?_
                refine s_aload_n X dL_law_345 0 rfl ?_
                refine s_iload X dL_law_346 4 rfl ?_
                refine s_iconst X 1 dL_law_348 (by decide) ?_
                refine s_iadd X dL_law_349 ?_
                refine s_li X dL_law_350 (fun x54 => ?_)
                refine s_callV (ci := 10) (C := RX10) (As := [zi x54]) (st := []) X (fun a => c_X10_nodes l E a x54) (gLt gL_law_X10_nodes) rfl hy_X10_nodes rfl rfl rfl rfl (Nat.le_of_ble_eq_true rfl) (by decide) dL_law_351 (fun x55 M => ?_)
                refine s_aload_n X dL_law_354 2 rfl ?_
                refine s_aload_n X dL_law_355 0 rfl ?_
                refine s_iload X dL_law_356 4 rfl ?_
                refine s_iconst X 1 dL_law_358 (by decide) ?_
                refine s_iadd X dL_law_359 ?_
                refine s_li X dL_law_360 (fun x57 => ?_)
                refine s_callV (ci := 11) (C := RX11) (As := [zi x57]) (st := [zi x55]) X (fun a => c_X11_nodes l E a x57) (gLt gL_law_X11_nodes) rfl hy_X11_nodes rfl rfl rfl rfl (Nat.le_of_ble_eq_true rfl) (by decide) dL_law_361 (fun x58 M => ?_)
                refine s_icmp_eq X 565 dL_law_364 (by decide) (fun h60 => ?_) (fun h60 => ?_)
                · exact J565 r_0 r_1 r_2 r_3 x_4 _
                · refine s_iconst X 0 dL_law_367 (by decide) ?_
                  exact s_one X hE hr dL_law_368
              · refine s_by (fun h61 => ?_) (fun h61 => ?_)
                · refine s_tabIn X 5 369 h61 dL_law_40 (by decide) (by decide) (by decide) trivial ?_
                  refine s_aload_n X dL_law_369 1 rfl ?_
                  refine s_callV (ci := 10) (C := RX10) (As := []) (st := []) X (fun a => c_X10_wrong l E a) (gLt gL_law_X10_wrong) rfl hy_X10_wrong rfl rfl rfl rfl (Nat.le_of_ble_eq_true rfl) (by decide) dL_law_370 (fun x62 M => ?_)
                  refine s_aload_n X dL_law_373 2 rfl ?_
                  refine s_callV (ci := 11) (C := RX11) (As := []) (st := [zi x62]) X (fun a => c_X11_wrong l E a) (gLt gL_law_X11_wrong) rfl hy_X11_wrong rfl rfl rfl rfl (Nat.le_of_ble_eq_true rfl) (by decide) dL_law_374 (fun x64 M => ?_)
                  refine s_icmp_eq X 565 dL_law_377 (by decide) (fun h66 => ?_) (fun h66 => ?_)
                  · exact J565 r_0 r_1 r_2 r_3 x_4 _
                  · refine s_iconst X 0 dL_law_380 (by decide) ?_
                    exact s_one X hE hr dL_law_381
                · refine s_by (fun h67 => ?_) (fun h67 => ?_)
                  · refine s_tabIn X 6 382 h67 dL_law_40 (by decide) (by decide) (by decide) trivial ?_
                    refine s_aload_n X dL_law_382 1 rfl ?_
                    refine s_aload_n X dL_law_383 0 rfl ?_
                    refine s_iload X dL_law_384 4 rfl ?_
                    refine s_iconst X 1 dL_law_386 (by decide) ?_
                    refine s_iadd X dL_law_387 ?_
                    refine s_li X dL_law_388 (fun x68 => ?_)
                    refine s_aload_n X dL_law_389 0 rfl ?_
                    refine s_iload X dL_law_390 4 rfl ?_
                    refine s_iconst X 2 dL_law_392 (by decide) ?_
                    refine s_iadd X dL_law_393 ?_
                    refine s_li X dL_law_394 (fun x69 => ?_)
                    refine s_callV (ci := 10) (C := RX10) (As := [zi x68, zi x69]) (st := []) X (fun a => c_X10_loose l E a x68 x69) (gLt gL_law_X10_loose) rfl hy_X10_loose rfl rfl rfl rfl (Nat.le_of_ble_eq_true rfl) (by decide) dL_law_395 (fun x70 M => ?_)
                    refine s_aload_n X dL_law_398 2 rfl ?_
                    refine s_aload_n X dL_law_399 0 rfl ?_
                    refine s_iload X dL_law_400 4 rfl ?_
                    refine s_iconst X 1 dL_law_402 (by decide) ?_
                    refine s_iadd X dL_law_403 ?_
                    refine s_li X dL_law_404 (fun x72 => ?_)
                    refine s_aload_n X dL_law_405 0 rfl ?_
                    refine s_iload X dL_law_406 4 rfl ?_
                    refine s_iconst X 2 dL_law_408 (by decide) ?_
                    refine s_iadd X dL_law_409 ?_
                    refine s_li X dL_law_410 (fun x73 => ?_)
                    refine s_callV (ci := 11) (C := RX11) (As := [zi x72, zi x73]) (st := [zi x70]) X (fun a => c_X11_loose l E a x72 x73) (gLt gL_law_X11_loose) rfl hy_X11_loose rfl rfl rfl rfl (Nat.le_of_ble_eq_true rfl) (by decide) dL_law_411 (fun x74 M => ?_)
                    refine s_icmp_eq X 565 dL_law_414 (by decide) (fun h76 => ?_) (fun h76 => ?_)
                    · exact J565 r_0 r_1 r_2 r_3 x_4 _
                    · refine s_iconst X 0 dL_law_417 (by decide) ?_
                      exact s_one X hE hr dL_law_418
                  · refine s_by (fun h77 => ?_) (fun h77 => ?_)
                    · refine s_tabIn X 7 419 h77 dL_law_40 (by decide) (by decide) (by decide) trivial ?_
                      refine s_aload_n X dL_law_419 1 rfl ?_
                      refine s_aload_n X dL_law_420 0 rfl ?_
                      refine s_iload X dL_law_421 4 rfl ?_
                      refine s_iconst X 1 dL_law_423 (by decide) ?_
                      refine s_iadd X dL_law_424 ?_
                      refine s_li X dL_law_425 (fun x78 => ?_)
                      refine s_aload_n X dL_law_426 0 rfl ?_
                      refine s_iload X dL_law_427 4 rfl ?_
                      refine s_iconst X 2 dL_law_429 (by decide) ?_
                      refine s_iadd X dL_law_430 ?_
                      refine s_li X dL_law_431 (fun x79 => ?_)
                      refine s_callV (ci := 10) (C := RX10) (As := [zi x78, zi x79]) (st := []) X (fun a => c_X10_ways l E a x78 x79) (gLt gL_law_X10_ways) rfl hy_X10_ways rfl rfl rfl rfl (Nat.le_of_ble_eq_true rfl) (by decide) dL_law_432 (fun x80 M => ?_)
                      refine s_aload_n X dL_law_435 2 rfl ?_
                      refine s_aload_n X dL_law_436 0 rfl ?_
                      refine s_iload X dL_law_437 4 rfl ?_
                      refine s_iconst X 1 dL_law_439 (by decide) ?_
                      refine s_iadd X dL_law_440 ?_
                      refine s_li X dL_law_441 (fun x82 => ?_)
                      refine s_aload_n X dL_law_442 0 rfl ?_
                      refine s_iload X dL_law_443 4 rfl ?_
                      refine s_iconst X 2 dL_law_445 (by decide) ?_
                      refine s_iadd X dL_law_446 ?_
                      refine s_li X dL_law_447 (fun x83 => ?_)
                      refine s_callV (ci := 11) (C := RX11) (As := [zi x82, zi x83]) (st := [zi x80]) X (fun a => c_X11_ways l E a x82 x83) (gLt gL_law_X11_ways) rfl hy_X11_ways rfl rfl rfl rfl (Nat.le_of_ble_eq_true rfl) (by decide) dL_law_448 (fun x84 M => ?_)
                      refine s_icmp_eq X 565 dL_law_451 (by decide) (fun h86 => ?_) (fun h86 => ?_)
                      · exact J565 r_0 r_1 r_2 r_3 x_4 _
                      · refine s_iconst X 0 dL_law_454 (by decide) ?_
                        exact s_one X hE hr dL_law_455
                    · refine s_by (fun h87 => ?_) (fun h87 => ?_)
                      · refine s_tabIn X 8 456 h87 dL_law_40 (by decide) (by decide) (by decide) trivial ?_
                        refine s_aload_n X dL_law_456 1 rfl ?_
                        refine s_callV (ci := 10) (C := RX10) (As := []) (st := []) X (fun a => c_X10_arcs l E a) (gLt gL_law_X10_arcs) rfl hy_X10_arcs rfl rfl rfl rfl (Nat.le_of_ble_eq_true rfl) (by decide) dL_law_457 (fun x88 M => ?_)
                        refine s_aload_n X dL_law_460 2 rfl ?_
                        refine s_callV (ci := 11) (C := RX11) (As := []) (st := [zi x88]) X (fun a => c_X11_arcs l E a) (gLt gL_law_X11_arcs) rfl hy_X11_arcs rfl rfl rfl rfl (Nat.le_of_ble_eq_true rfl) (by decide) dL_law_461 (fun x90 M => ?_)
                        refine s_icmp_eq X 565 dL_law_464 (by decide) (fun h92 => ?_) (fun h92 => ?_)
                        · exact J565 r_0 r_1 r_2 r_3 x_4 _
                        · refine s_iconst X 0 dL_law_467 (by decide) ?_
                          exact s_one X hE hr dL_law_468
                      · refine s_by (fun h93 => ?_) (fun h93 => ?_)
                        · refine s_tabIn X 9 469 h93 dL_law_40 (by decide) (by decide) (by decide) trivial ?_
                          refine s_aload_n X dL_law_469 1 rfl ?_
                          refine s_aload_n X dL_law_470 0 rfl ?_
                          refine s_iload X dL_law_471 4 rfl ?_
                          refine s_iconst X 1 dL_law_473 (by decide) ?_
                          refine s_iadd X dL_law_474 ?_
                          refine s_li X dL_law_475 (fun x94 => ?_)
                          refine s_aload_n X dL_law_476 0 rfl ?_
                          refine s_iload X dL_law_477 4 rfl ?_
                          refine s_iconst X 2 dL_law_479 (by decide) ?_
                          refine s_iadd X dL_law_480 ?_
                          refine s_li X dL_law_481 (fun x95 => ?_)
                          refine s_if_eq X 489 dL_law_482 (by decide) (fun h96 => ?_) (fun h96 => ?_)
                          · refine s_iconst X 0 dL_law_489 (by decide) ?_
                            exact J490 r_0 r_1 r_2 r_3 x_4 r_1 x94 0 _
                          · refine s_iconst X 1 dL_law_485 (by decide) ?_
                            refine s_goto X 490 dL_law_486 (by decide) ?_
                            exact J490 r_0 r_1 r_2 r_3 x_4 r_1 x94 1 _
                        · refine s_tabOut X 565 dL_law_40 (by have := lv_neT h7 (show (0 : Int32).toInt = 0 by decide); have := lv_neT h13 (show (1 : Int32).toInt = 1 by decide); have := lv_neT h27 (show (2 : Int32).toInt = 2 by decide); have := lv_neT h43 (show (3 : Int32).toInt = 3 by decide); have := lv_neT h53 (show (4 : Int32).toInt = 4 by decide); have := lv_neT h61 (show (5 : Int32).toInt = 5 by decide); have := lv_neT h67 (show (6 : Int32).toInt = 6 by decide); have := lv_neT h77 (show (7 : Int32).toInt = 7 by decide); have := lv_neT h87 (show (8 : Int32).toInt = 8 by decide); have := lv_neT h93 (show (9 : Int32).toInt = 9 by decide); omega) (by decide) ?_
                          exact J565 r_0 r_1 r_2 r_3 x_4 _
  refine s_nwo (C := RX10) (T := TX10) (N := 5) (fs := [.null, .null, .null, .null, .null]) X rfl hiX10 tyX10 tyX10_ok (by decide +kernel) (by decide +kernel) (by decide +kernel) rfl (fun E j hj => by rcases z_lt5 hj with rfl | rfl | rfl | rfl | rfl <;> rfl) dL_law_0 (fun a1 M => ?_)
  refine s_dup X dL_law_3 rfl ?_
  refine s_callI (a := a1) (As := []) (st := [za ((some a1))]) X (c_X10_init l E a1) (gLt gL_law_X10_init) rfl (by decide +kernel) (by decide +kernel) (by decide +kernel) rfl hy_X10_init rfl rfl (Nat.le_of_ble_eq_true rfl) (by decide) dL_law_4 (fun M => ?_)
  refine s_astore_n X dL_law_7 (by decide) [(1, za ((some a1))), (0, za q0)] rfl ?_
  refine s_nwo (C := RX11) (T := TX11) (N := 32) (fs := [.null, .int 0, .null, .null, .null, .null, .int 0, .null, .null, .null, .null, .null, .int 0, .int 0, .null, .null, .int 0, .null, .null, .null, .null, .int 0, .int 0, .null, .null, .null, .null, .null, .null, .null, .null, .null]) X rfl hiX11 tyX11 tyX11_ok (by decide +kernel) (by decide +kernel) (by decide +kernel) rfl (fun E j hj => by rcases z_lt32 hj with rfl | rfl | rfl | rfl | rfl | rfl | rfl | rfl | rfl | rfl | rfl | rfl | rfl | rfl | rfl | rfl | rfl | rfl | rfl | rfl | rfl | rfl | rfl | rfl | rfl | rfl | rfl | rfl | rfl | rfl | rfl | rfl <;> rfl) dL_law_8 (fun a2 M => ?_)
  refine s_dup X dL_law_11 rfl ?_
  refine s_callI (a := a2) (As := []) (st := [za ((some a2))]) X (c_X11_init l E a2) (gLt gL_law_X11_init) rfl (by decide +kernel) (by decide +kernel) (by decide +kernel) rfl hy_X11_init rfl rfl (Nat.le_of_ble_eq_true rfl) (by decide) dL_law_12 (fun M => ?_)
  refine s_astore_n X dL_law_15 (by decide) [(2, za ((some a2))), (1, za ((some a1))), (0, za q0)] rfl ?_
  refine s_iconst X 1 dL_law_16 (by decide) ?_
  refine s_nwl X (by decide +kernel) dL_law_17 (fun a3 M => ?_)
  refine s_astore_n X dL_law_19 (by decide) [(3, za ((some a3))), (2, za ((some a2))), (1, za ((some a1))), (0, za q0)] rfl ?_
  refine s_iconst X 0 dL_law_20 (by decide) ?_
  refine s_istore X dL_law_21 (by decide) [(4, zi (0)), (3, za ((some a3))), (2, za ((some a2))), (1, za ((some a1))), (0, za q0)] rfl ?_
  refine s_lv [(0, za q0), (1, za ((some a1))), (2, za ((some a2))), (3, za ((some a3))), (4, zi (0))] [4, 3, 2, 1, 0] rfl ?_
  exact L23 z_N (q0, (some a1), (some a2), (some a3), 0) _
