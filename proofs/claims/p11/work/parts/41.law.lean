/-! THE LAW's BODY. wsLt: its words, and the class that other's handler names -/
def wsLt : List Cond := wsL_law ++ [Cond.classLink RL 13 RJx00060]
theorem gLt {a : List Cond} (h : GoodIn wsL_law a) : GoodIn wsLt a := fun w hw => ⟨List.mem_append_left _ (h w hw).1, (h w hw).2⟩
theorem gLt_Lo : GoodIn wsLt wsLo := goodIn_app (gLt ggL_law_L_other) (fun w hw => by
  rw [List.mem_singleton] at hw
  subst hw
  exact ⟨List.mem_append_right _ (List.mem_singleton.mpr rfl), good_of_word rfl⟩)
theorem wsLt_in : ∀ w ∈ wsLt, w ∈ lw_tbl := List.forall_mem_append.mpr ⟨wsL_law_in, by decide +kernel⟩
/-- the law's answer: 1, or the claim is not so -/
def z_one (x : Int32) : zMn Int32 := if x = 1 then z_ret x else z_no
section ZL
variable {p : Program} {l : Launch} {e : Env} {s : State} {m : MethodId} {below : List Frame} {meth : Method} {c : Code} {E : zE} {own : String} {Ts : List Cond} {M0 : zM} {M : zM} {pc : Nat} {lv : List (Nat × zV)} {b : Nat}
theorem s_one {fin : Int32 × zM} (X : z_X p room_1 s m #[Value.ref b] meth c E code 7 own Ts 11 404 M0 fin.2) (hE : E.2.1 = s.heap.size) (hr : meth.sig.returnType = ret) {x : Int32} (hd : decode code pc = .ok (.ireturn, 1)) : z_S p l e room_1 s m #[Value.ref b] below meth c (lw_Z below #[Value.ref b] s) E 7 M0 fin M pc lv [zi x] (z_one x) := by
  intro hF H locs ls h1 h2 h3 h5
  unfold z_one at hF
  split at hF
  · rename_i hx
    subst hx
    cases hF
    refine va_forget (fun q hq => by rw [← hE]; exact h2.2.2 q hq) (W.widen (k := 601024) (n := 7293034) X.2.2.2.2.1 X.2.2.2.2.2.1 ?_)
    exact lw_ret X.1.1 X.1.2.1 hr X.2.2.2.2.2.2 hd
  · cases hF
end ZL
theorem z_lt32 {j : Nat} (h : j < 32) : j = 0 ∨ j = 1 ∨ j = 2 ∨ j = 3 ∨ j = 4 ∨ j = 5 ∨ j = 6 ∨ j = 7 ∨ j = 8 ∨ j = 9 ∨ j = 10 ∨ j = 11 ∨ j = 12 ∨ j = 13 ∨ j = 14 ∨ j = 15 ∨ j = 16 ∨ j = 17 ∨ j = 18 ∨ j = 19 ∨ j = 20 ∨ j = 21 ∨ j = 22 ∨ j = 23 ∨ j = 24 ∨ j = 25 ∨ j = 26 ∨ j = 27 ∨ j = 28 ∨ j = 29 ∨ j = 30 ∨ j = 31 := by omega
def F_L_law_565 (ih23 : Option Nat → Option Nat → Option Nat → Option Nat → Int32 → zMn Int32) (r_0 : Option Nat) (r_1 : Option Nat) (r_2 : Option Nat) (r_3 : Option Nat) (x_4 : Int32) : zMn Int32 :=
  ih23 r_0 r_1 r_2 r_3 (x_4 + 6)
def F_L_law_562 (ih23 : Option Nat → Option Nat → Option Nat → Option Nat → Int32 → zMn Int32) (r_0 : Option Nat) (r_1 : Option Nat) (r_2 : Option Nat) (r_3 : Option Nat) (x_4 : Int32) : zMn Int32 :=
  F_L_law_565 ih23 r_0 r_1 r_2 r_3 x_4
def F_L_law_523 (ih23 : Option Nat → Option Nat → Option Nat → Option Nat → Int32 → zMn Int32) (r_0 : Option Nat) (r_1 : Option Nat) (r_2 : Option Nat) (r_3 : Option Nat) (x_4 : Int32) (x_5 : Int32) (t_0 : Option Nat) (s_1 : Int32) (s_2 : Int32) : zMn Int32 :=
  z_bd (z_li r_0 (x_4 + 3)) fun x94 =>
  z_bd (z_rc t_0 11) fun b96 => z_bd (F_X11_other b96 s_1 s_2 x94) fun x95 =>
  z_bd (z_rc r_2 11) fun b98 => z_bd (F_X11_thrown b98) fun x97 =>
  if x97 = x_5 then (if x_5 = 0 then (z_bd (z_ll r_3 0) fun w101 =>
  if (lg_cmp w101 ((x95 : Int32).toInt64)) = 0 then (F_L_law_562 ih23 r_0 r_1 r_2 r_3 x_4) else
  (z_one 0)) else
  (F_L_law_562 ih23 r_0 r_1 r_2 r_3 x_4)) else
  (z_one 0)
def F_L_law_490 (ih23 : Option Nat → Option Nat → Option Nat → Option Nat → Int32 → zMn Int32) (r_0 : Option Nat) (r_1 : Option Nat) (r_2 : Option Nat) (r_3 : Option Nat) (x_4 : Int32) (t_0 : Option Nat) (s_1 : Int32) (s_2 : Int32) : zMn Int32 :=
  z_bd (z_li r_0 (x_4 + 3)) fun x89 =>
  z_bd (F_L_other t_0 s_1 s_2 x89 r_3) fun x90 =>
  z_bd (z_li r_0 (x_4 + 1)) fun x91 =>
  z_bd (z_li r_0 (x_4 + 2)) fun x92 =>
  if x92 = 0 then (F_L_law_523 ih23 r_0 r_1 r_2 r_3 x_4 x90 r_2 x91 0) else
  (F_L_law_523 ih23 r_0 r_1 r_2 r_3 x_4 x90 r_2 x91 1)
def F_L_law_166 (ih23 : Option Nat → Option Nat → Option Nat → Option Nat → Int32 → zMn Int32) (r_0 : Option Nat) (r_1 : Option Nat) (r_2 : Option Nat) (r_3 : Option Nat) (x_4 : Int32) (t_0 : Option Nat) (s_1 : Int32) (s_2 : Int32) (s_3 : Int32) (s_4 : Int32) : zMn Int32 :=
  z_bd (z_rc t_0 11) fun b111 => z_bd (F_X11_arc b111 s_1 s_2 s_3 s_4) fun x110 =>
  F_L_law_565 ih23 r_0 r_1 r_2 r_3 x_4
def F_L_law_129 (ih23 : Option Nat → Option Nat → Option Nat → Option Nat → Int32 → zMn Int32) (r_0 : Option Nat) (r_1 : Option Nat) (r_2 : Option Nat) (r_3 : Option Nat) (x_4 : Int32) (t_0 : Option Nat) (s_1 : Int32) (s_2 : Int32) (s_3 : Int32) (s_4 : Int32) : zMn Int32 :=
  z_bd (z_rc t_0 10) fun b104 => z_bd (F_X10_arc b104 s_1 s_2 s_3 s_4) fun x103 =>
  z_bd (z_li r_0 (x_4 + 1)) fun x105 =>
  z_bd (z_li r_0 (x_4 + 2)) fun x106 =>
  z_bd (z_li r_0 (x_4 + 3)) fun x107 =>
  z_bd (z_li r_0 (x_4 + 4)) fun x108 =>
  if x108 = 0 then (F_L_law_166 ih23 r_0 r_1 r_2 r_3 x_4 r_2 x105 x106 x107 0) else
  (F_L_law_166 ih23 r_0 r_1 r_2 r_3 x_4 r_2 x105 x106 x107 1)
def B_L_law_23 (ih23 : Option Nat → Option Nat → Option Nat → Option Nat → Int32 → zMn Int32) (r_0 : Option Nat) (r_1 : Option Nat) (r_2 : Option Nat) (r_3 : Option Nat) (x_4 : Int32) : zMn Int32 :=
  z_bd (z_len r_0) fun n4 =>
  if (n4 - 6) < x_4 then (z_one 1) else
  (z_bd (z_li r_0 x_4) fun x6 =>
  if (x6 &&& 15) = 0 then (z_bd (z_li r_0 (x_4 + 1)) fun x8 =>
  z_bd (z_li r_0 (x_4 + 2)) fun x9 =>
  z_bd (z_li r_0 (x_4 + 3)) fun x10 =>
  z_bd (z_li r_0 (x_4 + 4)) fun x11 =>
  if x11 = 0 then (F_L_law_129 ih23 r_0 r_1 r_2 r_3 x_4 r_1 x8 x9 x10 0) else
  (F_L_law_129 ih23 r_0 r_1 r_2 r_3 x_4 r_1 x8 x9 x10 1)) else
  (if (x6 &&& 15) = 1 then (z_bd (z_li r_0 (x_4 + 1)) fun x14 =>
  z_bd (z_li r_0 (x_4 + 2)) fun x15 =>
  z_bd (z_li r_0 (x_4 + 3)) fun x16 =>
  z_bd (z_li r_0 (x_4 + 4)) fun x17 =>
  z_bd (z_rc r_1 10) fun b19 => z_bd (F_X10_expression b19 x14 x15 x16 x17) fun x18 =>
  z_bd (z_li r_0 (x_4 + 1)) fun x20 =>
  z_bd (z_li r_0 (x_4 + 2)) fun x21 =>
  z_bd (z_li r_0 (x_4 + 3)) fun x22 =>
  z_bd (z_li r_0 (x_4 + 4)) fun x23 =>
  z_bd (z_rc r_2 11) fun b25 => z_bd (F_X11_expression b25 x20 x21 x22 x23) fun x24 =>
  F_L_law_565 ih23 r_0 r_1 r_2 r_3 x_4) else
  (if (x6 &&& 15) = 2 then (z_bd (z_li r_0 (x_4 + 1)) fun x27 =>
  z_bd (z_li r_0 (x_4 + 2)) fun x28 =>
  z_bd (z_li r_0 (x_4 + 3)) fun x29 =>
  z_bd (z_li r_0 (x_4 + 4)) fun x30 =>
  z_bd (z_li r_0 (x_4 + 5)) fun x31 =>
  z_bd (z_rc r_1 10) fun b33 => z_bd (F_X10_shape b33 x27 x28 x29 x30 x31) fun x32 =>
  z_bd (z_li r_0 (x_4 + 1)) fun x34 =>
  z_bd (z_li r_0 (x_4 + 2)) fun x35 =>
  z_bd (z_li r_0 (x_4 + 3)) fun x36 =>
  z_bd (z_li r_0 (x_4 + 4)) fun x37 =>
  z_bd (z_li r_0 (x_4 + 5)) fun x38 =>
  z_bd (z_rc r_2 11) fun b40 => z_bd (F_X11_shape b40 x34 x35 x36 x37 x38) fun x39 =>
  F_L_law_565 ih23 r_0 r_1 r_2 r_3 x_4) else
  (if (x6 &&& 15) = 3 then (z_bd (z_li r_0 (x_4 + 1)) fun x42 =>
  z_bd (z_li r_0 (x_4 + 2)) fun x43 =>
  z_bd (z_rc r_1 10) fun b45 => z_bd (F_X10_has b45 x42 x43) fun x44 =>
  z_bd (z_li r_0 (x_4 + 1)) fun x46 =>
  z_bd (z_li r_0 (x_4 + 2)) fun x47 =>
  z_bd (z_rc r_2 11) fun b49 => z_bd (F_X11_has b49 x46 x47) fun x48 =>
  F_L_law_565 ih23 r_0 r_1 r_2 r_3 x_4) else
  (if (x6 &&& 15) = 4 then (z_bd (z_li r_0 (x_4 + 1)) fun x51 =>
  z_bd (z_rc r_1 10) fun b53 => z_bd (F_X10_nodes b53 x51) fun x52 =>
  z_bd (z_li r_0 (x_4 + 1)) fun x54 =>
  z_bd (z_rc r_2 11) fun b56 => z_bd (F_X11_nodes b56 x54) fun x55 =>
  F_L_law_565 ih23 r_0 r_1 r_2 r_3 x_4) else
  (if (x6 &&& 15) = 5 then (z_bd (z_rc r_1 10) fun b59 => z_bd (F_X10_wrong b59) fun x58 =>
  z_bd (z_rc r_2 11) fun b61 => z_bd (F_X11_wrong b61) fun x60 =>
  F_L_law_565 ih23 r_0 r_1 r_2 r_3 x_4) else
  (if (x6 &&& 15) = 6 then (z_bd (z_li r_0 (x_4 + 1)) fun x63 =>
  z_bd (z_li r_0 (x_4 + 2)) fun x64 =>
  z_bd (z_rc r_1 10) fun b66 => z_bd (F_X10_loose b66 x63 x64) fun x65 =>
  z_bd (z_li r_0 (x_4 + 1)) fun x67 =>
  z_bd (z_li r_0 (x_4 + 2)) fun x68 =>
  z_bd (z_rc r_2 11) fun b70 => z_bd (F_X11_loose b70 x67 x68) fun x69 =>
  F_L_law_565 ih23 r_0 r_1 r_2 r_3 x_4) else
  (if (x6 &&& 15) = 7 then (z_bd (z_li r_0 (x_4 + 1)) fun x72 =>
  z_bd (z_li r_0 (x_4 + 2)) fun x73 =>
  z_bd (z_rc r_1 10) fun b75 => z_bd (F_X10_ways b75 x72 x73) fun x74 =>
  z_bd (z_li r_0 (x_4 + 1)) fun x76 =>
  z_bd (z_li r_0 (x_4 + 2)) fun x77 =>
  z_bd (z_rc r_2 11) fun b79 => z_bd (F_X11_ways b79 x76 x77) fun x78 =>
  F_L_law_565 ih23 r_0 r_1 r_2 r_3 x_4) else
  (if (x6 &&& 15) = 8 then (z_bd (z_rc r_1 10) fun b82 => z_bd (F_X10_arcs b82) fun x81 =>
  z_bd (z_rc r_2 11) fun b84 => z_bd (F_X11_arcs b84) fun x83 =>
  F_L_law_565 ih23 r_0 r_1 r_2 r_3 x_4) else
  (if (x6 &&& 15) = 9 then (z_bd (z_li r_0 (x_4 + 1)) fun x86 =>
  z_bd (z_li r_0 (x_4 + 2)) fun x87 =>
  if x87 = 0 then (F_L_law_490 ih23 r_0 r_1 r_2 r_3 x_4 r_1 x86 0) else
  (F_L_law_490 ih23 r_0 r_1 r_2 r_3 x_4 r_1 x86 1)) else
  (F_L_law_565 ih23 r_0 r_1 r_2 r_3 x_4)))))))))))
def F_L_law_23 : Nat → (Option Nat) × (Option Nat) × (Option Nat) × (Option Nat) × Int32 → zMn Int32 := z_fix fun ih s => B_L_law_23 (fun y0 y1 y2 y3 y4 => ih (y0, y1, y2, y3, y4)) s.1 s.2.1 s.2.2.1 s.2.2.2.1 s.2.2.2.2
def F_L_law (q0 : Option Nat) : zMn Int32 :=
  z_bd (z_nw (.inr (10, [.null, .null, .null, .null, .null]))) fun a1 =>
  z_bd (F_X10_init a1) fun _ =>
  z_bd (z_nw (.inr (11, [.null, .int 0, .null, .null, .null, .null, .int 0, .null, .null, .null, .null, .null, .int 0, .int 0, .null, .null, .int 0, .null, .null, .null, .null, .int 0, .int 0, .null, .null, .null, .null, .null, .null, .null, .null, .null]))) fun a2 =>
  z_bd (F_X11_init a2) fun _ =>
  z_bd (z_nwa 3 (.long 0) 1) fun a3 =>
  F_L_law_23 z_N (q0, (some a1), (some a2), (some a3), 0)
set_option maxHeartbeats 4000000 in
set_option maxRecDepth 100000 in
theorem w_L_law (l : Launch) (htr : l.stackTraces = false) (E : zE) (q0 : Option Nat) {p : Program} {e : Env} {s0 : State} {m : MethodId} {below : List Frame} {meth : Method} {c : Code} {b : Nat} {M0 : zM} {fin : Int32 × zM} (X : z_X p room_1 s0 m #[Value.ref b] meth c E cL_law 7 RL wsLt 11 404 M0 fin.2) (hE : E.2.1 = s0.heap.size) (hr : meth.sig.returnType = ret) : z_S p l e room_1 s0 m #[Value.ref b] below meth c (lw_Z below #[Value.ref b] s0) E 7 M0 fin M0 0 [(0, za q0)] [] (F_L_law q0) := by
  have hiX10 : ∀ w ∈ u_ws RX10 TX10 5, w ∈ wsLt := fun w h => List.mem_append_left _ (inlX10 w h)
  have hiX11 : ∀ w ∈ u_ws RX11 TX11 32, w ∈ wsLt := fun w h => List.mem_append_left _ (inlX11 w h)
  have L23 : ∀ (n : Nat) (s : (Option Nat) × (Option Nat) × (Option Nat) × (Option Nat) × Int32) (M : zM), z_S p l e room_1 s0 m #[Value.ref b] below meth c (lw_Z below #[Value.ref b] s0) E 7 M0 fin M 23 [(0, za s.1), (1, za s.2.1), (2, za s.2.2.1), (3, za s.2.2.2.1), (4, zi s.2.2.2.2)] [] (F_L_law_23 n s) := by
    refine s_fix ?_
    intro ih23_ hih23
    have J565 : ∀ (r_0 : Option Nat) (r_1 : Option Nat) (r_2 : Option Nat) (r_3 : Option Nat) (x_4 : Int32) (M : zM), z_S p l e room_1 s0 m #[Value.ref b] below meth c (lw_Z below #[Value.ref b] s0) E 7 M0 fin M 565 [(0, za r_0), (1, za r_1), (2, za r_2), (3, za r_3), (4, zi x_4)] [] (F_L_law_565 (fun y0 y1 y2 y3 y4 => ih23_ (y0, y1, y2, y3, y4)) r_0 r_1 r_2 r_3 x_4) := by
      intro r_0 r_1 r_2 r_3 x_4 M
      refine s_iinc X 6 dL_law_565 4 rfl (by decide) (by decide) [(4, zi (x_4 + 6)), (0, za r_0), (1, za r_1), (2, za r_2), (3, za r_3)] rfl ?_
      refine s_goto X 23 dL_law_568 (by decide) ?_
      refine s_lv [(0, za r_0), (1, za r_1), (2, za r_2), (3, za r_3), (4, zi (x_4 + 6))] [1, 2, 3, 4, 0] rfl ?_
      exact hih23 (r_0, r_1, r_2, r_3, x_4 + 6) _
    have J562 : ∀ (r_0 : Option Nat) (r_1 : Option Nat) (r_2 : Option Nat) (r_3 : Option Nat) (x_4 : Int32) (M : zM), z_S p l e room_1 s0 m #[Value.ref b] below meth c (lw_Z below #[Value.ref b] s0) E 7 M0 fin M 562 [(0, za r_0), (1, za r_1), (2, za r_2), (3, za r_3), (4, zi x_4)] [] (F_L_law_562 (fun y0 y1 y2 y3 y4 => ih23_ (y0, y1, y2, y3, y4)) r_0 r_1 r_2 r_3 x_4) := by
      intro r_0 r_1 r_2 r_3 x_4 M
      refine s_goto X 565 dL_law_562 (by decide) ?_
      exact J565 r_0 r_1 r_2 r_3 x_4 _
    have J523 : ∀ (r_0 : Option Nat) (r_1 : Option Nat) (r_2 : Option Nat) (r_3 : Option Nat) (x_4 : Int32) (x_5 : Int32) (t_0 : Option Nat) (s_1 : Int32) (s_2 : Int32) (M : zM), z_S p l e room_1 s0 m #[Value.ref b] below meth c (lw_Z below #[Value.ref b] s0) E 7 M0 fin M 523 [(0, za r_0), (1, za r_1), (2, za r_2), (3, za r_3), (4, zi x_4), (5, zi x_5)] [zi s_2, zi s_1, za t_0] (F_L_law_523 (fun y0 y1 y2 y3 y4 => ih23_ (y0, y1, y2, y3, y4)) r_0 r_1 r_2 r_3 x_4 x_5 t_0 s_1 s_2) := by
      intro r_0 r_1 r_2 r_3 x_4 x_5 t_0 s_1 s_2 M
      refine s_aload_n X dL_law_523 0 rfl ?_
      refine s_iload X dL_law_524 4 rfl ?_
      refine s_iconst X 3 dL_law_526 (by decide) ?_
      refine s_iadd X dL_law_527 ?_
      refine s_li X dL_law_528 (fun x94 => ?_)
      refine s_callV (ci := 11) (C := RX11) (As := [zi s_1, zi s_2, zi x94]) (st := []) X (fun a => c_X11_other l E a s_1 s_2 x94) (gLt gL_law_X11_other) rfl hy_X11_other rfl rfl rfl rfl (Nat.le_of_ble_eq_true rfl) (by decide) dL_law_529 (fun x95 M => ?_)
      refine s_istore X dL_law_532 (by decide) [(6, zi x95), (0, za r_0), (1, za r_1), (2, za r_2), (3, za r_3), (4, zi x_4), (5, zi x_5)] rfl ?_
      refine s_aload_n X dL_law_534 3 rfl ?_
      refine s_callV (ci := 11) (C := RX11) (As := []) (st := []) X (fun a => c_X11_thrown l E a) (gLt gL_law_X11_thrown) rfl hy_X11_thrown rfl rfl rfl rfl (Nat.le_of_ble_eq_true rfl) (by decide) dL_law_535 (fun x97 M => ?_)
      refine s_iload X dL_law_538 6 rfl ?_
      refine s_icmp_eq X 545 dL_law_540 (by decide) (fun h99 => ?_) (fun h99 => ?_)
      · refine s_iload X dL_law_545 6 rfl ?_
        refine s_if_ne X 562 dL_law_547 (by decide) (fun h100 => ?_) (fun h100 => ?_)
        · refine s_lv [(0, za r_0), (1, za r_1), (2, za r_2), (3, za r_3), (4, zi x_4)] [1, 2, 3, 4, 5] rfl ?_
          exact J562 r_0 r_1 r_2 r_3 x_4 _
        · refine s_aload_n X dL_law_550 4 rfl ?_
          refine s_iconst X 0 dL_law_551 (by decide) ?_
          refine s_ll X dL_law_552 (fun w101 => ?_)
          refine s_iload X dL_law_553 0 rfl ?_
          refine s_i2l X dL_law_555 ?_
          refine s_lcmp X dL_law_556 ?_
          refine s_if_eq X 562 dL_law_557 (by decide) (fun h102 => ?_) (fun h102 => ?_)
          · refine s_lv [(0, za r_0), (1, za r_1), (2, za r_2), (3, za r_3), (4, zi x_4)] [1, 2, 3, 4, 5] rfl ?_
            exact J562 r_0 r_1 r_2 r_3 x_4 _
          · refine s_iconst X 0 dL_law_560 (by decide) ?_
            exact s_one X hE hr dL_law_561
      · refine s_iconst X 0 dL_law_543 (by decide) ?_
        exact s_one X hE hr dL_law_544
    have J490 : ∀ (r_0 : Option Nat) (r_1 : Option Nat) (r_2 : Option Nat) (r_3 : Option Nat) (x_4 : Int32) (t_0 : Option Nat) (s_1 : Int32) (s_2 : Int32) (M : zM), z_S p l e room_1 s0 m #[Value.ref b] below meth c (lw_Z below #[Value.ref b] s0) E 7 M0 fin M 490 [(0, za r_0), (1, za r_1), (2, za r_2), (3, za r_3), (4, zi x_4)] [zi s_2, zi s_1, za t_0] (F_L_law_490 (fun y0 y1 y2 y3 y4 => ih23_ (y0, y1, y2, y3, y4)) r_0 r_1 r_2 r_3 x_4 t_0 s_1 s_2) := by
      intro r_0 r_1 r_2 r_3 x_4 t_0 s_1 s_2 M
      refine s_aload_n X dL_law_490 0 rfl ?_
      refine s_iload X dL_law_491 4 rfl ?_
      refine s_iconst X 3 dL_law_493 (by decide) ?_
      refine s_iadd X dL_law_494 ?_
      refine s_li X dL_law_495 (fun x89 => ?_)
      refine s_aload_n X dL_law_496 3 rfl ?_
      refine s_callSW (As := [za t_0, zi s_1, zi s_2, zi x89, za r_3]) (st := []) X (c_L_other l htr E t_0 s_1 s_2 x89 r_3) gLt_Lo rfl (by decide +kernel) (by decide +kernel) (by decide +kernel) hy_L_other rfl rfl (Nat.le_of_ble_eq_true rfl) (by decide) dL_law_497 (fun x90 M => ?_)
      refine s_istore X dL_law_500 (by decide) [(5, zi x90), (0, za r_0), (1, za r_1), (2, za r_2), (3, za r_3), (4, zi x_4)] rfl ?_
      refine s_aload_n X dL_law_502 3 rfl ?_
      refine s_aload_n X dL_law_503 1 rfl ?_
      refine s_iload X dL_law_504 5 rfl ?_
      refine s_iconst X 1 dL_law_506 (by decide) ?_
      refine s_iadd X dL_law_507 ?_
      refine s_li X dL_law_508 (fun x91 => ?_)
      refine s_aload_n X dL_law_509 1 rfl ?_
      refine s_iload X dL_law_510 5 rfl ?_
      refine s_iconst X 2 dL_law_512 (by decide) ?_
      refine s_iadd X dL_law_513 ?_
      refine s_li X dL_law_514 (fun x92 => ?_)
      refine s_if_eq X 522 dL_law_515 (by decide) (fun h93 => ?_) (fun h93 => ?_)
      · refine s_iconst X 0 dL_law_522 (by decide) ?_
        refine s_lv [(0, za r_0), (1, za r_1), (2, za r_2), (3, za r_3), (4, zi x_4), (5, zi x90)] [1, 2, 3, 4, 5, 0] rfl ?_
        exact J523 r_0 r_1 r_2 r_3 x_4 x90 r_2 x91 0 _
      · refine s_iconst X 1 dL_law_518 (by decide) ?_
        refine s_goto X 523 dL_law_519 (by decide) ?_
        refine s_lv [(0, za r_0), (1, za r_1), (2, za r_2), (3, za r_3), (4, zi x_4), (5, zi x90)] [1, 2, 3, 4, 5, 0] rfl ?_
        exact J523 r_0 r_1 r_2 r_3 x_4 x90 r_2 x91 1 _
    have J166 : ∀ (r_0 : Option Nat) (r_1 : Option Nat) (r_2 : Option Nat) (r_3 : Option Nat) (x_4 : Int32) (t_0 : Option Nat) (s_1 : Int32) (s_2 : Int32) (s_3 : Int32) (s_4 : Int32) (M : zM), z_S p l e room_1 s0 m #[Value.ref b] below meth c (lw_Z below #[Value.ref b] s0) E 7 M0 fin M 166 [(0, za r_0), (1, za r_1), (2, za r_2), (3, za r_3), (4, zi x_4)] [zi s_4, zi s_3, zi s_2, zi s_1, za t_0] (F_L_law_166 (fun y0 y1 y2 y3 y4 => ih23_ (y0, y1, y2, y3, y4)) r_0 r_1 r_2 r_3 x_4 t_0 s_1 s_2 s_3 s_4) := by
      intro r_0 r_1 r_2 r_3 x_4 t_0 s_1 s_2 s_3 s_4 M
      refine s_callV (ci := 11) (C := RX11) (As := [zi s_1, zi s_2, zi s_3, zi s_4]) (st := []) X (fun a => c_X11_arc l E a s_1 s_2 s_3 s_4) (gLt gL_law_X11_arc) rfl hy_X11_arc rfl rfl rfl rfl (Nat.le_of_ble_eq_true rfl) (by decide) dL_law_166 (fun x110 M => ?_)
      refine s_pop X dL_law_169 rfl ?_
      refine s_goto X 565 dL_law_170 (by decide) ?_
      exact J565 r_0 r_1 r_2 r_3 x_4 _
    have J129 : ∀ (r_0 : Option Nat) (r_1 : Option Nat) (r_2 : Option Nat) (r_3 : Option Nat) (x_4 : Int32) (t_0 : Option Nat) (s_1 : Int32) (s_2 : Int32) (s_3 : Int32) (s_4 : Int32) (M : zM), z_S p l e room_1 s0 m #[Value.ref b] below meth c (lw_Z below #[Value.ref b] s0) E 7 M0 fin M 129 [(0, za r_0), (1, za r_1), (2, za r_2), (3, za r_3), (4, zi x_4)] [zi s_4, zi s_3, zi s_2, zi s_1, za t_0] (F_L_law_129 (fun y0 y1 y2 y3 y4 => ih23_ (y0, y1, y2, y3, y4)) r_0 r_1 r_2 r_3 x_4 t_0 s_1 s_2 s_3 s_4) := by
      intro r_0 r_1 r_2 r_3 x_4 t_0 s_1 s_2 s_3 s_4 M
      refine s_callV (ci := 10) (C := RX10) (As := [zi s_1, zi s_2, zi s_3, zi s_4]) (st := []) X (fun a => c_X10_arc l E a s_1 s_2 s_3 s_4) (gLt gL_law_X10_arc) rfl hy_X10_arc rfl rfl rfl rfl (Nat.le_of_ble_eq_true rfl) (by decide) dL_law_129 (fun x103 M => ?_)
      refine s_pop X dL_law_132 rfl ?_
      refine s_aload_n X dL_law_133 2 rfl ?_
      refine s_aload_n X dL_law_134 0 rfl ?_
      refine s_iload X dL_law_135 4 rfl ?_
      refine s_iconst X 1 dL_law_137 (by decide) ?_
      refine s_iadd X dL_law_138 ?_
      refine s_li X dL_law_139 (fun x105 => ?_)
      refine s_aload_n X dL_law_140 0 rfl ?_
      refine s_iload X dL_law_141 4 rfl ?_
      refine s_iconst X 2 dL_law_143 (by decide) ?_
      refine s_iadd X dL_law_144 ?_
      refine s_li X dL_law_145 (fun x106 => ?_)
      refine s_aload_n X dL_law_146 0 rfl ?_
      refine s_iload X dL_law_147 4 rfl ?_
      refine s_iconst X 3 dL_law_149 (by decide) ?_
      refine s_iadd X dL_law_150 ?_
      refine s_li X dL_law_151 (fun x107 => ?_)
      refine s_aload_n X dL_law_152 0 rfl ?_
      refine s_iload X dL_law_153 4 rfl ?_
      refine s_iconst X 4 dL_law_155 (by decide) ?_
      refine s_iadd X dL_law_156 ?_
      refine s_li X dL_law_157 (fun x108 => ?_)
      refine s_if_eq X 165 dL_law_158 (by decide) (fun h109 => ?_) (fun h109 => ?_)
      · refine s_iconst X 0 dL_law_165 (by decide) ?_
        exact J166 r_0 r_1 r_2 r_3 x_4 r_2 x105 x106 x107 0 _
      · refine s_iconst X 1 dL_law_161 (by decide) ?_
        refine s_goto X 166 dL_law_162 (by decide) ?_
        exact J166 r_0 r_1 r_2 r_3 x_4 r_2 x105 x106 x107 1 _
    rintro ⟨r_0, r_1, r_2, r_3, x_4⟩ M
    refine s_iload X dL_law_23 4 rfl ?_
    refine s_aload_n X dL_law_25 0 rfl ?_
    refine s_len X dL_law_26 (fun n4 => ?_)
    refine s_bipush X 6 dL_law_27 (by decide) ?_
    refine s_isub X dL_law_29 ?_
    refine s_icmp_gt X 571 dL_law_30 (by decide) (fun h5 => ?_) (fun h5 => ?_)
    · refine s_iconst X 1 dL_law_571 (by decide) ?_
      exact s_one X hE hr dL_law_572
    · refine s_aload_n X dL_law_33 0 rfl ?_
      refine s_iload X dL_law_34 4 rfl ?_
      refine s_li X dL_law_36 (fun x6 => ?_)
      refine s_bipush X 15 dL_law_37 (by decide) ?_
      refine s_iand X dL_law_39 ?_
      refine s_by (fun h7 => ?_) (fun h7 => ?_)
      · refine s_tabIn X 0 96 h7 dL_law_40 (by decide) (by decide) (by decide) trivial ?_
        refine s_aload_n X dL_law_96 1 rfl ?_
        refine s_aload_n X dL_law_97 0 rfl ?_
        refine s_iload X dL_law_98 4 rfl ?_
        refine s_iconst X 1 dL_law_100 (by decide) ?_
        refine s_iadd X dL_law_101 ?_
        refine s_li X dL_law_102 (fun x8 => ?_)
        refine s_aload_n X dL_law_103 0 rfl ?_
        refine s_iload X dL_law_104 4 rfl ?_
        refine s_iconst X 2 dL_law_106 (by decide) ?_
        refine s_iadd X dL_law_107 ?_
        refine s_li X dL_law_108 (fun x9 => ?_)
        refine s_aload_n X dL_law_109 0 rfl ?_
        refine s_iload X dL_law_110 4 rfl ?_
        refine s_iconst X 3 dL_law_112 (by decide) ?_
        refine s_iadd X dL_law_113 ?_
        refine s_li X dL_law_114 (fun x10 => ?_)
        refine s_aload_n X dL_law_115 0 rfl ?_
        refine s_iload X dL_law_116 4 rfl ?_
        refine s_iconst X 4 dL_law_118 (by decide) ?_
        refine s_iadd X dL_law_119 ?_
        refine s_li X dL_law_120 (fun x11 => ?_)
        refine s_if_eq X 128 dL_law_121 (by decide) (fun h12 => ?_) (fun h12 => ?_)
        · refine s_iconst X 0 dL_law_128 (by decide) ?_
          exact J129 r_0 r_1 r_2 r_3 x_4 r_1 x8 x9 x10 0 _
        · refine s_iconst X 1 dL_law_124 (by decide) ?_
          refine s_goto X 129 dL_law_125 (by decide) ?_
          exact J129 r_0 r_1 r_2 r_3 x_4 r_1 x8 x9 x10 1 _
      · refine s_by (fun h13 => ?_) (fun h13 => ?_)
        · refine s_tabIn X 1 173 h13 dL_law_40 (by decide) (by decide) (by decide) trivial ?_
          refine s_aload_n X dL_law_173 1 rfl ?_
          refine s_aload_n X dL_law_174 0 rfl ?_
          refine s_iload X dL_law_175 4 rfl ?_
          refine s_iconst X 1 dL_law_177 (by decide) ?_
          refine s_iadd X dL_law_178 ?_
          refine s_li X dL_law_179 (fun x14 => ?_)
          refine s_aload_n X dL_law_180 0 rfl ?_
          refine s_iload X dL_law_181 4 rfl ?_
          refine s_iconst X 2 dL_law_183 (by decide) ?_
          refine s_iadd X dL_law_184 ?_
          refine s_li X dL_law_185 (fun x15 => ?_)
          refine s_aload_n X dL_law_186 0 rfl ?_
          refine s_iload X dL_law_187 4 rfl ?_
          refine s_iconst X 3 dL_law_189 (by decide) ?_
          refine s_iadd X dL_law_190 ?_
          refine s_li X dL_law_191 (fun x16 => ?_)
          refine s_aload_n X dL_law_192 0 rfl ?_
          refine s_iload X dL_law_193 4 rfl ?_
          refine s_iconst X 4 dL_law_195 (by decide) ?_
          refine s_iadd X dL_law_196 ?_
          refine s_li X dL_law_197 (fun x17 => ?_)
          refine s_callV (ci := 10) (C := RX10) (As := [zi x14, zi x15, zi x16, zi x17]) (st := []) X (fun a => c_X10_expression l E a x14 x15 x16 x17) (gLt gL_law_X10_expression) rfl hy_X10_expression rfl rfl rfl rfl (Nat.le_of_ble_eq_true rfl) (by decide) dL_law_198 (fun x18 M => ?_)
          refine s_pop X dL_law_201 rfl ?_
          refine s_aload_n X dL_law_202 2 rfl ?_
          refine s_aload_n X dL_law_203 0 rfl ?_
          refine s_iload X dL_law_204 4 rfl ?_
          refine s_iconst X 1 dL_law_206 (by decide) ?_
          refine s_iadd X dL_law_207 ?_
          refine s_li X dL_law_208 (fun x20 => ?_)
          refine s_aload_n X dL_law_209 0 rfl ?_
          refine s_iload X dL_law_210 4 rfl ?_
          refine s_iconst X 2 dL_law_212 (by decide) ?_
          refine s_iadd X dL_law_213 ?_
          refine s_li X dL_law_214 (fun x21 => ?_)
          refine s_aload_n X dL_law_215 0 rfl ?_
          refine s_iload X dL_law_216 4 rfl ?_
          refine s_iconst X 3 dL_law_218 (by decide) ?_
          refine s_iadd X dL_law_219 ?_
          refine s_li X dL_law_220 (fun x22 => ?_)
          refine s_aload_n X dL_law_221 0 rfl ?_
          refine s_iload X dL_law_222 4 rfl ?_
          refine s_iconst X 4 dL_law_224 (by decide) ?_
          refine s_iadd X dL_law_225 ?_
          refine s_li X dL_law_226 (fun x23 => ?_)
          refine s_callV (ci := 11) (C := RX11) (As := [zi x20, zi x21, zi x22, zi x23]) (st := []) X (fun a => c_X11_expression l E a x20 x21 x22 x23) (gLt gL_law_X11_expression) rfl hy_X11_expression rfl rfl rfl rfl (Nat.le_of_ble_eq_true rfl) (by decide) dL_law_227 (fun x24 M => ?_)
          refine s_pop X dL_law_230 rfl ?_
          refine s_goto X 565 dL_law_231 (by decide) ?_
          exact J565 r_0 r_1 r_2 r_3 x_4 _
        · refine s_by (fun h26 => ?_) (fun h26 => ?_)
          · refine s_tabIn X 2 234 h26 dL_law_40 (by decide) (by decide) (by decide) trivial ?_
            refine s_aload_n X dL_law_234 1 rfl ?_
            refine s_aload_n X dL_law_235 0 rfl ?_
            refine s_iload X dL_law_236 4 rfl ?_
            refine s_iconst X 1 dL_law_238 (by decide) ?_
            refine s_iadd X dL_law_239 ?_
            refine s_li X dL_law_240 (fun x27 => ?_)
            refine s_aload_n X dL_law_241 0 rfl ?_
            refine s_iload X dL_law_242 4 rfl ?_
            refine s_iconst X 2 dL_law_244 (by decide) ?_
            refine s_iadd X dL_law_245 ?_
            refine s_li X dL_law_246 (fun x28 => ?_)
            refine s_aload_n X dL_law_247 0 rfl ?_
            refine s_iload X dL_law_248 4 rfl ?_
            refine s_iconst X 3 dL_law_250 (by decide) ?_
            refine s_iadd X dL_law_251 ?_
            refine s_li X dL_law_252 (fun x29 => ?_)
            refine s_aload_n X dL_law_253 0 rfl ?_
            refine s_iload X dL_law_254 4 rfl ?_
            refine s_iconst X 4 dL_law_256 (by decide) ?_
            refine s_iadd X dL_law_257 ?_
            refine s_li X dL_law_258 (fun x30 => ?_)
            refine s_aload_n X dL_law_259 0 rfl ?_
            refine s_iload X dL_law_260 4 rfl ?_
            refine s_iconst X 5 dL_law_262 (by decide) ?_
            refine s_iadd X dL_law_263 ?_
            refine s_li X dL_law_264 (fun x31 => ?_)
            refine s_callV (ci := 10) (C := RX10) (As := [zi x27, zi x28, zi x29, zi x30, zi x31]) (st := []) X (fun a => c_X10_shape l E a x27 x28 x29 x30 x31) (gLt gL_law_X10_shape) rfl hy_X10_shape rfl rfl rfl rfl (Nat.le_of_ble_eq_true rfl) (by decide) dL_law_265 (fun x32 M => ?_)
            refine s_pop X dL_law_268 rfl ?_
            refine s_aload_n X dL_law_269 2 rfl ?_
            refine s_aload_n X dL_law_270 0 rfl ?_
            refine s_iload X dL_law_271 4 rfl ?_
            refine s_iconst X 1 dL_law_273 (by decide) ?_
            refine s_iadd X dL_law_274 ?_
            refine s_li X dL_law_275 (fun x34 => ?_)
            refine s_aload_n X dL_law_276 0 rfl ?_
            refine s_iload X dL_law_277 4 rfl ?_
            refine s_iconst X 2 dL_law_279 (by decide) ?_
            refine s_iadd X dL_law_280 ?_
            refine s_li X dL_law_281 (fun x35 => ?_)
            refine s_aload_n X dL_law_282 0 rfl ?_
            refine s_iload X dL_law_283 4 rfl ?_
            refine s_iconst X 3 dL_law_285 (by decide) ?_
            refine s_iadd X dL_law_286 ?_
            refine s_li X dL_law_287 (fun x36 => ?_)
            refine s_aload_n X dL_law_288 0 rfl ?_
            refine s_iload X dL_law_289 4 rfl ?_
            refine s_iconst X 4 dL_law_291 (by decide) ?_
            refine s_iadd X dL_law_292 ?_
            refine s_li X dL_law_293 (fun x37 => ?_)
            refine s_aload_n X dL_law_294 0 rfl ?_
            refine s_iload X dL_law_295 4 rfl ?_
            refine s_iconst X 5 dL_law_297 (by decide) ?_
            refine s_iadd X dL_law_298 ?_
            refine s_li X dL_law_299 (fun x38 => ?_)
            refine s_callV (ci := 11) (C := RX11) (As := [zi x34, zi x35, zi x36, zi x37, zi x38]) (st := []) X (fun a => c_X11_shape l E a x34 x35 x36 x37 x38) (gLt gL_law_X11_shape) rfl hy_X11_shape rfl rfl rfl rfl (Nat.le_of_ble_eq_true rfl) (by decide) dL_law_300 (fun x39 M => ?_)
            refine s_pop X dL_law_303 rfl ?_
            refine s_goto X 565 dL_law_304 (by decide) ?_
            exact J565 r_0 r_1 r_2 r_3 x_4 _
          · refine s_by (fun h41 => ?_) (fun h41 => ?_)
            · refine s_tabIn X 3 307 h41 dL_law_40 (by decide) (by decide) (by decide) trivial ?_
              refine s_aload_n X dL_law_307 1 rfl ?_
              refine s_aload_n X dL_law_308 0 rfl ?_
              refine s_iload X dL_law_309 4 rfl ?_
              refine s_iconst X 1 dL_law_311 (by decide) ?_
              refine s_iadd X dL_law_312 ?_
              refine s_li X dL_law_313 (fun x42 => ?_)
              refine s_aload_n X dL_law_314 0 rfl ?_
              refine s_iload X dL_law_315 4 rfl ?_
              refine s_iconst X 2 dL_law_317 (by decide) ?_
              refine s_iadd X dL_law_318 ?_
              refine s_li X dL_law_319 (fun x43 => ?_)
              refine s_callV (ci := 10) (C := RX10) (As := [zi x42, zi x43]) (st := []) X (fun a => c_X10_has l E a x42 x43) (gLt gL_law_X10_has) rfl hy_X10_has rfl rfl rfl rfl (Nat.le_of_ble_eq_true rfl) (by decide) dL_law_320 (fun x44 M => ?_)
              refine s_pop X dL_law_323 rfl ?_
              refine s_aload_n X dL_law_324 2 rfl ?_
              refine s_aload_n X dL_law_325 0 rfl ?_
              refine s_iload X dL_law_326 4 rfl ?_
              refine s_iconst X 1 dL_law_328 (by decide) ?_
              refine s_iadd X dL_law_329 ?_
              refine s_li X dL_law_330 (fun x46 => ?_)
              refine s_aload_n X dL_law_331 0 rfl ?_
              refine s_iload X dL_law_332 4 rfl ?_
              refine s_iconst X 2 dL_law_334 (by decide) ?_
              refine s_iadd X dL_law_335 ?_
              refine s_li X dL_law_336 (fun x47 => ?_)
              refine s_callV (ci := 11) (C := RX11) (As := [zi x46, zi x47]) (st := []) X (fun a => c_X11_has l E a x46 x47) (gLt gL_law_X11_has) rfl hy_X11_has rfl rfl rfl rfl (Nat.le_of_ble_eq_true rfl) (by decide) dL_law_337 (fun x48 M => ?_)
              refine s_pop X dL_law_340 rfl ?_
              refine s_goto X 565 dL_law_341 (by decide) ?_
              exact J565 r_0 r_1 r_2 r_3 x_4 _
            · refine s_by (fun h50 => ?_) (fun h50 => ?_)
              · refine s_tabIn X 4 344 h50 dL_law_40 (by decide) (by decide) (by decide) trivial ?_
                refine s_aload_n X dL_law_344 1 rfl ?_
                refine s_aload_n X dL_law_345 0 rfl ?_
                refine s_iload X dL_law_346 4 rfl ?_
                refine s_iconst X 1 dL_law_348 (by decide) ?_
                refine s_iadd X dL_law_349 ?_
                refine s_li X dL_law_350 (fun x51 => ?_)
                refine s_callV (ci := 10) (C := RX10) (As := [zi x51]) (st := []) X (fun a => c_X10_nodes l E a x51) (gLt gL_law_X10_nodes) rfl hy_X10_nodes rfl rfl rfl rfl (Nat.le_of_ble_eq_true rfl) (by decide) dL_law_351 (fun x52 M => ?_)
                refine s_pop X dL_law_354 rfl ?_
                refine s_aload_n X dL_law_355 2 rfl ?_
                refine s_aload_n X dL_law_356 0 rfl ?_
                refine s_iload X dL_law_357 4 rfl ?_
                refine s_iconst X 1 dL_law_359 (by decide) ?_
                refine s_iadd X dL_law_360 ?_
                refine s_li X dL_law_361 (fun x54 => ?_)
                refine s_callV (ci := 11) (C := RX11) (As := [zi x54]) (st := []) X (fun a => c_X11_nodes l E a x54) (gLt gL_law_X11_nodes) rfl hy_X11_nodes rfl rfl rfl rfl (Nat.le_of_ble_eq_true rfl) (by decide) dL_law_362 (fun x55 M => ?_)
                refine s_pop X dL_law_365 rfl ?_
                refine s_goto X 565 dL_law_366 (by decide) ?_
                exact J565 r_0 r_1 r_2 r_3 x_4 _
              · refine s_by (fun h57 => ?_) (fun h57 => ?_)
                · refine s_tabIn X 5 369 h57 dL_law_40 (by decide) (by decide) (by decide) trivial ?_
                  refine s_aload_n X dL_law_369 1 rfl ?_
                  refine s_callV (ci := 10) (C := RX10) (As := []) (st := []) X (fun a => c_X10_wrong l E a) (gLt gL_law_X10_wrong) rfl hy_X10_wrong rfl rfl rfl rfl (Nat.le_of_ble_eq_true rfl) (by decide) dL_law_370 (fun x58 M => ?_)
                  refine s_pop X dL_law_373 rfl ?_
                  refine s_aload_n X dL_law_374 2 rfl ?_
                  refine s_callV (ci := 11) (C := RX11) (As := []) (st := []) X (fun a => c_X11_wrong l E a) (gLt gL_law_X11_wrong) rfl hy_X11_wrong rfl rfl rfl rfl (Nat.le_of_ble_eq_true rfl) (by decide) dL_law_375 (fun x60 M => ?_)
                  refine s_pop X dL_law_378 rfl ?_
                  refine s_goto X 565 dL_law_379 (by decide) ?_
                  exact J565 r_0 r_1 r_2 r_3 x_4 _
                · refine s_by (fun h62 => ?_) (fun h62 => ?_)
                  · refine s_tabIn X 6 382 h62 dL_law_40 (by decide) (by decide) (by decide) trivial ?_
                    refine s_aload_n X dL_law_382 1 rfl ?_
                    refine s_aload_n X dL_law_383 0 rfl ?_
                    refine s_iload X dL_law_384 4 rfl ?_
                    refine s_iconst X 1 dL_law_386 (by decide) ?_
                    refine s_iadd X dL_law_387 ?_
                    refine s_li X dL_law_388 (fun x63 => ?_)
                    refine s_aload_n X dL_law_389 0 rfl ?_
                    refine s_iload X dL_law_390 4 rfl ?_
                    refine s_iconst X 2 dL_law_392 (by decide) ?_
                    refine s_iadd X dL_law_393 ?_
                    refine s_li X dL_law_394 (fun x64 => ?_)
                    refine s_callV (ci := 10) (C := RX10) (As := [zi x63, zi x64]) (st := []) X (fun a => c_X10_loose l E a x63 x64) (gLt gL_law_X10_loose) rfl hy_X10_loose rfl rfl rfl rfl (Nat.le_of_ble_eq_true rfl) (by decide) dL_law_395 (fun x65 M => ?_)
                    refine s_pop X dL_law_398 rfl ?_
                    refine s_aload_n X dL_law_399 2 rfl ?_
                    refine s_aload_n X dL_law_400 0 rfl ?_
                    refine s_iload X dL_law_401 4 rfl ?_
                    refine s_iconst X 1 dL_law_403 (by decide) ?_
                    refine s_iadd X dL_law_404 ?_
                    refine s_li X dL_law_405 (fun x67 => ?_)
                    refine s_aload_n X dL_law_406 0 rfl ?_
                    refine s_iload X dL_law_407 4 rfl ?_
                    refine s_iconst X 2 dL_law_409 (by decide) ?_
                    refine s_iadd X dL_law_410 ?_
                    refine s_li X dL_law_411 (fun x68 => ?_)
                    refine s_callV (ci := 11) (C := RX11) (As := [zi x67, zi x68]) (st := []) X (fun a => c_X11_loose l E a x67 x68) (gLt gL_law_X11_loose) rfl hy_X11_loose rfl rfl rfl rfl (Nat.le_of_ble_eq_true rfl) (by decide) dL_law_412 (fun x69 M => ?_)
                    refine s_pop X dL_law_415 rfl ?_
                    refine s_goto X 565 dL_law_416 (by decide) ?_
                    exact J565 r_0 r_1 r_2 r_3 x_4 _
                  · refine s_by (fun h71 => ?_) (fun h71 => ?_)
                    · refine s_tabIn X 7 419 h71 dL_law_40 (by decide) (by decide) (by decide) trivial ?_
                      refine s_aload_n X dL_law_419 1 rfl ?_
                      refine s_aload_n X dL_law_420 0 rfl ?_
                      refine s_iload X dL_law_421 4 rfl ?_
                      refine s_iconst X 1 dL_law_423 (by decide) ?_
                      refine s_iadd X dL_law_424 ?_
                      refine s_li X dL_law_425 (fun x72 => ?_)
                      refine s_aload_n X dL_law_426 0 rfl ?_
                      refine s_iload X dL_law_427 4 rfl ?_
                      refine s_iconst X 2 dL_law_429 (by decide) ?_
                      refine s_iadd X dL_law_430 ?_
                      refine s_li X dL_law_431 (fun x73 => ?_)
                      refine s_callV (ci := 10) (C := RX10) (As := [zi x72, zi x73]) (st := []) X (fun a => c_X10_ways l E a x72 x73) (gLt gL_law_X10_ways) rfl hy_X10_ways rfl rfl rfl rfl (Nat.le_of_ble_eq_true rfl) (by decide) dL_law_432 (fun x74 M => ?_)
                      refine s_pop X dL_law_435 rfl ?_
                      refine s_aload_n X dL_law_436 2 rfl ?_
                      refine s_aload_n X dL_law_437 0 rfl ?_
                      refine s_iload X dL_law_438 4 rfl ?_
                      refine s_iconst X 1 dL_law_440 (by decide) ?_
                      refine s_iadd X dL_law_441 ?_
                      refine s_li X dL_law_442 (fun x76 => ?_)
                      refine s_aload_n X dL_law_443 0 rfl ?_
                      refine s_iload X dL_law_444 4 rfl ?_
                      refine s_iconst X 2 dL_law_446 (by decide) ?_
                      refine s_iadd X dL_law_447 ?_
                      refine s_li X dL_law_448 (fun x77 => ?_)
                      refine s_callV (ci := 11) (C := RX11) (As := [zi x76, zi x77]) (st := []) X (fun a => c_X11_ways l E a x76 x77) (gLt gL_law_X11_ways) rfl hy_X11_ways rfl rfl rfl rfl (Nat.le_of_ble_eq_true rfl) (by decide) dL_law_449 (fun x78 M => ?_)
                      refine s_pop X dL_law_452 rfl ?_
                      refine s_goto X 565 dL_law_453 (by decide) ?_
                      exact J565 r_0 r_1 r_2 r_3 x_4 _
                    · refine s_by (fun h80 => ?_) (fun h80 => ?_)
                      · refine s_tabIn X 8 456 h80 dL_law_40 (by decide) (by decide) (by decide) trivial ?_
                        refine s_aload_n X dL_law_456 1 rfl ?_
                        refine s_callV (ci := 10) (C := RX10) (As := []) (st := []) X (fun a => c_X10_arcs l E a) (gLt gL_law_X10_arcs) rfl hy_X10_arcs rfl rfl rfl rfl (Nat.le_of_ble_eq_true rfl) (by decide) dL_law_457 (fun x81 M => ?_)
                        refine s_pop X dL_law_460 rfl ?_
                        refine s_aload_n X dL_law_461 2 rfl ?_
                        refine s_callV (ci := 11) (C := RX11) (As := []) (st := []) X (fun a => c_X11_arcs l E a) (gLt gL_law_X11_arcs) rfl hy_X11_arcs rfl rfl rfl rfl (Nat.le_of_ble_eq_true rfl) (by decide) dL_law_462 (fun x83 M => ?_)
                        refine s_pop X dL_law_465 rfl ?_
                        refine s_goto X 565 dL_law_466 (by decide) ?_
                        exact J565 r_0 r_1 r_2 r_3 x_4 _
                      · refine s_by (fun h85 => ?_) (fun h85 => ?_)
                        · refine s_tabIn X 9 469 h85 dL_law_40 (by decide) (by decide) (by decide) trivial ?_
                          refine s_aload_n X dL_law_469 1 rfl ?_
                          refine s_aload_n X dL_law_470 0 rfl ?_
                          refine s_iload X dL_law_471 4 rfl ?_
                          refine s_iconst X 1 dL_law_473 (by decide) ?_
                          refine s_iadd X dL_law_474 ?_
                          refine s_li X dL_law_475 (fun x86 => ?_)
                          refine s_aload_n X dL_law_476 0 rfl ?_
                          refine s_iload X dL_law_477 4 rfl ?_
                          refine s_iconst X 2 dL_law_479 (by decide) ?_
                          refine s_iadd X dL_law_480 ?_
                          refine s_li X dL_law_481 (fun x87 => ?_)
                          refine s_if_eq X 489 dL_law_482 (by decide) (fun h88 => ?_) (fun h88 => ?_)
                          · refine s_iconst X 0 dL_law_489 (by decide) ?_
                            exact J490 r_0 r_1 r_2 r_3 x_4 r_1 x86 0 _
                          · refine s_iconst X 1 dL_law_485 (by decide) ?_
                            refine s_goto X 490 dL_law_486 (by decide) ?_
                            exact J490 r_0 r_1 r_2 r_3 x_4 r_1 x86 1 _
                        · refine s_tabOut X 565 dL_law_40 (by have := lv_neT h7 (show (0 : Int32).toInt = 0 by decide); have := lv_neT h13 (show (1 : Int32).toInt = 1 by decide); have := lv_neT h26 (show (2 : Int32).toInt = 2 by decide); have := lv_neT h41 (show (3 : Int32).toInt = 3 by decide); have := lv_neT h50 (show (4 : Int32).toInt = 4 by decide); have := lv_neT h57 (show (5 : Int32).toInt = 5 by decide); have := lv_neT h62 (show (6 : Int32).toInt = 6 by decide); have := lv_neT h71 (show (7 : Int32).toInt = 7 by decide); have := lv_neT h80 (show (8 : Int32).toInt = 8 by decide); have := lv_neT h85 (show (9 : Int32).toInt = 9 by decide); omega) (by decide) ?_
                          exact J565 r_0 r_1 r_2 r_3 x_4 _
  refine s_nwo (C := RX10) (T := TX10) (N := 5) (fs := [.null, .null, .null, .null, .null]) X rfl hiX10 tyX10 tyX10_ok (by decide +kernel) (by decide +kernel) (by decide +kernel) rfl (fun E j hj => by rcases z_lt5 hj with rfl | rfl | rfl | rfl | rfl <;> rfl) dL_law_0 (fun a1 M => ?_)
  refine s_dup X dL_law_3 rfl ?_
  refine s_callI (a := a1) (As := []) (st := [za ((some a1))]) X (c_X10_init l E a1) (gLt gL_law_X10_init) rfl (by decide +kernel) (by decide +kernel) (by decide +kernel) rfl hy_X10_init rfl rfl (Nat.le_of_ble_eq_true rfl) (by decide) dL_law_4 (fun M => ?_)
  refine s_astore_n X dL_law_7 (by decide) [(1, za ((some a1))), (0, za q0)] rfl ?_
  refine s_nwo (C := RX11) (T := TX11) (N := 32) (fs := [.null, .int 0, .null, .null, .null, .null, .int 0, .null, .null, .null, .null, .null, .int 0, .int 0, .null, .null, .int 0, .null, .null, .null, .null, .int 0, .int 0, .null, .null, .null, .null, .null, .null, .null, .null, .null]) X rfl hiX11 tyX11 tyX11_ok (by decide +kernel) (by decide +kernel) (by decide +kernel) rfl (fun E j hj => by rcases z_lt32 hj with rfl | rfl | rfl | rfl | rfl | rfl | rfl | rfl | rfl | rfl | rfl | rfl | rfl | rfl | rfl | rfl | rfl | rfl | rfl | rfl | rfl | rfl | rfl | rfl | rfl | rfl | rfl | rfl | rfl | rfl | rfl | rfl <;> rfl) dL_law_8 (fun a2 M => ?_)
  refine s_dup X dL_law_11 rfl ?_
  refine s_callI (a := a2) (As := []) (st := [za ((some a2))]) X (c_X11_init l E a2) (gLt gL_law_X11_init) rfl (by decide +kernel) (by decide +kernel) (by decide +kernel) rfl hy_X11_init rfl rfl (Nat.le_of_ble_eq_true rfl) (by decide) dL_law_12 (fun M => ?_)
  refine s_astore_n X dL_law_15 (by decide) [(2, za ((some a2))), (1, za ((some a1))), (0, za q0)] rfl ?_
  refine s_iconst X 1 dL_law_16 (by decide) ?_
  refine s_nwl X (by decide +kernel) dL_law_17 (fun a3 M => ?_)
  refine s_astore_n X dL_law_19 (by decide) [(3, za ((some a3))), (2, za ((some a2))), (1, za ((some a1))), (0, za q0)] rfl ?_
  refine s_iconst X 0 dL_law_20 (by decide) ?_
  refine s_istore X dL_law_21 (by decide) [(4, zi (0)), (3, za ((some a3))), (2, za ((some a2))), (1, za ((some a1))), (0, za q0)] rfl ?_
  refine s_lv [(0, za q0), (1, za ((some a1))), (2, za ((some a2))), (3, za ((some a3))), (4, zi (0))] [4, 3, 2, 1, 0] rfl ?_
  exact L23 z_N (q0, (some a1), (some a2), (some a3), 0) _
