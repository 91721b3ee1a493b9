/-! ONE CALL ON FRESH OBJECTS: what class and reference answer, on their own pictures -/
def fr_1 : zM := fr_P ++ List.replicate 27 z_psn
def fr_2 (k : Nat) : zM := List.replicate 42 z_psn ++ .inr (11, fr_o 1287) :: (fr_E ++ List.replicate (k + 1) z_psn)
def g_in (n p : Int32) : Int32 := if p < 0 then 0 else if n ≤ p then 0 else 1
theorem z_rb0 : z_rb 0 = z_ret 0 := by unfold z_rb; exact if_pos (Or.inl rfl)
theorem z_rb1 : z_rb 1 = z_ret 1 := by unfold z_rb; exact if_pos (Or.inr rfl)
theorem g_pg {p n : Int32} : (if p < 0 then z_ret (0 : Int32) else if n ≤ p then z_ret 0 else z_ret 1) = z_ret (g_in n p) := by
  unfold g_in
  split
  · rfl
  · split <;> rfl
theorem e_n10 (p : Int32) : F_X10_isNode p = z_ret (g_in 16 p) := by
  unfold F_X10_isNode F_X10_isNode_14 F_X10_isNode_15
  rw [z_rb0, z_rb1]; exact g_pg
theorem e_l10 (p : Int32) : F_X10_isLabel p = z_ret (g_in 8 p) := by
  unfold F_X10_isLabel F_X10_isLabel_14 F_X10_isLabel_15
  rw [z_rb0, z_rb1]; exact g_pg
theorem e_s10 (p : Int32) : F_X10_isShape p = z_ret (g_in 16 p) := by
  unfold F_X10_isShape F_X10_isShape_14 F_X10_isShape_15
  rw [z_rb0, z_rb1]; exact g_pg
theorem e_n11 (p : Int32) : F_X11_isNode p = z_ret (g_in 16 p) := by
  unfold F_X11_isNode F_X11_isNode_14 F_X11_isNode_15
  rw [z_rb0, z_rb1]; exact g_pg
theorem e_l11 (p : Int32) : F_X11_isLabel p = z_ret (g_in 8 p) := by
  unfold F_X11_isLabel F_X11_isLabel_14 F_X11_isLabel_15
  rw [z_rb0, z_rb1]; exact g_pg
theorem e_s11 (p : Int32) : F_X11_isShape p = z_ret (g_in 16 p) := by
  unfold F_X11_isShape F_X11_isShape_14 F_X11_isShape_15
  rw [z_rb0, z_rb1]; exact g_pg
theorem g_in_ok {N : Nat} (hN : N < 2 ^ 31) {p : Int32} (h : ¬ g_in (Int32.ofNat N) p = 0) : ∃ n : Nat, n < N ∧ p = Int32.ofNat n := by
  unfold g_in at h
  split at h
  · exact absurd rfl h
  · rename_i h0
    split at h
    · exact absurd rfl h
    · rename_i h1
      have hp : 0 ≤ p := Int32.not_lt.mp h0
      have e := (Int32.ofNat_toNatClampNeg p hp).symm
      refine ⟨p.toNatClampNeg, ?_, e⟩
      rw [e] at h1
      have hl := Int32.toNatClampNeg_lt p
      exact Nat.lt_of_not_le fun g => h1 ((n_le hN hl).mpr g)
theorem ht_fx {σ ρ : Type} {body : (σ → zMn ρ) → σ → zMn ρ} {s : σ} {M : zM} {Q : ρ → zM → Prop} (h : z_T (body (z_fix body 1048575) s) M Q) : z_T (z_fix body z_N s) M Q := h
theorem ht_ev {α : Type} {x : zMn α} {P : zM} {v : α} (h : (x.1 P).map (fun r => r.1) = some v) : z_T x P fun a _ => a = v := by
  cases hx : x.1 P with
  | none => rw [hx] at h; cases h
  | some r => rw [hx] at h; exact ⟨r, hx, Option.some.inj h⟩
theorem g_rp {n m : Nat} {v : Value} (h : n < m) (hm : m < 2 ^ 31) : (List.replicate m v)[(Int32.ofNat n).toNatClampNeg]? = some v := by
  rw [n_cl (by omega), List.getElem?_replicate, if_pos h]
/-! arc -/
def a_arc (p0 p1 p2 p3 : Int32) : Int32 := if g_in 16 p0 = 0 then -1 else if g_in 8 p1 = 0 then -1 else if g_in 16 p2 = 0 then -1 else if p3 = 0 then 0 else 1
theorem x_ix0 {M : zM} {a ak ac : Nat} {cs : List Value} {p key : Int32} {Q : Int32 → zM → Prop} (h : M[a]? = some (.inr (1, [.ref ak, .ref ac]))) (hc : M[ac]? = some (.inl (0, cs))) (hp : ¬ p < 0) (h0 : cs[p.toNatClampNeg]? = some (.int 0)) (q : Q (-1) M) : z_T (F_X0_indexOf a p key) M Q := by
  unfold F_X0_indexOf F_X0_indexOf_2
  refine ht_fx ?_
  show z_T (B_X0_indexOf_2 a _ p key 0) M Q
  unfold B_X0_indexOf_2
  refine ht_bd (ht_ga h (x := some ac) rfl ?_)
  refine ht_bd (ht_li hc (by decide) hp h0 ?_)
  rw [if_pos (by decide)]
  exact ht_ret q
theorem x_fu0 {M : zM} {a ak ac : Nat} {cs : List Value} {p : Int32} {Q : Int32 → zM → Prop} (h : M[a]? = some (.inr (1, [.ref ak, .ref ac]))) (hc : M[ac]? = some (.inl (0, cs))) (hp : ¬ p < 0) (h0 : cs[p.toNatClampNeg]? = some (.int 0)) (q : Q 0 M) : z_T (F_X0_isFull a p) M Q := by
  unfold F_X0_isFull F_X0_isFull_15
  refine ht_bd (ht_ga h (x := some ac) rfl ?_)
  refine ht_bd (ht_li hc (by decide) hp h0 ?_)
  rw [if_pos (by decide), z_rb0]
  exact ht_ret q
theorem n_m4 {n : Nat} : Int32.ofNat n * 4 = Int32.ofNat (n * 4) := (Int32.ofNat_mul n 4).symm
theorem x_in0 {M : zM} {a ak ac n : Nat} {ks cs : List Value} {key : Int32} {Q : Unit → zM → Prop} (hak : 2 ≤ ak) (hac : 2 ≤ ac) (hne : ak ≠ ac) (hna : ak ≠ a) (h : M[a]? = some (.inr (1, [.ref ak, .ref ac]))) (hk : M[ak]? = some (.inl (0, ks))) (hc : M[ac]? = some (.inl (0, cs))) (hn : n < 16) (hkl : ks.length = 64) (h0 : cs[n]? = some (.int 0)) (q : Q () ((M.set ak (.inl (0, ks.set (n * 4) (.int key)))).set ac (.inl (0, cs.set n (.int 1))))) : z_T (F_X0_insert a (Int32.ofNat n) key) M Q := by
  have h0' : cs[(Int32.ofNat n).toNatClampNeg]? = some (.int 0) := by rw [n_cl (by omega)]; exact h0
  unfold F_X0_insert
  refine ht_bd (ht_rc h ?_)
  refine ht_bd (x_fu0 h hc (n_nn (by omega)) h0' ?_)
  rw [if_pos rfl]
  refine ht_bd (ht_ret ?_)
  refine ht_bd (ht_ga h (x := some ac) rfl ?_)
  refine ht_bd (ht_li hc (by decide) (n_nn (by omega)) h0' ?_)
  refine ht_bd (ht_ret ?_)
  unfold F_X0_insert_23
  refine ht_fx ?_
  show z_T (B_X0_insert_23 a _ (Int32.ofNat n) key (Int32.ofNat n * 4) (Int32.ofNat n * 4 + 0)) M Q
  unfold B_X0_insert_23
  have e : Int32.ofNat n * 4 + 0 = Int32.ofNat (n * 4) := by rw [n_m4, show (0 : Int32) = Int32.ofNat 0 from rfl, ← Int32.ofNat_add]; rfl
  rw [e, n_m4, if_pos ((n_le (by omega) (by omega)).mpr (Nat.le_refl _))]
  unfold F_X0_insert_64
  refine ht_bd (ht_ga h (x := some ak) rfl ?_)
  refine ht_bd (ht_si hak hk (n_nn (by omega)) (by rw [n_cl (by omega)]; omega) ?_)
  rw [n_cl (by omega)]
  have h' : (M.set ak (.inl (0, ks.set (n * 4) (.int key))))[a]? = some (.inr (1, [.ref ak, .ref ac])) := by rw [z_go hna]; exact h
  have hc' : (M.set ak (.inl (0, ks.set (n * 4) (.int key))))[ac]? = some (.inl (0, cs)) := by rw [z_go hne]; exact hc
  refine ht_bd (ht_ga h' (x := some ac) rfl ?_)
  refine ht_bd (ht_li hc' (by decide) (n_nn (by omega)) h0' ?_)
  refine ht_bd (ht_si hac hc' (n_nn (by omega)) (by rw [n_cl (by omega)]; exact (List.getElem?_eq_some_iff.mp h0).1) ?_)
  rw [n_cl (by omega)]
  exact ht_ret q
theorem x_arc (p0 p1 p2 p3 : Int32) : z_T (F_X10_arc 2 p0 p1 p2 p3) fr_1 fun x _ => x = a_arc p0 p1 p2 p3 := by
  unfold F_X10_arc F_X10_arc_21
  rw [e_n10, e_l10, e_n10]
  refine ht_bd (ht_ret (ht_if (fun h0 => ht_ret (by unfold a_arc; rw [if_pos h0])) (fun h0 => ?_)))
  refine ht_bd (ht_ret (ht_if (fun h1 => ht_ret (by unfold a_arc; rw [if_neg h0, if_pos h1])) (fun h1 => ?_)))
  refine ht_bd (ht_ret (ht_if (fun h2 => ht_ret (by unfold a_arc; rw [if_neg h0, if_neg h1, if_pos h2])) (fun h2 => ?_)))
  have ha : a_arc p0 p1 p2 p3 = if p3 = 0 then 0 else 1 := by unfold a_arc; rw [if_neg h0, if_neg h1, if_neg h2]
  rw [ha]
  obtain ⟨n, hn, rfl⟩ := g_in_ok (N := 16) (by decide) h0
  obtain ⟨m, hm, rfl⟩ := g_in_ok (N := 16) (by decide) h2
  refine ht_if (fun h3 => ?_) (fun h3 => ?_)
  · rw [if_pos h3]
    refine ht_bd (ht_ga rfl (x := some 7) rfl ?_)
    refine ht_bd (ht_rc rfl ?_)
    refine ht_bd ?_
    unfold F_X5_drop F_X5_keyOf
    refine ht_bd (ht_ret ?_)
    refine ht_bd (ht_ga rfl (x := some 8) rfl ?_)
    refine ht_bd (ht_rc rfl ?_)
    refine ht_bd (x_ix0 (ak := 9) (ac := 10) rfl rfl (n_nn (by omega)) (g_rp hn (by decide)) ?_)
    rw [if_neg (by decide)]
    refine ht_ret ?_
    unfold F_X10_arc_51 F_X10_arc_66
    rw [if_neg (by decide)]
    exact ht_ret rfl
  · rw [if_neg h3]
    refine ht_bd (ht_ga rfl (x := some 7) rfl ?_)
    refine ht_bd (ht_rc rfl ?_)
    refine ht_bd ?_
    unfold F_X5_put F_X5_keyOf
    refine ht_bd (ht_ret ?_)
    refine ht_bd (ht_ga rfl (x := some 8) rfl ?_)
    refine ht_bd (ht_rc rfl ?_)
    refine ht_bd (x_ix0 (ak := 9) (ac := 10) rfl rfl (n_nn (by omega)) (g_rp hn (by decide)) ?_)
    rw [if_pos (by decide)]
    refine ht_bd (ht_gi rfl (x := 0) rfl ?_)
    rw [if_neg (by decide)]
    refine ht_bd (ht_ga rfl (x := some 8) rfl ?_)
    refine ht_bd (ht_rc rfl ?_)
    refine ht_bd (x_fu0 (ak := 9) (ac := 10) rfl rfl (n_nn (by omega)) (g_rp hn (by decide)) ?_)
    rw [if_pos rfl]
    refine ht_bd (ht_ga rfl (x := some 11) rfl ?_)
    refine ht_bd (ht_rc rfl ?_)
    refine ht_bd (x_fu0 (ak := 12) (ac := 13) rfl rfl (n_nn (by omega)) (g_rp hm (by decide)) ?_)
    rw [if_pos rfl]
    refine ht_bd (ht_ga rfl (x := some 8) rfl ?_)
    refine ht_bd (ht_rc rfl ?_)
    refine ht_bd (x_in0 (ak := 9) (ac := 10) (by decide) (by decide) (by decide) (by decide) rfl rfl rfl hn (by decide) (by rw [List.getElem?_replicate, if_pos (show n < Int32.toNatClampNeg 16 from hn)]) ?_)
    generalize hA : (List.set (List.replicate (Int32.toNatClampNeg 64) (Value.int 0)) (n * 4) _) = A
    generalize hC : (List.set (List.replicate (Int32.toNatClampNeg 16) (Value.int 0)) n (Value.int 1)) = C
    refine ht_bd (ht_ga rfl (x := some 11) rfl ?_)
    refine ht_bd (ht_ret ?_)
    refine ht_bd (ht_rc rfl ?_)
    refine ht_bd (x_in0 (ak := 12) (ac := 13) (by decide) (by decide) (by decide) (by decide) rfl rfl rfl hm (by decide) (by rw [List.getElem?_replicate, if_pos (show m < Int32.toNatClampNeg 16 from hm)]) ?_)
    refine ht_bd (ht_gi rfl (x := 0) rfl ?_)
    refine ht_bd (ht_pf (by decide) rfl (by decide) ?_)
    refine ht_ret ?_
    unfold F_X10_arc_51 F_X10_arc_66 F_X9_noteArcs
    rw [if_pos rfl]
    refine ht_bd (ht_ga rfl (x := some 39) rfl ?_)
    refine ht_bd (ht_rc rfl ?_)
    refine ht_bd ?_
    refine ht_bd (ht_pf (by decide) rfl (by decide) ?_)
    refine ht_ret ?_
    exact ht_ret rfl
theorem y_fi0 {M : zM} {fs : List Value} {a b c : Int32} {Q : Int32 → zM → Prop} (h : M[42]? = some (.inr (11, fs))) (h1 : fs[1]? = some (.int 0)) (q : Q (-1) M) : z_T (F_X11_find 42 a b c) M Q := by
  unfold F_X11_find F_X11_find_3
  refine ht_fx ?_
  show z_T (B_X11_find_3 42 _ a b c 0) M Q
  unfold B_X11_find_3
  refine ht_bd (ht_gi h h1 ?_)
  rw [if_pos (by decide)]
  exact ht_ret q
theorem y_mn0 {M : zM} {fs : List Value} {a b : Int32} {Q : Int32 → zM → Prop} (h : M[42]? = some (.inr (11, fs))) (h1 : fs[1]? = some (.int 0)) (q : Q 0 M) : z_T (F_X11_many 42 a b) M Q := by
  unfold F_X11_many F_X11_many_5
  refine ht_fx ?_
  show z_T (B_X11_many_5 42 _ a b 0 0) M Q
  unfold B_X11_many_5
  refine ht_bd (ht_gi h h1 ?_)
  rw [if_pos (by decide)]
  exact ht_ret q
theorem y_arc (k : Nat) (p0 p1 p2 p3 : Int32) : z_T (F_X11_arc 42 p0 p1 p2 p3) (fr_2 k) fun x _ => x = a_arc p0 p1 p2 p3 := by
  unfold F_X11_arc F_X11_arc_26
  rw [e_n11, e_l11, e_n11]
  refine ht_bd (ht_pf (by decide) rfl (by decide) ?_)
  refine ht_bd (ht_ret (ht_if (fun h0 => ht_ret (by unfold a_arc; rw [if_pos h0])) (fun h0 => ?_)))
  refine ht_bd (ht_ret (ht_if (fun h1 => ht_ret (by unfold a_arc; rw [if_neg h0, if_pos h1])) (fun h1 => ?_)))
  refine ht_bd (ht_ret (ht_if (fun h2 => ht_ret (by unfold a_arc; rw [if_neg h0, if_neg h1, if_pos h2])) (fun h2 => ?_)))
  have ha : a_arc p0 p1 p2 p3 = if p3 = 0 then 0 else 1 := by unfold a_arc; rw [if_neg h0, if_neg h1, if_neg h2]
  rw [ha]
  refine ht_bd (ht_rc rfl ?_)
  refine ht_bd (y_fi0 rfl rfl ?_)
  rw [if_pos (by decide)]
  unfold F_X11_arc_49 F_X11_arc_88 F_X11_arc_195
  refine ht_if (fun h3 => ?_) (fun h3 => ?_)
  · rw [if_pos h3]
    exact ht_ret rfl
  · rw [if_neg h3, if_neg h3]
    refine ht_bd (ht_gi rfl (x := 0) rfl ?_)
    rw [if_neg (by decide)]
    refine ht_bd (ht_rc rfl ?_)
    refine ht_bd (y_mn0 rfl rfl ?_)
    rw [if_neg (by decide)]
    refine ht_bd (ht_rc rfl ?_)
    refine ht_bd (y_mn0 rfl rfl ?_)
    rw [if_neg (by decide)]
    refine ht_bd (ht_ga rfl (x := some 43) rfl ?_)
    refine ht_bd (ht_gi rfl (x := 0) rfl ?_)
    refine ht_bd (ht_si (by decide) rfl (by decide) (by simp only [List.length_set, List.length_replicate]; decide) ?_)
    refine ht_bd (ht_ga rfl (x := some 43) rfl ?_)
    refine ht_bd (ht_gi rfl (x := 0) rfl ?_)
    refine ht_bd (ht_si (by decide) rfl (by decide) (by simp only [List.length_set, List.length_replicate]; decide) ?_)
    refine ht_bd (ht_ga rfl (x := some 43) rfl ?_)
    refine ht_bd (ht_gi rfl (x := 0) rfl ?_)
    refine ht_bd (ht_si (by decide) rfl (by decide) (by simp only [List.length_set, List.length_replicate]; decide) ?_)
    refine ht_bd (ht_gi rfl (x := 0) rfl ?_)
    refine ht_bd (ht_pf (by decide) rfl (by decide) ?_)
    refine ht_bd (ht_pf (by decide) rfl (by decide) ?_)
    exact ht_ret rfl
/-! arcs -/
theorem x_arcs : z_T (F_X10_arcs 2) fr_1 fun x _ => x = 0 := by
  unfold F_X10_arcs
  refine ht_bd (ht_ga rfl (x := some 7) rfl ?_)
  refine ht_bd (ht_gi rfl (x := 0) rfl ?_)
  exact ht_ret rfl
theorem y_arcs (k : Nat) : z_T (F_X11_arcs 42) (fr_2 k) fun x _ => x = 0 := by
  unfold F_X11_arcs
  refine ht_bd (ht_pf (by decide) rfl (by decide) ?_)
  refine ht_bd (ht_gi rfl (x := 0) rfl ?_)
  exact ht_ret rfl
/-! expression -/
def a_ex (p0 p1 p2 : Int32) : Int32 := if p0 = 0 ∨ p0 = 1 then (if g_in 8 p1 = 0 then -1 else if p2 = -1 then 0 else if g_in 16 p2 = 0 then -1 else 0) else if p0 = 5 then 0 else -1
set_option maxRecDepth 100000 in
theorem x_pl0_0_0 : ∀ s : Fin 17, ((F_X10_addPlace_21 2 (Int32.ofNat 0) (Int32.ofNat 0) (Int32.ofNat s.1 - 1)).1 fr_1).map (fun r => r.1) = some 0 := by decide +kernel
set_option maxRecDepth 100000 in
theorem x_pl0_0_1 : ∀ s : Fin 17, ((F_X10_addPlace_21 2 (Int32.ofNat 0) (Int32.ofNat 1) (Int32.ofNat s.1 - 1)).1 fr_1).map (fun r => r.1) = some 0 := by decide +kernel
set_option maxRecDepth 100000 in
theorem x_pl0_0_2 : ∀ s : Fin 17, ((F_X10_addPlace_21 2 (Int32.ofNat 0) (Int32.ofNat 2) (Int32.ofNat s.1 - 1)).1 fr_1).map (fun r => r.1) = some 0 := by decide +kernel
set_option maxRecDepth 100000 in
theorem x_pl0_0_3 : ∀ s : Fin 17, ((F_X10_addPlace_21 2 (Int32.ofNat 0) (Int32.ofNat 3) (Int32.ofNat s.1 - 1)).1 fr_1).map (fun r => r.1) = some 0 := by decide +kernel
set_option maxRecDepth 100000 in
theorem x_pl0_0_4 : ∀ s : Fin 17, ((F_X10_addPlace_21 2 (Int32.ofNat 0) (Int32.ofNat 4) (Int32.ofNat s.1 - 1)).1 fr_1).map (fun r => r.1) = some 0 := by decide +kernel
set_option maxRecDepth 100000 in
theorem x_pl0_0_5 : ∀ s : Fin 17, ((F_X10_addPlace_21 2 (Int32.ofNat 0) (Int32.ofNat 5) (Int32.ofNat s.1 - 1)).1 fr_1).map (fun r => r.1) = some 0 := by decide +kernel
set_option maxRecDepth 100000 in
theorem x_pl0_0_6 : ∀ s : Fin 17, ((F_X10_addPlace_21 2 (Int32.ofNat 0) (Int32.ofNat 6) (Int32.ofNat s.1 - 1)).1 fr_1).map (fun r => r.1) = some 0 := by decide +kernel
set_option maxRecDepth 100000 in
theorem x_pl0_0_7 : ∀ s : Fin 17, ((F_X10_addPlace_21 2 (Int32.ofNat 0) (Int32.ofNat 7) (Int32.ofNat s.1 - 1)).1 fr_1).map (fun r => r.1) = some 0 := by decide +kernel
set_option maxRecDepth 100000 in
theorem x_pl0_1_0 : ∀ s : Fin 17, ((F_X10_addPlace_21 2 (Int32.ofNat 1) (Int32.ofNat 0) (Int32.ofNat s.1 - 1)).1 fr_1).map (fun r => r.1) = some 0 := by decide +kernel
set_option maxRecDepth 100000 in
theorem x_pl0_1_1 : ∀ s : Fin 17, ((F_X10_addPlace_21 2 (Int32.ofNat 1) (Int32.ofNat 1) (Int32.ofNat s.1 - 1)).1 fr_1).map (fun r => r.1) = some 0 := by decide +kernel
set_option maxRecDepth 100000 in
theorem x_pl0_1_2 : ∀ s : Fin 17, ((F_X10_addPlace_21 2 (Int32.ofNat 1) (Int32.ofNat 2) (Int32.ofNat s.1 - 1)).1 fr_1).map (fun r => r.1) = some 0 := by decide +kernel
set_option maxRecDepth 100000 in
theorem x_pl0_1_3 : ∀ s : Fin 17, ((F_X10_addPlace_21 2 (Int32.ofNat 1) (Int32.ofNat 3) (Int32.ofNat s.1 - 1)).1 fr_1).map (fun r => r.1) = some 0 := by decide +kernel
set_option maxRecDepth 100000 in
theorem x_pl0_1_4 : ∀ s : Fin 17, ((F_X10_addPlace_21 2 (Int32.ofNat 1) (Int32.ofNat 4) (Int32.ofNat s.1 - 1)).1 fr_1).map (fun r => r.1) = some 0 := by decide +kernel
set_option maxRecDepth 100000 in
theorem x_pl0_1_5 : ∀ s : Fin 17, ((F_X10_addPlace_21 2 (Int32.ofNat 1) (Int32.ofNat 5) (Int32.ofNat s.1 - 1)).1 fr_1).map (fun r => r.1) = some 0 := by decide +kernel
set_option maxRecDepth 100000 in
theorem x_pl0_1_6 : ∀ s : Fin 17, ((F_X10_addPlace_21 2 (Int32.ofNat 1) (Int32.ofNat 6) (Int32.ofNat s.1 - 1)).1 fr_1).map (fun r => r.1) = some 0 := by decide +kernel
set_option maxRecDepth 100000 in
theorem x_pl0_1_7 : ∀ s : Fin 17, ((F_X10_addPlace_21 2 (Int32.ofNat 1) (Int32.ofNat 7) (Int32.ofNat s.1 - 1)).1 fr_1).map (fun r => r.1) = some 0 := by decide +kernel
theorem x_pl0 (o : Fin 2) (l : Fin 8) (s : Fin 17) : ((F_X10_addPlace_21 2 (Int32.ofNat o.1) (Int32.ofNat l.1) (Int32.ofNat s.1 - 1)).1 fr_1).map (fun r => r.1) = some 0 := by
  match o, l with
  | ⟨0, _⟩, ⟨0, _⟩ => exact x_pl0_0_0 s
  | ⟨0, _⟩, ⟨1, _⟩ => exact x_pl0_0_1 s
  | ⟨0, _⟩, ⟨2, _⟩ => exact x_pl0_0_2 s
  | ⟨0, _⟩, ⟨3, _⟩ => exact x_pl0_0_3 s
  | ⟨0, _⟩, ⟨4, _⟩ => exact x_pl0_0_4 s
  | ⟨0, _⟩, ⟨5, _⟩ => exact x_pl0_0_5 s
  | ⟨0, _⟩, ⟨6, _⟩ => exact x_pl0_0_6 s
  | ⟨0, _⟩, ⟨7, _⟩ => exact x_pl0_0_7 s
  | ⟨1, _⟩, ⟨0, _⟩ => exact x_pl0_1_0 s
  | ⟨1, _⟩, ⟨1, _⟩ => exact x_pl0_1_1 s
  | ⟨1, _⟩, ⟨2, _⟩ => exact x_pl0_1_2 s
  | ⟨1, _⟩, ⟨3, _⟩ => exact x_pl0_1_3 s
  | ⟨1, _⟩, ⟨4, _⟩ => exact x_pl0_1_4 s
  | ⟨1, _⟩, ⟨5, _⟩ => exact x_pl0_1_5 s
  | ⟨1, _⟩, ⟨6, _⟩ => exact x_pl0_1_6 s
  | ⟨1, _⟩, ⟨7, _⟩ => exact x_pl0_1_7 s
theorem x_pl (o : Fin 2) (p1 p2 : Int32) : z_T (F_X10_addPlace 2 (Int32.ofNat o.1) p1 p2) fr_1 fun x _ => x = a_ex 0 p1 p2 := by
  unfold F_X10_addPlace F_X10_addPlace_19
  rw [e_l10, e_s10]
  have ha : a_ex 0 p1 p2 = (if g_in 8 p1 = 0 then -1 else if p2 = -1 then 0 else if g_in 16 p2 = 0 then -1 else 0) := by unfold a_ex; rw [if_pos (Or.inl rfl)]
  rw [ha]
  refine ht_bd (ht_ret (ht_if (fun h0 => ht_ret (by rw [if_pos h0])) (fun h0 => ?_)))
  rw [if_neg h0]
  obtain ⟨n, hn, rfl⟩ := g_in_ok (N := 8) (by decide) h0
  by_cases h1 : p2 = -1
  · subst h1
    rw [if_pos rfl, if_pos rfl]
    exact ht_ev (x_pl0 o ⟨n, hn⟩ ⟨0, by decide⟩)
  · rw [if_neg h1, if_neg h1]
    refine ht_bd (ht_ret (ht_if (fun h2 => ht_ret (by rw [if_pos h2])) (fun h2 => ?_)))
    rw [if_neg h2]
    obtain ⟨m, hm, rfl⟩ := g_in_ok (N := 16) (by decide) h2
    have := ht_ev (x_pl0 o ⟨n, hn⟩ ⟨m + 1, by omega⟩)
    have e : Int32.ofNat (m + 1) - 1 = Int32.ofNat m := by
      rw [show (1 : Int32) = Int32.ofNat 1 from rfl, ← Int32.ofNat_sub _ _ (by omega)]; rfl
    dsimp only at this
    rw [e] at this
    exact this
theorem x_fd0 {M : zM} {a r2 : Nat} {v : Value} {p : Int32} {Q : Option Nat → zM → Prop} (h : M[a]? = some (.inr (4, [.ref r2, v, .int 0]))) (q : Q none M) : z_T (F_X4_find a p) M Q := by
  unfold F_X4_find F_X4_find_12 F_X4_find_22
  refine ht_if (fun _ => ht_ret q) (fun h0 => ?_)
  refine ht_bd (ht_gi h (x := 0) rfl ?_)
  rw [if_neg h0]
  exact ht_ret q
theorem x_pr (s p1 p2 : Int32) : z_T (F_X10_addPair 2 s p1 p2) fr_1 fun x _ => x = -1 := by
  unfold F_X10_addPair F_X10_addPair_30
  refine ht_bd (ht_ga rfl (x := some 14) rfl ?_)
  refine ht_bd (ht_rc rfl ?_)
  refine ht_bd (x_fd0 rfl ?_)
  refine ht_bd (ht_ga rfl (x := some 14) rfl ?_)
  refine ht_bd (ht_rc rfl ?_)
  refine ht_bd (x_fd0 rfl ?_)
  rw [if_pos rfl]
  exact ht_ret rfl
theorem x_rp (p1 p2 p3 : Int32) : z_T (F_X10_addRepeated 2 p1 p2 p3) fr_1 fun x _ => x = -1 := by
  unfold F_X10_addRepeated F_X10_addRepeated_19
  refine ht_bd (ht_ga rfl (x := some 14) rfl ?_)
  refine ht_bd (ht_rc rfl ?_)
  refine ht_bd (x_fd0 rfl ?_)
  rw [if_pos rfl]
  exact ht_ret rfl
theorem x_no0 : ((F_X4_addNothing 14).1 fr_1).map (fun r => r.1) = some 0 := by decide +kernel
theorem x_ex (p0 p1 p2 p3 : Int32) : z_T (F_X10_expression 2 p0 p1 p2 p3) fr_1 fun x _ => x = a_ex p0 p1 p2 := by
  unfold F_X10_expression F_X10_expression_50 F_X10_expression_67 F_X10_expression_104
  refine ht_if (fun h => ?_) (fun h0 => ?_)
  · subst h
    rw [if_pos rfl]
    refine ht_bd (ht_rc rfl ?_)
    refine ht_call (x_pl 1 p1 p2) (fun a M e => ?_)
    exact ht_ret e
  refine ht_if (fun h => ?_) (fun h1 => ?_)
  · subst h
    rw [if_neg h0]
    refine ht_bd (ht_rc rfl ?_)
    refine ht_call (x_pl 0 p1 p2) (fun a M e => ?_)
    exact ht_ret (e.trans (by unfold a_ex; rw [if_pos (Or.inl rfl), if_pos (Or.inr rfl)]))
  refine ht_if (fun h => ?_) (fun h2 => ?_)
  · subst h
    rw [if_pos rfl]
    refine ht_bd (ht_rc rfl ?_)
    refine ht_call (x_pr 1 p1 p2) (fun a M e => ?_)
    exact ht_ret (e.trans (by unfold a_ex; rw [if_neg (by decide), if_neg (by decide)]))
  refine ht_if (fun h => ?_) (fun h3 => ?_)
  · subst h
    rw [if_neg h2]
    refine ht_bd (ht_rc rfl ?_)
    refine ht_call (x_pr 0 p1 p2) (fun a M e => ?_)
    exact ht_ret (e.trans (by unfold a_ex; rw [if_neg (by decide), if_neg (by decide)]))
  refine ht_if (fun h => ?_) (fun h4 => ?_)
  · subst h
    refine ht_bd (ht_rc rfl ?_)
    refine ht_call (x_rp p1 p2 p3) (fun a M e => ?_)
    exact ht_ret (e.trans (by unfold a_ex; rw [if_neg (by decide), if_neg (by decide)]))
  refine ht_if (fun h => ?_) (fun h5 => ?_)
  · subst h
    refine ht_bd (ht_ga rfl (x := some 14) rfl ?_)
    refine ht_bd (ht_rc rfl ?_)
    refine ht_bd ?_
    unfold F_X4_isFull F_X4_isFull_14
    refine ht_bd (ht_gi rfl (x := 0) rfl ?_)
    rw [if_pos (by decide), z_rb0]
    refine ht_ret ?_
    rw [if_pos rfl]
    refine ht_bd (ht_ga rfl (x := some 14) rfl ?_)
    refine ht_bd (ht_rc rfl ?_)
    refine ht_call (ht_ev x_no0) (fun a M e => ?_)
    exact ht_ret (e.trans (by unfold a_ex; rw [if_neg (by decide), if_pos rfl]))
  · exact ht_ret (by unfold a_ex; rw [if_neg (by rintro (h | h); exact h0 h; exact h1 h), if_neg h5])
theorem y_ie0 {M : zM} {fs : List Value} {p : Int32} {Q : Int32 → zM → Prop} (h : M[42]? = some (.inr (11, fs))) (h6 : fs[6]? = some (.int 0)) (q : Q 0 M) : z_T (F_X11_isExpression 42 p) M Q := by
  unfold F_X11_isExpression F_X11_isExpression_16 F_X11_isExpression_17
  rw [z_rb0]
  refine ht_if (fun _ => ht_ret q) (fun h0 => ?_)
  refine ht_bd (ht_gi h h6 ?_)
  rw [if_pos (Int32.not_lt.mp h0)]
  exact ht_ret q
theorem y_135 {k : Nat} {p0 p1 p2 p3 : Int32} : z_T (F_X11_expression_135 42 p0 p1 p2 p3 1) ((fr_2 k).set 42 (.inr (11, (fr_o 1287).set 22 (.int 0)))) fun x _ => x = 0 := by
  unfold F_X11_expression_135
  rw [if_neg (by decide)]
  refine ht_bd (ht_gi rfl (x := 0) rfl ?_)
  rw [if_neg (by decide)]
  refine ht_bd (ht_ga rfl (x := some 44) rfl ?_)
  refine ht_bd (ht_gi rfl (x := 0) rfl ?_)
  refine ht_bd (ht_si (by decide) rfl (by decide) (by simp only [List.length_set, List.length_replicate]; decide) ?_)
  refine ht_bd (ht_ga rfl (x := some 45) rfl ?_)
  refine ht_bd (ht_gi rfl (x := 0) rfl ?_)
  refine ht_bd (ht_si (by decide) rfl (by decide) (by simp only [List.length_set, List.length_replicate]; decide) ?_)
  refine ht_bd (ht_ga rfl (x := some 46) rfl ?_)
  refine ht_bd (ht_gi rfl (x := 0) rfl ?_)
  refine ht_bd (ht_si (by decide) rfl (by decide) (by simp only [List.length_set, List.length_replicate]; decide) ?_)
  refine ht_bd (ht_ga rfl (x := some 47) rfl ?_)
  refine ht_bd (ht_gi rfl (x := 0) rfl ?_)
  refine ht_bd (ht_si (by decide) rfl (by decide) (by simp only [List.length_set, List.length_replicate]; decide) ?_)
  refine ht_bd (ht_gi rfl (x := 0) rfl ?_)
  refine ht_bd (ht_pf (by decide) rfl (by decide) ?_)
  refine ht_bd (ht_gi rfl (x := 1) rfl ?_)
  exact ht_ret rfl
theorem y_135n {M : zM} {p0 p1 p2 p3 : Int32} : z_T (F_X11_expression_135 42 p0 p1 p2 p3 0) M fun x _ => x = -1 := by
  unfold F_X11_expression_135
  rw [if_pos rfl]
  exact ht_ret rfl
theorem y_pl {k : Nat} {q p0 p1 p2 p3 : Int32} (hq : q = a_ex 0 p1 p2) : z_T (z_bd (F_X11_isLabel p1) fun x2 => if x2 = 0 then (F_X11_expression_63 42 p0 p1 p2 p3) else (if p2 = ((-1)) then (F_X11_expression_59 42 p0 p1 p2 p3) else (z_bd (F_X11_isShape p2) fun x5 => if x5 = 0 then (F_X11_expression_63 42 p0 p1 p2 p3) else (F_X11_expression_59 42 p0 p1 p2 p3)))) ((fr_2 k).set 42 (.inr (11, (fr_o 1287).set 22 (.int 0)))) fun x _ => x = q := by
  subst hq
  unfold F_X11_expression_63 F_X11_expression_59 F_X11_expression_64
  rw [e_l11, e_s11]
  have ha : a_ex 0 p1 p2 = (if g_in 8 p1 = 0 then -1 else if p2 = -1 then 0 else if g_in 16 p2 = 0 then -1 else 0) := by unfold a_ex; rw [if_pos (Or.inl rfl)]
  rw [ha]
  refine ht_bd (ht_ret (ht_if (fun h0 => by rw [if_pos h0]; exact y_135n) (fun h0 => ?_)))
  rw [if_neg h0]
  by_cases h1 : p2 = -1
  · rw [if_pos h1, if_pos h1]
    exact y_135
  · rw [if_neg h1, if_neg h1]
    refine ht_bd (ht_ret (ht_if (fun h2 => by rw [if_pos h2]; exact y_135n) (fun h2 => ?_)))
    rw [if_neg h2]
    exact y_135
theorem y_ex (k : Nat) (p0 p1 p2 p3 : Int32) : z_T (F_X11_expression 42 p0 p1 p2 p3) (fr_2 k) fun x _ => x = a_ex p0 p1 p2 := by
  unfold F_X11_expression
  refine ht_bd (ht_pf (by decide) rfl (by decide) ?_)
  refine ht_if (fun h => ?_) (fun h0 => ?_)
  · subst h
    exact y_pl rfl
  refine ht_if (fun h => ?_) (fun h1 => ?_)
  · subst h
    exact y_pl (by unfold a_ex; rw [if_pos (Or.inl rfl), if_pos (Or.inr rfl)])
  unfold F_X11_expression_89 F_X11_expression_90 F_X11_expression_117 F_X11_expression_118 F_X11_expression_133
  refine ht_if (fun h => ?_) (fun h2 => ?_)
  · subst h
    refine ht_bd (ht_rc rfl ?_)
    refine ht_bd (y_ie0 rfl rfl ?_)
    rw [if_pos rfl]
    exact y_135n
  refine ht_if (fun h => ?_) (fun h3 => ?_)
  · subst h
    refine ht_bd (ht_rc rfl ?_)
    refine ht_bd (y_ie0 rfl rfl ?_)
    rw [if_pos rfl]
    exact y_135n
  refine ht_if (fun h => ?_) (fun h4 => ?_)
  · subst h
    refine ht_bd (ht_rc rfl ?_)
    refine ht_bd (y_ie0 rfl rfl ?_)
    rw [if_pos rfl]
    exact y_135n
  refine ht_if (fun h => ?_) (fun h5 => ?_)
  · subst h
    exact y_135
  · have : a_ex p0 p1 p2 = -1 := by unfold a_ex; rw [if_neg (by rintro (h | h); exact h0 h; exact h1 h), if_neg h5]
    rw [this]
    exact y_135n
