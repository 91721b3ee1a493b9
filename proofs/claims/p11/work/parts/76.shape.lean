/-! shape, typed -/
section SH
variable {g : Nat → zC} {D : List Nat} {M : zM}
theorem g17_2 {b : Nat} (h : (gB ++ D)[b]? = some 17) : z_g0 ≤ b := by
  match b, h with
  | 0, h => exact absurd (Option.some.inj h) (by decide)
  | 1, h => exact absurd (Option.some.inj h) (by decide)
  | b + 2, _ => show 2 ≤ b + 2; omega
theorem k_8n (W : WT g D M) {b : Nat} (hb : (gB ++ D)[b]? = some 17) {Q : Unit → zM → Prop} (q : ∀ M', WT g D M' → M'[b]? = some (.inr (8, [.int (-1), .int 0, .int 0, .null, .int 0, .int 0, .int 0])) → Q () M') : z_T (F_X8_becomeNone b) M Q := by
  unfold F_X8_becomeNone
  have h2 := g17_2 hb
  obtain ⟨k, x, y, e, u, w, z, h, -⟩ := W.shape hb
  refine ht_bd (ht_pf h2 h (by simp) ?_)
  refine ht_bd (ht_pf h2 (z_gs h) (by simp) ?_)
  rw [List.set_set]
  refine ht_bd (ht_pf h2 (z_gs h) (by simp) ?_)
  rw [List.set_set]
  refine ht_bd (ht_pf h2 (z_gs h) (by simp) ?_)
  rw [List.set_set]
  refine ht_bd (ht_pf h2 (z_gs h) (by simp) ?_)
  rw [List.set_set]
  refine ht_bd (ht_pf h2 (z_gs h) (by simp) ?_)
  rw [List.set_set]
  refine ht_bd (ht_pf h2 (z_gs h) (by simp) ?_)
  rw [List.set_set]
  refine ht_ret (q _ (W.set hb ?_) (z_gs h))
  exact ⟨-1, 0, 0, none, 0, 0, 0, rfl, ⟨by decide, by decide⟩, fun h => absurd h (by decide), fun h => absurd h (by decide), fun a h => by cases h⟩
theorem k_8a (W : WT g D M) {b : Nat} (hb : (gB ++ D)[b]? = some 17) {p : Int32} {Q : Unit → zM → Prop} (q : ∀ M', WT g D M' → Q () M') : z_T (F_X8_becomeAmong b p) M Q := by
  unfold F_X8_becomeAmong
  have h2 := g17_2 hb
  obtain ⟨k, x, y, e, u, w, z, h, -⟩ := W.shape hb
  refine ht_bd (ht_rc h ?_)
  refine ht_bd (k_8n W hb fun M1 W1 h1 => ?_)
  refine ht_bd (ht_pf h2 h1 (by simp) ?_)
  refine ht_bd (ht_pf h2 (z_gs h1) (by simp) ?_)
  rw [List.set_set]
  refine ht_ret (q _ (W1.set hb ?_))
  exact ⟨4, p, 0, none, 0, 0, 0, rfl, ⟨by decide, by decide⟩, fun h => absurd h (by decide), fun h => absurd h (by decide), fun a h => by cases h⟩
theorem k_8o (W : WT g D M) {b : Nat} (hb : (gB ++ D)[b]? = some 17) {p : Int32} (hp : rg 0 15 p) {Q : Unit → zM → Prop} (q : ∀ M', WT g D M' → Q () M') : z_T (F_X8_becomeNot b p) M Q := by
  unfold F_X8_becomeNot
  have h2 := g17_2 hb
  obtain ⟨k, x, y, e, u, w, z, h, -⟩ := W.shape hb
  refine ht_bd (ht_rc h ?_)
  refine ht_bd (k_8n W hb fun M1 W1 h1 => ?_)
  refine ht_bd (ht_pf h2 h1 (by simp) ?_)
  refine ht_bd (ht_pf h2 (z_gs h1) (by simp) ?_)
  rw [List.set_set]
  refine ht_bd (ht_pf h2 (z_gs h1) (by simp) ?_)
  rw [List.set_set]
  refine ht_ret (q _ (W1.set hb ?_))
  exact ⟨3, p, 0, none, 0, 0, _, rfl, ⟨by decide, by decide⟩, fun _ => hp, fun h => absurd h (by decide), fun a h => by cases h⟩
theorem k_8p (W : WT g D M) {b : Nat} (hb : (gB ++ D)[b]? = some 17) {p s t : Int32} (hs : rg 0 15 s) (ht : rg 0 15 t) {Q : Unit → zM → Prop} (q : ∀ M', WT g D M' → Q () M') : z_T (F_X8_becomePair b p s t) M Q := by
  unfold F_X8_becomePair
  have h2 := g17_2 hb
  obtain ⟨k, x, y, e, u, w, z, h, -⟩ := W.shape hb
  refine ht_bd (ht_rc h ?_)
  refine ht_bd (k_8n W hb fun M1 W1 h1 => ?_)
  refine ht_bd (ht_pf h2 h1 (by simp) ?_)
  refine ht_bd (ht_pf h2 (z_gs h1) (by simp) ?_)
  rw [List.set_set]
  refine ht_bd (ht_pf h2 (z_gs h1) (by simp) ?_)
  rw [List.set_set]
  refine ht_bd (ht_pf h2 (z_gs h1) (by simp) ?_)
  rw [List.set_set]
  refine ht_ret (q _ (W1.set hb ?_))
  exact ⟨p, s, t, none, 0, 0, _, rfl, ⟨by decide, by decide⟩, fun _ => hs, fun _ => ht, fun a h => by cases h⟩
theorem k_8b (W : WT g D M) {b e : Nat} (hb : (gB ++ D)[b]? = some 17) (he : (gB ++ D)[e]? = some 103) {x c : Int32} (hc : c = 0 ∨ c = 1) {Q : Unit → zM → Prop} (q : ∀ M', WT g D M' → Q () M') : z_T (F_X8_becomeBare b (some e) x c) M Q := by
  unfold F_X8_becomeBare
  have h2 := g17_2 hb
  have hne : e ≠ b := fun e' => by rw [e'] at he; rw [hb] at he; cases he
  obtain ⟨k, x0, y, e0, u, w, z, h, -⟩ := W.shape hb
  refine ht_bd (ht_rc h ?_)
  refine ht_bd (k_8n W hb fun M1 W1 h1 => ?_)
  obtain ⟨w1, pl, bg, o1, i1, r1, hE, -⟩ := W1.expr he
  refine ht_bd (ht_pf h2 h1 (by simp) ?_)
  refine ht_bd (ht_pf h2 (z_gs h1) (by simp) ?_)
  rw [List.set_set]
  refine ht_bd (ht_pf h2 (z_gs h1) (by simp) ?_)
  rw [List.set_set]
  refine ht_bd (ht_ck hc ?_)
  refine ht_bd (ht_pf h2 (z_gs h1) (by simp) ?_)
  rw [List.set_set]
  refine ht_bd (ht_gi (by rw [z_go (Ne.symm hne)]; exact hE) (x := r1) rfl ?_)
  refine ht_bd (ht_pf h2 (z_gs h1) (by simp) ?_)
  rw [List.set_set]
  refine ht_ret (q _ (W1.set hb ?_))
  refine ⟨0, 0, 0, some e, x, c, r1, rfl, ?_, fun h => absurd h (by decide), fun h => absurd h (by decide), fun a h => by cases h; exact he⟩
  rcases hc with rfl | rfl <;> exact ⟨by decide, by decide⟩
theorem k_find (W : WT g D M) {p : Int32} {Q : Option Nat → zM → Prop} (q : ∀ r : Option Nat, (∀ a, r = some a → (gB ++ D)[a]? = some 103) → Q r M) : z_T (F_X4_find 14 p) M Q := by
  unfold F_X4_find F_X4_find_12 F_X4_find_22
  refine ht_if (fun _ => ht_ret (q none (fun a h => by cases h))) (fun h => ?_)
  have h : (0 : Int32).toInt ≤ p.toInt := i_nlt.mp h
  have := i0
  obtain ⟨c, hc, n, rfl, hn⟩ := W.get (a := 14) (t := 14) rfl
  refine ht_bd (ht_gi hc rfl ?_)
  refine ht_if (fun h1 => ?_) (fun _ => ht_ret (q none (fun a h => by cases h)))
  have h1 : p.toInt < n.toInt := i_lt.mp h1
  have hn2 := hn.2
  refine ht_bd (ht_ga hc (x := some 15) rfl ?_)
  obtain ⟨c15, hc15, es, rfl, hl, hes⟩ := W.get (a := 15) (t := 15) rfl
  have hi : p.toNatClampNeg < es.length := by show p.toInt.toNat < _; omega
  refine ht_bd (ht_la hc15 (by decide) (fun e => by have := Int32.lt_iff_toInt_lt.mp e; omega) (x := es[p.toNatClampNeg]) ?_ ?_)
  · rw [List.getElem?_map, List.getElem?_eq_getElem hi]; rfl
  refine ht_ret (q _ (fun a h => hes a ?_))
  rw [← h]
  exact List.getElem_mem hi
theorem c_shape (W : WT g D M) {p0 p1 p2 p3 p4 : Int32} {Q : Int32 → zM → Prop} (q : ∀ x M', WT g D M' → Q x M') : z_T (F_X10_shape 2 p0 p1 p2 p3 p4) M Q := by
  unfold F_X10_shape F_X10_shape_26
  rw [e_s10]
  refine ht_bd (ht_ret (ht_if (fun _ => ht_ret (q _ _ W)) (fun h0 => ?_)))
  have h0 := g_in_i (N := 16) (by decide) h0
  refine ht_bd (ht_ga W.top (x := some 16) rfl ?_)
  refine ht_bd (k_sh W h0.1 h0.2 fun b hb => ?_)
  refine ht_bd (ht_rc W.top ?_)
  have fin : ∀ (x : Int32) (M' : zM), WT g D M' → z_T (if x = 0 then (z_ret (-1)) else (z_bd (z_ga (some 2) 10 4) fun r8 => z_bd (z_rc r8 9) fun b9 => z_bd (F_X9_noteShapes b9) fun _ => z_ret 1)) M' Q := by
    intro x M' W'
    refine ht_if (fun _ => ht_ret (q _ _ W')) (fun _ => ?_)
    refine ht_bd (ht_ga W'.top (x := some 39) rfl ?_)
    obtain ⟨l, r, hh, hM, hr, hh2⟩ := W'.sol
    refine ht_bd (ht_rc hM ?_)
    refine ht_bd ?_
    unfold F_X9_noteShapes
    refine ht_bd (ht_pf (by decide) hM (by simp) ?_)
    refine ht_bd (ht_pf (by decide) (z_gs hM) (by simp) ?_)
    rw [List.set_set]
    refine ht_ret ?_
    exact ht_ret (q _ _ (W'.set (a := 39) (t := 39) rfl ⟨l, 1, 1, rfl, ⟨by decide, by decide⟩, by decide, by decide⟩))
  refine ht_bd ?_
  unfold F_X10_setShape F_X10_setShape_85 F_X10_setShape_66
  rw [e_s10, e_s10, z_rb0, z_rb1]
  obtain ⟨k, x, y, e, u, w, z, hS, -⟩ := W.shape hb
  have hbare : ∀ c : Int32, c = 0 ∨ c = 1 → z_T (z_bd (z_rc (some 2) 10) fun b24 => z_bd (F_X10_setBare b24 (some b) p2 (p3 &&& 255) c) fun x23 => z_rb x23) M fun a M' => z_T (if a = 0 then (z_ret (-1)) else (z_bd (z_ga (some 2) 10 4) fun r8 => z_bd (z_rc r8 9) fun b9 => z_bd (F_X9_noteShapes b9) fun _ => z_ret 1)) M' Q := by
    intro c hc
    refine ht_bd (ht_rc W.top ?_)
    refine ht_bd ?_
    unfold F_X10_setBare F_X10_setBare_23
    rw [z_rb0, z_rb1]
    refine ht_bd (ht_ga W.top (x := some 14) rfl ?_)
    obtain ⟨c14, hc14, n14, rfl, -⟩ := W.get (a := 14) (t := 14) rfl
    refine ht_bd (ht_rc hc14 ?_)
    refine ht_bd (k_find W fun r hr => ?_)
    refine ht_if (fun _ => ?_) (fun hne => ?_)
    · refine ht_ret ?_
      rw [z_rb0]
      exact ht_ret (fin 0 M W)
    · obtain ⟨a, rfl⟩ := Option.ne_none_iff_exists'.mp hne
      have ha := hr a rfl
      obtain ⟨w1, pl, bg, o1, i1, r1, hE, -⟩ := W.expr ha
      refine ht_bd (ht_gi hE rfl ?_)
      refine ht_if (fun _ => ?_) (fun _ => ?_)
      · refine ht_bd (ht_rc hS ?_)
        refine ht_bd (k_8b W hb ha hc fun M1 W1 => ?_)
        refine ht_ret ?_
        rw [z_rb1]
        exact ht_ret (fin 1 M1 W1)
      · refine ht_ret ?_
        rw [z_rb0]
        exact ht_ret (fin 0 M W)
  refine ht_if (fun _ => ?_) (fun _ => ?_)
  · refine ht_bd (ht_rc hS ?_)
    exact ht_bd (k_8n W hb fun M1 W1 _ => ht_ret (fin 1 M1 W1))
  refine ht_if (fun _ => ?_) (fun _ => ?_)
  · exact ht_if (fun _ => hbare 1 (Or.inr rfl)) (fun _ => hbare 0 (Or.inl rfl))
  have hpair : z_T (z_bd (z_ret (g_in 16 p2)) fun x6 => if x6 = 0 then (z_ret (0 : Int32)) else (z_bd (z_ret (g_in 16 p3)) fun x8 => if x8 = 0 then (z_ret 0) else (z_bd (z_rc (some b) 8) fun b10 => z_bd (F_X8_becomePair b10 p1 p2 p3) fun _ => z_ret 1))) M fun a M' => z_T (if a = 0 then (z_ret (-1)) else (z_bd (z_ga (some 2) 10 4) fun r8 => z_bd (z_rc r8 9) fun b9 => z_bd (F_X9_noteShapes b9) fun _ => z_ret 1)) M' Q := by
    refine ht_bd (ht_ret (ht_if (fun _ => ht_ret (fin 0 M W)) (fun g0 => ?_)))
    refine ht_bd (ht_ret (ht_if (fun _ => ht_ret (fin 0 M W)) (fun g1 => ?_)))
    have g0 := g_in_i (N := 16) (by decide) g0
    have g1 := g_in_i (N := 16) (by decide) g1
    refine ht_bd (ht_rc hS ?_)
    exact ht_bd (k_8p W hb ⟨g0.1, by omega⟩ ⟨g1.1, by omega⟩ fun M1 W1 => ht_ret (fin 1 M1 W1))
  refine ht_if (fun _ => hpair) (fun _ => ?_)
  refine ht_if (fun _ => hpair) (fun _ => ?_)
  refine ht_if (fun _ => ?_) (fun _ => ?_)
  · refine ht_bd (ht_ret (ht_if (fun _ => ht_ret (fin 0 M W)) (fun g0 => ?_)))
    have g0 := g_in_i (N := 16) (by decide) g0
    refine ht_bd (ht_rc hS ?_)
    exact ht_bd (k_8o W hb ⟨g0.1, by omega⟩ fun M1 W1 => ht_ret (fin 1 M1 W1))
  refine ht_if (fun _ => ?_) (fun _ => ht_ret (fin 0 M W))
  refine ht_bd (ht_rc hS ?_)
  exact ht_bd (k_8a W hb fun M1 W1 => ht_ret (fin 1 M1 W1))
end SH
