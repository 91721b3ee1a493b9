/-! THE REFERENCE's TABLES OF BAGS, by what they hold -/
def TBJ (b : Nat) (p q r : List Value) : Prop := (∀ i, i < g_cnt b → ∃ x, x < b ∧ g_ds x ≤ 8 ∧ q[i]? = some (.int (Int32.ofNat x)) ∧ r[i]? = some (.int (Int32.ofNat (g_ds x)))) ∧ ∀ x, x < b → g_ds x ≤ 8 → ∃ i, i < g_cnt b ∧ p[x]? = some (.int (Int32.ofNat i))
def fr_J3 (M0 : zM) (c : Nat) (p q r : List Value) (M : zM) : Prop := M.length = M0.length ∧ zsz M = zsz M0 ∧ M[42]? = some (.inr (11, fr_o (Int32.ofNat c))) ∧ (M[53]? = some (.inl (0, q)) ∧ q.length = 1300) ∧ (M[54]? = some (.inl (0, r)) ∧ r.length = 1300) ∧ (M[55]? = some (.inl (0, p)) ∧ p.length = 59049) ∧ ∀ i, i ≠ 42 → i ≠ 53 → i ≠ 54 → i ≠ 55 → M[i]? = M0[i]?
theorem fr_K55 {M0 M : zM} {c : Nat} {p q r p' : List Value} (h : fr_J3 M0 c p q r M) (hl : p'.length = p.length) : fr_J3 M0 c p' q r (M.set 55 (.inl (0, p'))) := by
  obtain ⟨h1, h2, h3, ⟨h4, h4'⟩, ⟨h5, h5'⟩, ⟨h6, h6'⟩, h7⟩ := h
  refine ⟨by simpa using h1, by rw [zsz_set M 55 _ _ h6 (by simp [zn, hl])]; exact h2, by rw [z_go (by decide)]; exact h3, ⟨by rw [z_go (by decide)]; exact h4, h4'⟩, ⟨by rw [z_go (by decide)]; exact h5, h5'⟩, ⟨z_gs h6, by omega⟩, fun i a b c d => ?_⟩
  rw [z_go (fun e => d e.symm)]
  exact h7 i a b c d
theorem fr_K53 {M0 M : zM} {c : Nat} {p q r q' : List Value} (h : fr_J3 M0 c p q r M) (hl : q'.length = q.length) : fr_J3 M0 c p q' r (M.set 53 (.inl (0, q'))) := by
  obtain ⟨h1, h2, h3, ⟨h4, h4'⟩, ⟨h5, h5'⟩, ⟨h6, h6'⟩, h7⟩ := h
  refine ⟨by simpa using h1, by rw [zsz_set M 53 _ _ h4 (by simp [zn, hl])]; exact h2, by rw [z_go (by decide)]; exact h3, ⟨z_gs h4, by omega⟩, ⟨by rw [z_go (by decide)]; exact h5, h5'⟩, ⟨by rw [z_go (by decide)]; exact h6, h6'⟩, fun i a b c d => ?_⟩
  rw [z_go (fun e => b e.symm)]
  exact h7 i a b c d
theorem fr_K54 {M0 M : zM} {c : Nat} {p q r r' : List Value} (h : fr_J3 M0 c p q r M) (hl : r'.length = r.length) : fr_J3 M0 c p q r' (M.set 54 (.inl (0, r'))) := by
  obtain ⟨h1, h2, h3, ⟨h4, h4'⟩, ⟨h5, h5'⟩, ⟨h6, h6'⟩, h7⟩ := h
  refine ⟨by simpa using h1, by rw [zsz_set M 54 _ _ h5 (by simp [zn, hl])]; exact h2, by rw [z_go (by decide)]; exact h3, ⟨by rw [z_go (by decide)]; exact h4, h4'⟩, ⟨z_gs h5, by omega⟩, ⟨by rw [z_go (by decide)]; exact h6, h6'⟩, fun i a b c d => ?_⟩
  rw [z_go (fun e => c e.symm)]
  exact h7 i a b c d
theorem fr_K42 {M0 M : zM} {c c' : Nat} {p q r : List Value} (h : fr_J3 M0 c p q r M) : fr_J3 M0 c' p q r (M.set 42 (.inr (11, fr_o (Int32.ofNat c')))) := by
  obtain ⟨h1, h2, h3, ⟨h4, h4'⟩, ⟨h5, h5'⟩, ⟨h6, h6'⟩, h7⟩ := h
  refine ⟨by simpa using h1, by rw [zsz_set M 42 _ (.inr (11, fr_o (Int32.ofNat c'))) h3 rfl]; exact h2, z_gs h3, ⟨by rw [z_go (by decide)]; exact h4, h4'⟩, ⟨by rw [z_go (by decide)]; exact h5, h5'⟩, ⟨by rw [z_go (by decide)]; exact h6, h6'⟩, fun i a b c d => ?_⟩
  rw [z_go (fun e => a e.symm)]
  exact h7 i a b c d
theorem fr_233t {M0 M1 : zM} {p0 q0 r0 : List Value} (hJ : fr_J3 M0 0 p0 q0 r0 M1) : z_T (F_X11_init_233 42 z_N 0) M1 fun _ M => ∃ p q r, fr_J3 M0 1287 p q r M ∧ TBJ 59049 p q r := by
  refine ht_fix (body := fun ih s => B_X11_init_233 42 (fun y0 => ih y0) s) (I := fun n s M => ∃ (b : Nat) (p q r : List Value), s = Int32.ofNat b ∧ n + b = 59049 ∧ fr_J3 M0 (g_cnt b) p q r M ∧ TBJ b p q r) ?_ z_N 59049 0 M1 (by decide) ⟨0, p0, q0, r0, rfl, rfl, hJ, fun i hi => by exact absurd hi (Nat.not_lt_zero _), fun x hx => by omega⟩
  intro n s M ih hI hih
  obtain ⟨b, p, q, r, rfl, hb, hM, hT⟩ := hI
  unfold B_X11_init_233
  refine ht_if (fun h => ?_) (fun h => ?_)
  · have h' : 59049 ≤ b := (n_le (a := 59049) (by decide) (by omega)).mp h
    have e1 : b = 59049 := by omega
    subst e1
    rw [g_cnt_all] at hM
    exact ht_ret ⟨p, q, r, hM, hT⟩
  · have hlt : b < 59049 := Nat.lt_of_not_le fun g => h ((n_le (a := 59049) (by decide) (by omega)).mpr g)
    have hnext : ∀ M' p' q' r', fr_J3 M0 (g_cnt (b + 1)) p' q' r' M' → TBJ (b + 1) p' q' r' → z_T (F_X11_init_318 42 (fun y0 => ih y0) (Int32.ofNat b)) M' fun _ M => ∃ p q r, fr_J3 M0 1287 p q r M ∧ TBJ 59049 p q r := by
      intro M' p' q' r' hM' hT'
      unfold F_X11_init_318
      rw [n_s]
      exact hih (n - 1) _ _ (by omega) ⟨b + 1, p', q', r', rfl, by omega, hM', hT'⟩
    refine ht_fix (body := fun ih2 s => B_X11_init_243 42 (fun y0 => ih y0) (fun y0 y1 y2 => ih2 (y0, y1, y2)) s.1 s.2.1 s.2.2) (I := fun m s M' => M' = M ∧ ∃ u : Nat, s = (Int32.ofNat b, Int32.ofNat u, Int32.ofNat m) ∧ m < 59049 ∧ u + g_ds m = g_ds b) ?_ z_N b _ M (Nat.lt_of_lt_of_le hlt (by decide)) ⟨rfl, 0, rfl, hlt, by omega⟩
    intro m s M' ih2 hI2 hih2
    obtain ⟨rfl, u, rfl, hm, hu⟩ := hI2
    have hub : u ≤ 45 := by
      have : g_ds b ≤ 45 := by unfold g_ds; omega
      omega
    unfold B_X11_init_243
    refine ht_if (fun h2 => ?_) (fun h2 => ?_)
    · have e0 : m = 0 := by
        have := (n_le (a := m) (b := 0) (by omega) (by decide)).mp h2
        omega
      subst e0
      have hu' : u = g_ds b := by
        have : g_ds 0 = 0 := rfl
        omega
      have h42 := hM.2.2.1
      have hpl := hM.2.2.2.2.2.1.2
      refine ht_bd (ht_ga h42 (x := some 55) rfl ?_)
      refine ht_bd (ht_si (by decide) hM.2.2.2.2.2.1.1 (n_nn (by omega)) (by rw [n_cl (by omega)]; omega) ?_)
      rw [n_cl (by omega)]
      have hM1 := fr_K55 hM (p' := p.set b (.int (-1))) (by simp)
      have hT1 : ∀ x, x < b → (p.set b (.int (-1)))[x]? = p[x]? := fun x hx => List.getElem?_set_ne (by omega)
      generalize M'.set 55 _ = M1 at hM1 ⊢
      have h42 := hM1.2.2.1
      refine ht_if (fun h3 => ?_) (fun h3 => ?_)
      · have h3' : g_ds b ≤ 8 := by
          have := (n_le (a := u) (b := 8) (by omega) (by decide)).mp h3
          omega
        obtain ⟨hc, hc1⟩ := g_cnt_lt hlt h3'
        refine ht_bd (ht_ga h42 (x := some 55) rfl ?_)
        refine ht_bd (ht_gi h42 (x := Int32.ofNat (g_cnt b)) rfl ?_)
        refine ht_bd (ht_si (by decide) hM1.2.2.2.2.2.1.1 (n_nn (by omega)) (by rw [n_cl (by omega), List.length_set]; omega) ?_)
        rw [n_cl (by omega), List.set_set]
        have hM2 := fr_K55 hM1 (p' := p.set b (.int (Int32.ofNat (g_cnt b)))) (by simp)
        generalize M1.set 55 _ = M2 at hM2 ⊢
        have h42 := hM2.2.2.1
        have hql := hM2.2.2.2.1.2
        refine ht_bd (ht_ga h42 (x := some 53) rfl ?_)
        refine ht_bd (ht_gi h42 (x := Int32.ofNat (g_cnt b)) rfl ?_)
        refine ht_bd (ht_si (by decide) hM2.2.2.2.1.1 (n_nn (by omega)) (by rw [n_cl (by omega)]; omega) ?_)
        rw [n_cl (by omega)]
        have hM3 := fr_K53 hM2 (q' := q.set (g_cnt b) (.int (Int32.ofNat b))) (by simp)
        generalize M2.set 53 _ = M3 at hM3 ⊢
        have h42 := hM3.2.2.1
        have hrl := hM3.2.2.2.2.1.2
        refine ht_bd (ht_ga h42 (x := some 54) rfl ?_)
        refine ht_bd (ht_gi h42 (x := Int32.ofNat (g_cnt b)) rfl ?_)
        refine ht_bd (ht_si (by decide) hM3.2.2.2.2.1.1 (n_nn (by omega)) (by rw [n_cl (by omega)]; omega) ?_)
        rw [n_cl (by omega)]
        have hM4 := fr_K54 hM3 (r' := r.set (g_cnt b) (.int (Int32.ofNat u))) (by simp)
        generalize M3.set 54 _ = M4 at hM4 ⊢
        have h42 := hM4.2.2.1
        refine ht_bd (ht_gi h42 (x := Int32.ofNat (g_cnt b)) rfl ?_)
        refine ht_bd (ht_pf (by decide) h42 (show 16 < 32 by decide) ?_)
        have hM5 := fr_K42 (c' := g_cnt b + 1) hM4
        rw [n_s]
        refine hnext _ _ _ _ (by rw [hc1]; exact hM5) ⟨fun i hi => ?_, fun x hx hd => ?_⟩
        · by_cases ei : i = g_cnt b
          · subst ei
            exact ⟨b, by omega, h3', List.getElem?_set_self (by omega), by rw [List.getElem?_set_self (by omega), hu']⟩
          · obtain ⟨x, x1, x2, x3, x4⟩ := hT.1 i (by omega)
            exact ⟨x, by omega, x2, by rw [List.getElem?_set_ne (fun e => ei e.symm)]; exact x3, by rw [List.getElem?_set_ne (fun e => ei e.symm)]; exact x4⟩
        · by_cases ex : x = b
          · subst ex
            exact ⟨g_cnt x, by omega, List.getElem?_set_self (by omega)⟩
          · obtain ⟨i, i1, i2⟩ := hT.2 x (by omega) hd
            exact ⟨i, by omega, by rw [List.getElem?_set_ne (fun e => ex e.symm)]; exact i2⟩
      · have h3' : ¬ g_ds b ≤ 8 := fun g => h3 ((n_le (a := u) (b := 8) (by omega) (by decide)).mpr (by omega))
        have hcn := g_cnt_no h3'
        refine hnext _ _ _ _ (by rw [hcn]; exact hM1) ⟨fun i hi => ?_, fun x hx hd => ?_⟩
        · obtain ⟨x, x1, x2⟩ := hT.1 i (by omega)
          exact ⟨x, by omega, x2⟩
        · have hxb : x < b := by
            by_cases e : x = b
            · subst e; exact absurd hd h3'
            · omega
          obtain ⟨i, i1, i2⟩ := hT.2 x hxb hd
          exact ⟨i, by omega, by rw [hT1 x hxb]; exact i2⟩
    · have hm0 : 0 < m := Nat.pos_of_ne_zero fun e => h2 ((n_le (a := m) (b := 0) (by omega) (by decide)).mpr (by omega))
      refine ht_bd (ht_ret ?_)
      refine ht_bd (ht_ret ?_)
      dsimp only
      rw [n_md (by omega), n_dv (by omega), ← Int32.ofNat_add]
      have := g_ds_s hm
      exact hih2 (m / 9) _ _ (by omega) ⟨rfl, u + m % 9, rfl, by omega, by omega⟩
