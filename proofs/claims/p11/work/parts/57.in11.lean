/-! THE MEMORY BEHIND THE CONSTRUCTORS -/
def fr_D : zM := [z_psn, .inl (2, zP), .inr (10, [.null, .null, .null, .null, .null])]
def fr_P : zM := [z_psn,
  .inl (2, zP),
  .inr (10, [.ref 7, .ref 14, .ref 16, .ref 33, .ref 39]),
  .inr (2, [.ref 4, .ref 5, .ref 6, .int 0]),
  z_psn,
  z_psn,
  z_psn,
  .inr (5, [.ref 8, .ref 11, .int 0]),
  .inr (1, [.ref 9, .ref 10]),
  .inl (0, List.replicate (Int32.toNatClampNeg 64) (.int 0)),
  .inl (0, List.replicate (Int32.toNatClampNeg 16) (.int 0)),
  .inr (1, [.ref 12, .ref 13]),
  .inl (0, List.replicate (Int32.toNatClampNeg 64) (.int 0)),
  .inl (0, List.replicate (Int32.toNatClampNeg 16) (.int 0)),
  .inr (4, [.ref 15, .ref 3, .int 0]),
  .inl (11, List.replicate (Int32.toNatClampNeg 60) (.null)),
  .inl (16, [.ref 17, .ref 18, .ref 19, .ref 20, .ref 21, .ref 22, .ref 23, .ref 24, .ref 25, .ref 26, .ref 27, .ref 28, .ref 29, .ref 30, .ref 31, .ref 32]),
  .inr (8, [.int (-1), .int 0, .int 0, .null, .int 0, .int 0, .int 0]),
  .inr (8, [.int (-1), .int 0, .int 0, .null, .int 0, .int 0, .int 0]),
  .inr (8, [.int (-1), .int 0, .int 0, .null, .int 0, .int 0, .int 0]),
  .inr (8, [.int (-1), .int 0, .int 0, .null, .int 0, .int 0, .int 0]),
  .inr (8, [.int (-1), .int 0, .int 0, .null, .int 0, .int 0, .int 0]),
  .inr (8, [.int (-1), .int 0, .int 0, .null, .int 0, .int 0, .int 0]),
  .inr (8, [.int (-1), .int 0, .int 0, .null, .int 0, .int 0, .int 0]),
  .inr (8, [.int (-1), .int 0, .int 0, .null, .int 0, .int 0, .int 0]),
  .inr (8, [.int (-1), .int 0, .int 0, .null, .int 0, .int 0, .int 0]),
  .inr (8, [.int (-1), .int 0, .int 0, .null, .int 0, .int 0, .int 0]),
  .inr (8, [.int (-1), .int 0, .int 0, .null, .int 0, .int 0, .int 0]),
  .inr (8, [.int (-1), .int 0, .int 0, .null, .int 0, .int 0, .int 0]),
  .inr (8, [.int (-1), .int 0, .int 0, .null, .int 0, .int 0, .int 0]),
  .inr (8, [.int (-1), .int 0, .int 0, .null, .int 0, .int 0, .int 0]),
  .inr (8, [.int (-1), .int 0, .int 0, .null, .int 0, .int 0, .int 0]),
  .inr (8, [.int (-1), .int 0, .int 0, .null, .int 0, .int 0, .int 0]),
  .inr (6, [.ref 7, .ref 3, .ref 34, .ref 38, .int 0]),
  .inr (2, [.ref 35, .ref 36, .ref 37, .int 0]),
  z_psn,
  z_psn,
  z_psn,
  .inl (0, List.replicate (Int32.toNatClampNeg 8) (.int 0)),
  .inr (9, [.ref 16, .ref 33, .ref 40, .ref 41, .int (-1), .int 1, .int 1]),
  .inl (0, List.replicate (Int32.toNatClampNeg 16) (.int 0)),
  .inl (0, List.replicate (Int32.toNatClampNeg 16) (.int 0))]
set_option maxRecDepth 100000 in
theorem fr_10 : (match (F_X10_init 2).1 fr_D with
  | some r => z_covb fr_P r.2 && Nat.ble (zsz r.2) 20000
  | none => false) = true := by decide +kernel
theorem fr_Pl : fr_P.length = 42 := by decide +kernel
/-- the reference's fields behind the arrays; n: how many bags -/
def fr_o (n : Int32) : List Value := [.ref 43, .int 0, .ref 44, .ref 45, .ref 46, .ref 47, .int 0, .ref 48, .ref 49, .ref 50, .ref 51, .ref 52, .int 0, .int 0, .ref 53, .ref 54, .int n, .ref 55, .ref 56, .ref 57, .ref 58, .int 0, .int 0, .ref 59, .ref 60, .ref 61, .ref 62, .ref 63, .ref 64, .ref 65, .ref 66, .ref 67]
def fr_A : zM := [.inl (0, List.replicate (Int32.toNatClampNeg 180) (.int 0)),
  .inl (0, List.replicate (Int32.toNatClampNeg 60) (.int 0)),
  .inl (0, List.replicate (Int32.toNatClampNeg 60) (.int 0)),
  .inl (0, List.replicate (Int32.toNatClampNeg 60) (.int 0)),
  .inl (0, List.replicate (Int32.toNatClampNeg 60) (.int 0)),
  .inl (0, List.replicate (Int32.toNatClampNeg 16) (.int 0)),
  .inl (0, List.replicate (Int32.toNatClampNeg 16) (.int 0)),
  .inl (0, List.replicate (Int32.toNatClampNeg 16) (.int 0)),
  .inl (0, List.replicate (Int32.toNatClampNeg 16) (.int 0)),
  .inl (0, List.replicate (Int32.toNatClampNeg 16) (.int 0)),
  .inl (0, List.replicate (Int32.toNatClampNeg 1300) (.int 0)),
  .inl (0, List.replicate (Int32.toNatClampNeg 1300) (.int 0)),
  .inl (0, List.replicate (Int32.toNatClampNeg 59049) (.int 0)),
  .inl (4, List.replicate (Int32.toNatClampNeg 80000) (.int 0)),
  .inl (4, List.replicate (Int32.toNatClampNeg 60) (.int 0)),
  .inl (0, List.replicate (Int32.toNatClampNeg 60) (.int 0)),
  .inl (0, List.replicate (Int32.toNatClampNeg 4) (.int 0)),
  .inl (0, List.replicate (Int32.toNatClampNeg 60) (.int 0)),
  .inl (4, List.replicate (Int32.toNatClampNeg 1300) (.int 0)),
  .inl (4, List.replicate (Int32.toNatClampNeg 1300) (.int 0)),
  .inl (4, List.replicate (Int32.toNatClampNeg 78000) (.int 0)),
  .inl (4, List.replicate (Int32.toNatClampNeg 60) (.int 0)),
  .inl (3, List.replicate (Int32.toNatClampNeg 1300) (.long 0)),
  .inl (3, List.replicate (Int32.toNatClampNeg 1300) (.long 0)),
  .inl (0, List.replicate (Int32.toNatClampNeg 16) (.int 0))]
theorem ht_al {pre : zM} (hp : pre.length = 42) {fs : List Value} {rest : zM} {k j : Nat} {d : Value} {n : Int32} {β : Type} {f : zMn β} {Q : β → zM → Prop} (hn : ¬ n < 0) (hb : n.toNatClampNeg ≤ 16777216) (hj : j < fs.length) (q : z_T f (pre ++ .inr (11, fs.set j (.ref (43 + rest.length))) :: (rest ++ [.inl (k, List.replicate n.toNatClampNeg d)])) Q) : z_T (z_bd (z_nwa k d n) fun a => z_bd (z_pf (some 42) 11 j (va_rf (some a))) fun _ => f) (pre ++ .inr (11, fs) :: rest) Q := by
  refine ht_bd (ht_nwa hn hb ?_)
  have e1 : (pre ++ .inr (11, fs) :: rest).length = 43 + rest.length := by simp [hp]; omega
  have e2 : ∀ X : zC, List.set ((pre ++ .inr (11, fs) :: rest) ++ [.inl (k, List.replicate n.toNatClampNeg d)] : zM) 42 X = pre ++ X :: (rest ++ [.inl (k, List.replicate n.toNatClampNeg d)]) := by
    intro X
    rw [List.append_assoc, List.set_append_right _ _ (by omega), hp]
    rfl
  have e3 : ((pre ++ .inr (11, fs) :: rest) ++ [.inl (k, List.replicate n.toNatClampNeg d)])[42]? = some (.inr (11, fs)) := by
    rw [List.append_assoc, List.getElem?_append_right (by omega), hp]
    rfl
  refine ht_bd (ht_pf (by decide) e3 hj ?_)
  rw [e1, e2]
  exact q
def fr_N : zM := fr_P ++ .inr (11, fr_o 0) :: fr_A
theorem fr_al {Q : Unit → zM → Prop} (q : z_T (F_X11_init_212 42 z_N 0) fr_N Q) : z_T (F_X11_init 42) (fr_P ++ [.inr (11, [.null, .int 0, .null, .null, .null, .null, .int 0, .null, .null, .null, .null, .null, .int 0, .int 0, .null, .null, .int 0, .null, .null, .null, .null, .int 0, .int 0, .null, .null, .null, .null, .null, .null, .null, .null, .null])]) Q := by
  unfold F_X11_init
  refine ht_al fr_Pl (by decide) (by decide) (by decide) ?_
  refine ht_al fr_Pl (by decide) (by decide) (by decide) ?_
  refine ht_al fr_Pl (by decide) (by decide) (by decide) ?_
  refine ht_al fr_Pl (by decide) (by decide) (by decide) ?_
  refine ht_al fr_Pl (by decide) (by decide) (by decide) ?_
  refine ht_al fr_Pl (by decide) (by decide) (by decide) ?_
  refine ht_al fr_Pl (by decide) (by decide) (by decide) ?_
  refine ht_al fr_Pl (by decide) (by decide) (by decide) ?_
  refine ht_al fr_Pl (by decide) (by decide) (by decide) ?_
  refine ht_al fr_Pl (by decide) (by decide) (by decide) ?_
  refine ht_al fr_Pl (by decide) (by decide) (by decide) ?_
  refine ht_al fr_Pl (by decide) (by decide) (by decide) ?_
  refine ht_al fr_Pl (by decide) (by decide) (by decide) ?_
  refine ht_al fr_Pl (by decide) (by decide) (by decide) ?_
  refine ht_al fr_Pl (by decide) (by decide) (by decide) ?_
  refine ht_al fr_Pl (by decide) (by decide) (by decide) ?_
  refine ht_al fr_Pl (by decide) (by decide) (by decide) ?_
  refine ht_al fr_Pl (by decide) (by decide) (by decide) ?_
  refine ht_al fr_Pl (by decide) (by decide) (by decide) ?_
  refine ht_al fr_Pl (by decide) (by decide) (by decide) ?_
  refine ht_al fr_Pl (by decide) (by decide) (by decide) ?_
  refine ht_al fr_Pl (by decide) (by decide) (by decide) ?_
  refine ht_al fr_Pl (by decide) (by decide) (by decide) ?_
  refine ht_al fr_Pl (by decide) (by decide) (by decide) ?_
  refine ht_al fr_Pl (by decide) (by decide) (by decide) ?_
  exact q
/-- where the reference's cells lie -/
theorem fr_at {i : Nat} {c : zC} (h : (.inr (11, fr_o 0) :: fr_A)[i]? = some c) : fr_N[42 + i]? = some c := by
  unfold fr_N
  rw [List.getElem?_append_right (by rw [fr_Pl]; omega), fr_Pl, Nat.add_sub_cancel_left]
  exact h
theorem z_ss {M : zM} {a : Nat} {c : zC} (h : M[a]? = some c) : M.set a c = M := by
  obtain ⟨hl, rfl⟩ := List.getElem?_eq_some_iff.mp h
  exact List.set_getElem_self hl
def fr_S (x n : Nat) : List Value := List.replicate x (.int (-1)) ++ List.replicate n (.int 0)
theorem fr_Ss {x n : Nat} : (fr_S x (n + 1)).set x (.int (-1)) = fr_S (x + 1) n := by
  unfold fr_S
  rw [List.set_append_right _ _ (by simp), List.length_replicate, Nat.sub_self, List.replicate_succ (n := n), List.set_cons_zero, List.replicate_succ' (n := x), List.append_assoc]
  rfl
theorem fr_212 {Q : Unit → zM → Prop} (q : z_T (F_X11_init_233 42 z_N 0) (fr_N.set 48 (.inl (0, fr_S 16 0))) Q) : z_T (F_X11_init_212 42 z_N 0) fr_N Q := by
  have h48 : fr_N[48]? = some (.inl (0, fr_S 0 16)) := fr_at (i := 6) rfl
  have h42 : fr_N[42]? = some (.inr (11, fr_o 0)) := fr_at (i := 0) rfl
  refine ht_fix (body := fun ih s => B_X11_init_212 42 (fun y0 => ih y0) s) (I := fun n s M => ∃ x : Nat, s = Int32.ofNat x ∧ n + x = 16 ∧ M = fr_N.set 48 (.inl (0, fr_S x n))) ?_ z_N 16 0 fr_N (by decide) ⟨0, rfl, rfl, ?_⟩
  · intro n s M ih hI hih
    obtain ⟨x, rfl, hx, rfl⟩ := hI
    unfold B_X11_init_212
    refine ht_if (fun h => ?_) (fun h => ?_)
    · have h' : 16 ≤ x := (n_le (a := 16) (by decide) (by omega)).mp h
      have e1 : x = 16 := by omega
      have e2 : n = 0 := by omega
      subst e1 e2
      exact q
    · have h' : ¬ 16 ≤ x := fun g => h ((n_le (a := 16) (by decide) (by omega)).mpr g)
      have g42 : (fr_N.set 48 (.inl (0, fr_S x n)))[42]? = some (.inr (11, fr_o 0)) := by rw [z_go (by decide)]; exact h42
      have g48 : (fr_N.set 48 (.inl (0, fr_S x n)))[48]? = some (.inl (0, fr_S x n)) := z_gs h48
      refine ht_bd (ht_ga g42 (x := some 48) rfl ?_)
      refine ht_bd (ht_si (by decide) g48 (n_nn (by omega)) (by rw [n_cl (by omega)]; simp [fr_S]; omega) ?_)
      obtain ⟨n, rfl⟩ : ∃ k, n = k + 1 := ⟨n - 1, by omega⟩
      rw [n_cl (by omega), fr_Ss, List.set_set, n_s]
      exact hih n _ _ (by omega) ⟨x + 1, rfl, by omega, rfl⟩
  · exact (z_ss h48).symm
/-- the reference while it lists the bags: c of them so far -/
def fr_J (M0 : zM) (c : Nat) (M : zM) : Prop := M.length = M0.length ∧ zsz M = zsz M0 ∧ M[42]? = some (.inr (11, fr_o (Int32.ofNat c))) ∧ (∃ q, M[53]? = some (.inl (0, q)) ∧ q.length = 1300) ∧ (∃ r, M[54]? = some (.inl (0, r)) ∧ r.length = 1300) ∧ (∃ p, M[55]? = some (.inl (0, p)) ∧ p.length = 59049) ∧ ∀ i, i ≠ 42 → i ≠ 53 → i ≠ 54 → i ≠ 55 → M[i]? = M0[i]?
theorem fr_J55 {M0 M : zM} {c : Nat} (h : fr_J M0 c M) {p p' : List Value} (hp : M[55]? = some (.inl (0, p))) (hl : p'.length = p.length) : fr_J M0 c (M.set 55 (.inl (0, p'))) := by
  obtain ⟨h1, h2, h3, ⟨q, h4, h4'⟩, ⟨r, h5, h5'⟩, ⟨p0, h6, h6'⟩, h7⟩ := h
  rw [hp] at h6
  cases h6
  refine ⟨by simpa using h1, by rw [zsz_set M 55 _ _ hp (by simp [zn, hl])]; exact h2, by rw [z_go (by decide)]; exact h3, ⟨q, by rw [z_go (by decide)]; exact h4, h4'⟩, ⟨r, by rw [z_go (by decide)]; exact h5, h5'⟩, ⟨p', z_gs hp, by omega⟩, fun i a b c d => ?_⟩
  rw [z_go (fun e => d e.symm)]
  exact h7 i a b c d
theorem fr_J53 {M0 M : zM} {c : Nat} (h : fr_J M0 c M) {p p' : List Value} (hp : M[53]? = some (.inl (0, p))) (hl : p'.length = p.length) : fr_J M0 c (M.set 53 (.inl (0, p'))) := by
  obtain ⟨h1, h2, h3, ⟨q, h4, h4'⟩, ⟨r, h5, h5'⟩, ⟨p0, h6, h6'⟩, h7⟩ := h
  rw [hp] at h4
  cases h4
  refine ⟨by simpa using h1, by rw [zsz_set M 53 _ _ hp (by simp [zn, hl])]; exact h2, by rw [z_go (by decide)]; exact h3, ⟨p', z_gs hp, by omega⟩, ⟨r, by rw [z_go (by decide)]; exact h5, h5'⟩, ⟨p0, by rw [z_go (by decide)]; exact h6, h6'⟩, fun i a b c d => ?_⟩
  rw [z_go (fun e => b e.symm)]
  exact h7 i a b c d
theorem fr_J54 {M0 M : zM} {c : Nat} (h : fr_J M0 c M) {p p' : List Value} (hp : M[54]? = some (.inl (0, p))) (hl : p'.length = p.length) : fr_J M0 c (M.set 54 (.inl (0, p'))) := by
  obtain ⟨h1, h2, h3, ⟨q, h4, h4'⟩, ⟨r, h5, h5'⟩, ⟨p0, h6, h6'⟩, h7⟩ := h
  rw [hp] at h5
  cases h5
  refine ⟨by simpa using h1, by rw [zsz_set M 54 _ _ hp (by simp [zn, hl])]; exact h2, by rw [z_go (by decide)]; exact h3, ⟨q, by rw [z_go (by decide)]; exact h4, h4'⟩, ⟨p', z_gs hp, by omega⟩, ⟨p0, by rw [z_go (by decide)]; exact h6, h6'⟩, fun i a b c d => ?_⟩
  rw [z_go (fun e => c e.symm)]
  exact h7 i a b c d
theorem fr_J42 {M0 M : zM} {c c' : Nat} (h : fr_J M0 c M) : fr_J M0 c' (M.set 42 (.inr (11, fr_o (Int32.ofNat c')))) := by
  obtain ⟨h1, h2, h3, ⟨q, h4, h4'⟩, ⟨r, h5, h5'⟩, ⟨p0, h6, h6'⟩, h7⟩ := h
  refine ⟨by simpa using h1, by rw [zsz_set M 42 _ (.inr (11, fr_o (Int32.ofNat c'))) h3 rfl]; exact h2, z_gs h3, ⟨q, by rw [z_go (by decide)]; exact h4, h4'⟩, ⟨r, by rw [z_go (by decide)]; exact h5, h5'⟩, ⟨p0, by rw [z_go (by decide)]; exact h6, h6'⟩, fun i a b c d => ?_⟩
  rw [z_go (fun e => a e.symm)]
  exact h7 i a b c d
theorem fr_233 {M0 M1 : zM} (hJ : fr_J M0 0 M1) : z_T (F_X11_init_233 42 z_N 0) M1 fun _ M => fr_J M0 1287 M := by
  refine ht_fix (body := fun ih s => B_X11_init_233 42 (fun y0 => ih y0) s) (I := fun n s M => ∃ b : Nat, s = Int32.ofNat b ∧ n + b = 59049 ∧ fr_J M0 (g_cnt b) M) ?_ z_N 59049 0 M1 (by decide) ⟨0, rfl, rfl, hJ⟩
  intro n s M ih hI hih
  obtain ⟨b, rfl, hb, hM⟩ := hI
  unfold B_X11_init_233
  refine ht_if (fun h => ?_) (fun h => ?_)
  · have h' : 59049 ≤ b := (n_le (a := 59049) (by decide) (by omega)).mp h
    have e1 : b = 59049 := by omega
    subst e1
    rw [g_cnt_all] at hM
    exact ht_ret hM
  · have hlt : b < 59049 := Nat.lt_of_not_le fun g => h ((n_le (a := 59049) (by decide) (by omega)).mpr g)
    -- what follows behind the digits
    have hnext : ∀ M', fr_J M0 (g_cnt (b + 1)) M' → z_T (F_X11_init_318 42 (fun y0 => ih y0) (Int32.ofNat b)) M' fun _ M => fr_J M0 1287 M := by
      intro M' hM'
      unfold F_X11_init_318
      rw [n_s]
      exact hih (n - 1) _ _ (by omega) ⟨b + 1, rfl, by omega, hM'⟩
    refine ht_fix (body := fun ih2 s => B_X11_init_243 42 (fun y0 => ih y0) (fun y0 y1 y2 => ih2 (y0, y1, y2)) s.1 s.2.1 s.2.2) (I := fun m s M' => M' = M ∧ ∃ u : Nat, s = (Int32.ofNat b, Int32.ofNat u, Int32.ofNat m) ∧ m < 59049 ∧ u + g_ds m = g_ds b) ?_ z_N b _ M (Nat.lt_of_lt_of_le hlt (by decide)) ⟨rfl, 0, rfl, hlt, by omega⟩
    intro m s M' ih2 hI2 hih2
    obtain ⟨rfl, u, rfl, hm, hu⟩ := hI2
    have hub : u ≤ 45 := by
      have : g_ds b ≤ 45 := by unfold g_ds; omega
      omega
    unfold B_X11_init_243
    refine ht_if (fun h2 => ?_) (fun h2 => ?_)
    · have e0 : m = 0 := by
        have := (n_le (a := m) (b := 0) (by omega) (by decide)).mp h2
        omega
      subst e0
      have hu' : u = g_ds b := by
        have : g_ds 0 = 0 := rfl
        omega
      obtain ⟨p, hp, hpl⟩ := hM.2.2.2.2.2.1
      have h42 := hM.2.2.1
      refine ht_bd (ht_ga h42 (x := some 55) rfl ?_)
      refine ht_bd (ht_si (by decide) hp (n_nn (by omega)) (by rw [n_cl (by omega)]; omega) ?_)
      have hM1 := fr_J55 hM hp (p' := p.set (Int32.ofNat b).toNatClampNeg (.int (-1))) (by simp)
      generalize M'.set 55 _ = M1 at hM1 ⊢
      have h42 := hM1.2.2.1
      refine ht_if (fun h3 => ?_) (fun h3 => ?_)
      · have h3' : g_ds b ≤ 8 := by
          have := (n_le (a := u) (b := 8) (by omega) (by decide)).mp h3
          omega
        obtain ⟨hc, hc1⟩ := g_cnt_lt hlt h3'
        obtain ⟨p1, hp1, hpl1⟩ := hM1.2.2.2.2.2.1
        refine ht_bd (ht_ga h42 (x := some 55) rfl ?_)
        refine ht_bd (ht_gi h42 (x := Int32.ofNat (g_cnt b)) rfl ?_)
        refine ht_bd (ht_si (by decide) hp1 (n_nn (by omega)) (by rw [n_cl (by omega)]; omega) ?_)
        have hM2 := fr_J55 hM1 hp1 (p' := p1.set (Int32.ofNat b).toNatClampNeg (.int (Int32.ofNat (g_cnt b)))) (by simp)
        generalize M1.set 55 _ = M2 at hM2 ⊢
        have h42 := hM2.2.2.1
        obtain ⟨q, hq, hql⟩ := hM2.2.2.2.1
        refine ht_bd (ht_ga h42 (x := some 53) rfl ?_)
        refine ht_bd (ht_gi h42 (x := Int32.ofNat (g_cnt b)) rfl ?_)
        refine ht_bd (ht_si (by decide) hq (n_nn (by omega)) (by rw [n_cl (by omega)]; omega) ?_)
        have hM3 := fr_J53 hM2 hq (p' := q.set (Int32.ofNat (g_cnt b)).toNatClampNeg (.int (Int32.ofNat b))) (by simp)
        generalize M2.set 53 _ = M3 at hM3 ⊢
        have h42 := hM3.2.2.1
        obtain ⟨r, hr, hrl⟩ := hM3.2.2.2.2.1
        refine ht_bd (ht_ga h42 (x := some 54) rfl ?_)
        refine ht_bd (ht_gi h42 (x := Int32.ofNat (g_cnt b)) rfl ?_)
        refine ht_bd (ht_si (by decide) hr (n_nn (by omega)) (by rw [n_cl (by omega)]; omega) ?_)
        have hM4 := fr_J54 hM3 hr (p' := r.set (Int32.ofNat (g_cnt b)).toNatClampNeg (.int (Int32.ofNat u))) (by simp)
        generalize M3.set 54 _ = M4 at hM4 ⊢
        have h42 := hM4.2.2.1
        refine ht_bd (ht_gi h42 (x := Int32.ofNat (g_cnt b)) rfl ?_)
        refine ht_bd (ht_pf (by decide) h42 (show 16 < 32 by decide) ?_)
        have hM5 := fr_J42 (c' := g_cnt b + 1) hM4
        rw [n_s]
        refine hnext _ ?_
        rw [hc1]
        exact hM5
      · have h3' : ¬ g_ds b ≤ 8 := fun g => h3 ((n_le (a := u) (b := 8) (by omega) (by decide)).mpr (by omega))
        refine hnext _ ?_
        rw [g_cnt_no h3']
        exact hM1
    · have hm0 : 0 < m := Nat.pos_of_ne_zero fun e => h2 ((n_le (a := m) (b := 0) (by omega) (by decide)).mpr (by omega))
      refine ht_bd (ht_ret ?_)
      refine ht_bd (ht_ret ?_)
      dsimp only
      rw [n_md (by omega), n_dv (by omega), ← Int32.ofNat_add]
      have := g_ds_s hm
      exact hih2 (m / 9) _ _ (by omega) ⟨rfl, u + m % 9, rfl, by omega, by omega⟩
