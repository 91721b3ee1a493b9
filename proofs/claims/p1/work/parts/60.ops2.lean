/-! shape -/
set_option maxHeartbeats 200000 in
theorem x_8n {M : zM} {a : Nat} {fs : List Value} {Q : Unit → zM → Prop} (ha : 2 ≤ a) (h : M[a]? = some (.inr (8, fs))) (hl : fs.length = 7) (q : ∀ fs' : List Value, fs'.length = 7 → Q () (M.set a (.inr (8, fs')))) : z_T (F_X8_becomeNone a) M Q := by
  unfold F_X8_becomeNone
  refine ht_bd (ht_pf ha h (by omega) ?_)
  refine ht_bd (ht_pf ha (z_gs h) (by simp; omega) ?_)
  rw [List.set_set]
  refine ht_bd (ht_pf ha (z_gs h) (by simp; omega) ?_)
  rw [List.set_set]
  refine ht_bd (ht_pf ha (z_gs h) (by simp; omega) ?_)
  rw [List.set_set]
  refine ht_bd (ht_pf ha (z_gs h) (by simp; omega) ?_)
  rw [List.set_set]
  refine ht_bd (ht_pf ha (z_gs h) (by simp; omega) ?_)
  rw [List.set_set]
  refine ht_bd (ht_pf ha (z_gs h) (by simp; omega) ?_)
  rw [List.set_set]
  exact ht_ret (q _ (by simp; omega))
set_option maxHeartbeats 200000 in
theorem x_8a {M : zM} {a : Nat} {fs : List Value} {p : Int32} {Q : Unit → zM → Prop} (ha : 2 ≤ a) (h : M[a]? = some (.inr (8, fs))) (hl : fs.length = 7) (q : ∀ fs' : List Value, fs'.length = 7 → Q () (M.set a (.inr (8, fs')))) : z_T (F_X8_becomeAmong a p) M Q := by
  unfold F_X8_becomeAmong
  refine ht_bd (ht_rc h ?_)
  refine ht_bd (x_8n ha h hl fun f1 h1 => ?_)
  refine ht_bd (ht_pf ha (z_gs h) (by omega) ?_)
  rw [List.set_set]
  refine ht_bd (ht_pf ha (z_gs h) (by simp; omega) ?_)
  rw [List.set_set]
  exact ht_ret (q _ (by simp; omega))
set_option maxHeartbeats 200000 in
theorem x_8o {M : zM} {a : Nat} {fs : List Value} {p : Int32} {Q : Unit → zM → Prop} (ha : 2 ≤ a) (h : M[a]? = some (.inr (8, fs))) (hl : fs.length = 7) (q : ∀ fs' : List Value, fs'.length = 7 → Q () (M.set a (.inr (8, fs')))) : z_T (F_X8_becomeNot a p) M Q := by
  unfold F_X8_becomeNot
  refine ht_bd (ht_rc h ?_)
  refine ht_bd (x_8n ha h hl fun f1 h1 => ?_)
  refine ht_bd (ht_pf ha (z_gs h) (by omega) ?_)
  rw [List.set_set]
  refine ht_bd (ht_pf ha (z_gs h) (by simp; omega) ?_)
  rw [List.set_set]
  refine ht_bd (ht_pf ha (z_gs h) (by simp; omega) ?_)
  rw [List.set_set]
  exact ht_ret (q _ (by simp; omega))
set_option maxHeartbeats 200000 in
theorem x_8p {M : zM} {a : Nat} {fs : List Value} {p s t : Int32} {Q : Unit → zM → Prop} (ha : 2 ≤ a) (h : M[a]? = some (.inr (8, fs))) (hl : fs.length = 7) (q : ∀ fs' : List Value, fs'.length = 7 → Q () (M.set a (.inr (8, fs')))) : z_T (F_X8_becomePair a p s t) M Q := by
  unfold F_X8_becomePair
  refine ht_bd (ht_rc h ?_)
  refine ht_bd (x_8n ha h hl fun f1 h1 => ?_)
  refine ht_bd (ht_pf ha (z_gs h) (by omega) ?_)
  rw [List.set_set]
  refine ht_bd (ht_pf ha (z_gs h) (by simp; omega) ?_)
  rw [List.set_set]
  refine ht_bd (ht_pf ha (z_gs h) (by simp; omega) ?_)
  rw [List.set_set]
  refine ht_bd (ht_pf ha (z_gs h) (by simp; omega) ?_)
  rw [List.set_set]
  exact ht_ret (q _ (by simp; omega))
def fr_s0 : List Value := [.int (-1), .int 0, .int 0, .null, .int 0, .int 0, .int 0]
def fr_16 : List Value := [.ref 17, .ref 18, .ref 19, .ref 20, .ref 21, .ref 22, .ref 23, .ref 24, .ref 25, .ref 26, .ref 27, .ref 28, .ref 29, .ref 30, .ref 31, .ref 32]
set_option maxHeartbeats 200000 in
theorem x_sh0 : ∀ n : Fin 16, fr_1[17 + n.1]? = some (.inr (8, fr_s0)) := by decide +kernel
set_option maxHeartbeats 200000 in
theorem x_sh1 : ∀ n : Fin 16, fr_16[n.1]? = some (va_rf (some (17 + n.1))) := by decide +kernel
set_option maxHeartbeats 200000 in
theorem x_la {n : Nat} (hn : n < 16) {Q : Option Nat → zM → Prop} (q : Q (some (17 + n)) fr_1) : z_T (z_la (some 16) (Int32.ofNat n)) fr_1 Q := ht_la (vs := fr_16) (k := 16) rfl (by decide) (n_nn (by omega)) (by rw [n_cl (by omega)]; exact x_sh1 ⟨n, hn⟩) q
def a_sh (p0 p1 p2 p3 : Int32) : Int32 := if g_in 16 p0 = 0 then -1 else if p1 = -1 then 1 else if p1 = 0 then -1 else if p1 = 1 ∨ p1 = 2 then (if g_in 16 p2 = 0 then -1 else if g_in 16 p3 = 0 then -1 else 1) else if p1 = 3 then (if g_in 16 p2 = 0 then -1 else 1) else if p1 = 4 then 1 else -1
set_option maxHeartbeats 200000 in
theorem x_sh (p0 p1 p2 p3 p4 : Int32) : z_T (F_X10_shape 2 p0 p1 p2 p3 p4) fr_1 fun x _ => x = a_sh p0 p1 p2 p3 := by
  unfold F_X10_shape F_X10_shape_26
  rw [e_s10]
  refine ht_bd (ht_ret (ht_if (fun h0 => ht_ret (by unfold a_sh; rw [if_pos h0])) (fun h0 => ?_)))
  have ha : a_sh p0 p1 p2 p3 = (if p1 = -1 then 1 else if p1 = 0 then -1 else if p1 = 1 ∨ p1 = 2 then (if g_in 16 p2 = 0 then -1 else if g_in 16 p3 = 0 then -1 else 1) else if p1 = 3 then (if g_in 16 p2 = 0 then -1 else 1) else if p1 = 4 then 1 else -1) := by unfold a_sh; rw [if_neg h0]
  rw [ha]
  clear ha
  obtain ⟨n, hn, rfl⟩ := g_in_ok (N := 16) (by decide) h0
  refine ht_bd (ht_ga rfl (x := some 16) rfl ?_)
  refine ht_bd (x_la hn ?_)
  refine ht_bd (ht_rc rfl ?_)
  have h17 : fr_1[17 + n]? = some (.inr (8, fr_s0)) := x_sh0 ⟨n, hn⟩
  -- what follows a good setting
  have hgood : ∀ fs' : List Value, z_T (z_bd (z_ga (some 2) 10 4) fun r8 => z_bd (z_rc r8 9) fun b9 => z_bd (F_X9_noteShapes b9) fun _ => z_ret 1) (fr_1.set (17 + n) (.inr (8, fs'))) fun (x : Int32) _ => x = 1 := by
    intro fs'
    have h2 : (fr_1.set (17 + n) (.inr (8, fs')))[2]? = some (.inr (10, [.ref 7, .ref 14, .ref 16, .ref 33, .ref 39])) := by rw [z_go (by omega)]; rfl
    refine ht_bd (ht_ga h2 (x := some 39) rfl ?_)
    have h39 : (fr_1.set (17 + n) (.inr (8, fs')))[39]? = some (.inr (9, [.ref 16, .ref 33, .ref 40, .ref 41, .int (-1), .int 1, .int 1])) := by rw [z_go (by omega)]; rfl
    refine ht_bd (ht_rc h39 ?_)
    refine ht_bd ?_
    unfold F_X9_noteShapes
    refine ht_bd (ht_pf (by decide) h39 (by decide) ?_)
    refine ht_bd (ht_pf (by decide) (z_gs h39) (by decide) ?_)
    refine ht_ret ?_
    exact ht_ret rfl
  refine ht_bd ?_
  unfold F_X10_setShape F_X10_setShape_85 F_X10_setShape_66
  rw [e_s10, e_s10, z_rb0, z_rb1]
  refine ht_if (fun h => ?_) (fun h1 => ?_)
  · rw [if_pos h]
    refine ht_bd (ht_rc h17 ?_)
    refine ht_bd (x_8n (by omega) h17 rfl fun fs' _ => ?_)
    refine ht_ret ?_
    rw [if_neg (by decide)]
    exact hgood fs'
  rw [if_neg h1]
  refine ht_if (fun h => ?_) (fun h2 => ?_)
  · rw [if_pos h]
    have hbare : ∀ s : Int32, z_T (z_bd (z_rc (some 2) 10) fun b24 => z_bd (F_X10_setBare b24 (some (17 + n)) p2 (p3 &&& 255) s) fun x23 => z_rb x23) fr_1 fun a M' => z_T (if a = 0 then z_ret (-1) else (z_bd (z_ga (some 2) 10 4) fun r8 => z_bd (z_rc r8 9) fun b9 => z_bd (F_X9_noteShapes b9) fun _ => z_ret 1)) M' fun (x : Int32) _ => x = -1 := by
      intro s
      refine ht_bd (ht_rc rfl ?_)
      refine ht_bd ?_
      unfold F_X10_setBare F_X10_setBare_23
      refine ht_bd (ht_ga rfl (x := some 14) rfl ?_)
      refine ht_bd (ht_rc rfl ?_)
      refine ht_bd (x_fd0 rfl ?_)
      rw [if_pos rfl, z_rb0]
      refine ht_ret ?_
      rw [z_rb0]
      refine ht_ret ?_
      rw [if_pos rfl]
      exact ht_ret rfl
    refine ht_if (fun _ => hbare 1) (fun _ => hbare 0)
  rw [if_neg h2]
  refine ht_if (fun h => ?_) (fun h3 => ?_)
  · rw [if_pos (Or.inl h)]
    refine ht_bd (ht_ret (ht_if (fun g0 => ?_) (fun g0 => ?_)))
    · rw [if_pos g0]
      refine ht_ret ?_
      rw [if_pos rfl]
      exact ht_ret rfl
    rw [if_neg g0]
    refine ht_bd (ht_ret (ht_if (fun g1 => ?_) (fun g1 => ?_)))
    · rw [if_pos g1]
      refine ht_ret ?_
      rw [if_pos rfl]
      exact ht_ret rfl
    rw [if_neg g1]
    refine ht_bd (ht_rc h17 ?_)
    refine ht_bd (x_8p (by omega) h17 rfl fun fs' _ => ?_)
    refine ht_ret ?_
    rw [if_neg (by decide)]
    exact hgood fs'
  refine ht_if (fun h => ?_) (fun h4 => ?_)
  · rw [if_pos (Or.inr h)]
    refine ht_bd (ht_ret (ht_if (fun g0 => ?_) (fun g0 => ?_)))
    · rw [if_pos g0]
      refine ht_ret ?_
      rw [if_pos rfl]
      exact ht_ret rfl
    rw [if_neg g0]
    refine ht_bd (ht_ret (ht_if (fun g1 => ?_) (fun g1 => ?_)))
    · rw [if_pos g1]
      refine ht_ret ?_
      rw [if_pos rfl]
      exact ht_ret rfl
    rw [if_neg g1]
    refine ht_bd (ht_rc h17 ?_)
    refine ht_bd (x_8p (by omega) h17 rfl fun fs' _ => ?_)
    refine ht_ret ?_
    rw [if_neg (by decide)]
    exact hgood fs'
  have e34 : ¬ (p1 = 1 ∨ p1 = 2) := fun h => h.elim h3 h4
  rw [if_neg e34]
  refine ht_if (fun h => ?_) (fun h5 => ?_)
  · rw [if_pos h]
    refine ht_bd (ht_ret (ht_if (fun g0 => ?_) (fun g0 => ?_)))
    · rw [if_pos g0]
      refine ht_ret ?_
      rw [if_pos rfl]
      exact ht_ret rfl
    rw [if_neg g0]
    refine ht_bd (ht_rc h17 ?_)
    refine ht_bd (x_8o (by omega) h17 rfl fun fs' _ => ?_)
    refine ht_ret ?_
    rw [if_neg (by decide)]
    exact hgood fs'
  rw [if_neg h5]
  refine ht_if (fun h => ?_) (fun h6 => ?_)
  · rw [if_pos h]
    refine ht_bd (ht_rc h17 ?_)
    refine ht_bd (x_8a (by omega) h17 rfl fun fs' _ => ?_)
    refine ht_ret ?_
    rw [if_neg (by decide)]
    exact hgood fs'
  · rw [if_neg h6]
    refine ht_ret ?_
    rw [if_pos rfl]
    exact ht_ret rfl
set_option maxHeartbeats 200000 in
theorem y_95 {k n : Nat} (hn : n < 16) {p1 p2 p3 p4 : Int32} : z_T (F_X11_shape_95 42 (Int32.ofNat n) p1 p2 p3 p4) ((fr_2 k).set 42 (.inr (11, (fr_o 1287).set 22 (.int 0)))) fun x _ => x = 1 := by
  unfold F_X11_shape_95
  have hb : (Int32.ofNat n).toNatClampNeg < Int32.toNatClampNeg 16 := by rw [n_cl (by omega)]; exact hn
  refine ht_bd (ht_ga rfl (x := some 48) rfl ?_)
  refine ht_bd (ht_si (by decide) rfl (n_nn (by omega)) (by rw [List.length_replicate]; exact hb) ?_)
  refine ht_bd (ht_ga rfl (x := some 49) rfl ?_)
  refine ht_bd (ht_si (by decide) rfl (n_nn (by omega)) (by rw [List.length_replicate]; exact hb) ?_)
  refine ht_bd (ht_ga rfl (x := some 50) rfl ?_)
  refine ht_bd (ht_si (by decide) rfl (n_nn (by omega)) (by rw [List.length_replicate]; exact hb) ?_)
  refine ht_bd (ht_ga rfl (x := some 51) rfl ?_)
  refine ht_bd (ht_si (by decide) rfl (n_nn (by omega)) (by rw [List.length_replicate]; exact hb) ?_)
  refine ht_bd (ht_pf (by decide) rfl (by decide) ?_)
  exact ht_ret rfl
set_option maxHeartbeats 200000 in
theorem y_sh (k : Nat) (p0 p1 p2 p3 p4 : Int32) : z_T (F_X11_shape 42 p0 p1 p2 p3 p4) (fr_2 k) fun x _ => x = a_sh p0 p1 p2 p3 := by
  unfold F_X11_shape F_X11_shape_22
  rw [e_s11]
  refine ht_bd (ht_pf (by decide) rfl (by decide) ?_)
  refine ht_bd (ht_ret (ht_if (fun h0 => ht_ret (by unfold a_sh; rw [if_pos h0])) (fun h0 => ?_)))
  have ha : a_sh p0 p1 p2 p3 = (if p1 = -1 then 1 else if p1 = 0 then -1 else if p1 = 1 ∨ p1 = 2 then (if g_in 16 p2 = 0 then -1 else if g_in 16 p3 = 0 then -1 else 1) else if p1 = 3 then (if g_in 16 p2 = 0 then -1 else 1) else if p1 = 4 then 1 else -1) := by unfold a_sh; rw [if_neg h0]
  rw [ha]
  clear ha
  obtain ⟨n, hn, rfl⟩ := g_in_ok (N := 16) (by decide) h0
  have ne : ∀ {v : Int32}, p1 = v → ∀ w : Int32, v ≠ w → ¬ p1 = w := fun e w hw e' => hw (e.symm.trans e')
  refine ht_if (fun h => ?_) (fun h1 => ?_)
  · have n1 : ¬ p1 = -1 := fun e => by subst e; exact absurd h (by decide)
    have n2 : ¬ p1 = 0 := fun e => by subst e; exact absurd h (by decide)
    have n3 : ¬ (p1 = 1 ∨ p1 = 2) := by rintro (e | e) <;> (subst e; exact absurd h (by decide))
    have n4 : ¬ p1 = 3 := fun e => by subst e; exact absurd h (by decide)
    have n5 : ¬ p1 = 4 := fun e => by subst e; exact absurd h (by decide)
    rw [if_neg n1, if_neg n2, if_neg n3, if_neg n4, if_neg n5]
    exact ht_ret rfl
  refine ht_if (fun h4 => ?_) (fun h => ?_)
  · refine ht_if (fun hz => ?_) (fun hz => ?_)
    · subst hz
      rw [if_neg (by decide), if_pos rfl]
      refine ht_bd (ht_rc rfl ?_)
      refine ht_bd (y_ie0 rfl rfl ?_)
      rw [if_pos rfl]
      exact ht_ret rfl
    unfold F_X11_shape_53 F_X11_shape_68 F_X11_shape_75 F_X11_shape_85 F_X11_shape_93
    rw [e_s11, e_s11]
    by_cases e1 : p1 = 1
    · rw [if_pos e1, if_neg (ne e1 (-1) (by decide)), if_neg hz, if_pos (Or.inl e1), if_pos e1]
      refine ht_bd (ht_ret (ht_if (fun g0 => ?_) (fun g0 => ?_)))
      · rw [if_pos g0]; exact ht_ret rfl
      rw [if_neg g0]
      refine ht_bd (ht_ret (ht_if (fun g1 => ?_) (fun g1 => ?_)))
      · rw [if_pos g1]; exact ht_ret rfl
      rw [if_neg g1]
      exact y_95 hn
    by_cases e2 : p1 = 2
    · rw [if_neg e1, if_pos e2, if_neg (ne e2 (-1) (by decide)), if_neg hz, if_pos (Or.inr e2), if_neg e1, if_pos e2]
      refine ht_bd (ht_ret (ht_if (fun g0 => ?_) (fun g0 => ?_)))
      · rw [if_pos g0]; exact ht_ret rfl
      rw [if_neg g0]
      refine ht_bd (ht_ret (ht_if (fun g1 => ?_) (fun g1 => ?_)))
      · rw [if_pos g1]; exact ht_ret rfl
      rw [if_neg g1]
      exact y_95 hn
    have e12 : ¬ (p1 = 1 ∨ p1 = 2) := fun e => e.elim e1 e2
    by_cases e3 : p1 = 3
    · rw [if_neg e1, if_neg e2, if_pos e3, if_neg (ne e3 (-1) (by decide)), if_neg hz, if_neg e12, if_pos e3, if_neg e1, if_neg e2]
      refine ht_bd (ht_ret (ht_if (fun g0 => ?_) (fun g0 => ?_)))
      · rw [if_pos g0]; exact ht_ret rfl
      rw [if_neg g0]
      exact y_95 hn
    rw [if_neg e1, if_neg e2, if_neg e3, if_neg hz, if_neg e12, if_neg e3, if_neg e1, if_neg e2]
    by_cases e4 : p1 = 4
    · rw [if_neg (ne e4 (-1) (by decide)), if_pos e4]
      exact y_95 hn
    · have em : p1 = -1 := by
        have a1 : -1 ≤ p1.toInt := by
          have := Int32.le_iff_toInt_le.mp (Int32.not_lt.mp h1)
          exact this
        have a2 : p1.toInt ≤ 4 := Int32.le_iff_toInt_le.mp h4
        have b : ∀ v : Int32, p1 ≠ v → p1.toInt ≠ v.toInt := fun v hv e => hv (Int32.toInt_inj.mp e)
        have b0 := b 0 hz
        have b1 := b 1 e1
        have b2 := b 2 e2
        have b3 := b 3 e3
        have b4 := b 4 e4
        have c0 : (0 : Int32).toInt = 0 := rfl
        have c1 : (1 : Int32).toInt = 1 := rfl
        have c2 : (2 : Int32).toInt = 2 := rfl
        have c3 : (3 : Int32).toInt = 3 := rfl
        have c4 : (4 : Int32).toInt = 4 := rfl
        rw [c0] at b0
        rw [c1] at b1
        rw [c2] at b2
        rw [c3] at b3
        rw [c4] at b4
        refine Int32.toInt_inj.mp ?_
        have cm : (-1 : Int32).toInt = -1 := rfl
        rw [cm]
        omega
      rw [if_pos em]
      exact y_95 hn
  · have n1 : ¬ p1 = -1 := fun e => h (by subst e; decide)
    have n2 : ¬ p1 = 0 := fun e => h (by subst e; decide)
    have n3 : ¬ (p1 = 1 ∨ p1 = 2) := by rintro (e | e) <;> exact h (by subst e; decide)
    have n4 : ¬ p1 = 3 := fun e => h (by subst e; decide)
    have n5 : ¬ p1 = 4 := fun e => h (by subst e; decide)
    rw [if_neg n1, if_neg n2, if_neg n3, if_neg n4, if_neg n5]
    exact ht_ret rfl
