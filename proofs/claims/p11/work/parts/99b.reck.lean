/-! THE REFERENCE's lose, reckon -/
section RK
variable {h : Nat → zC} {nE kn wr pc th : Int32} {M : zM} {ks as bs cs ss xs ys zs : List Int32} {n c : Nat} {p q r : List Value} {rs : List Nat}
theorem t_lose (hc : c ≤ 60) (R : RT h (rob (Int32.ofNat c) nE kn wr pc th) M) (H : HD h ks as bs cs ss xs ys zs n p q r) {hv : List Nat} (hN : NB hv) (h52 : M[52]? = some (cN hv)) {al : Nat} (hal : al < 65536) {Q : Int32 → zM → Prop} (t : ∀ (x : Int32) (M' : zM) (pc' : Int32) (hv' : List Nat), RT h (rob (Int32.ofNat c) nE kn wr pc' th) M' → NB hv' → M'[52]? = some (cN hv') → M'[67]? = M[67]? → (x = 0 ∨ (x = 1 ∧ hv'.sum < hv.sum)) → Q x M') : z_T (F_X11_lose 42 (Int32.ofNat al)) M Q := by
  unfold F_X11_lose F_X11_lose_4
  refine ht_fix (body := fun ih s => B_X11_lose_4 42 (fun y0 y1 y2 => ih (y0, y1, y2)) s.1 s.2.1 s.2.2) (I := fun l st M' => ∃ (f : Int32) (s : Nat) (pc' : Int32) (hv' : List Nat), st = (Int32.ofNat al, f, Int32.ofNat s) ∧ s + l = 16 ∧ RT h (rob (Int32.ofNat c) nE kn wr pc' th) M' ∧ NB hv' ∧ M'[52]? = some (cN hv') ∧ M'[67]? = M[67]? ∧ hv'.sum ≤ hv.sum ∧ (f = 0 ∨ (f = 1 ∧ hv'.sum < hv.sum))) ?_ z_N 16 _ M (by decide) ⟨0, 0, pc, hv, rfl, by omega, R, hN, h52, rfl, Nat.le_refl _, Or.inl rfl⟩
  intro l st M1 ih hI hih
  obtain ⟨f, s, pc1, hv1, rfl, hl, R1, hN1, k1, g1, hs1, hf1⟩ := hI
  unfold B_X11_lose_4 F_X11_lose_81
  dsimp only
  refine ht_if (fun _ => ?_) (fun hle => ?_)
  · refine ht_rb ?_ (t f M1 pc1 hv1 R1 hN1 k1 g1 hf1)
    rcases hf1 with e | ⟨e, -⟩
    · exact Or.inl e
    · exact Or.inr e
  have hs : s < 16 := Nat.lt_of_not_le fun g => hle ((n_le (a := 16) (by decide) (by omega)).mpr g)
  have nx : ∀ (f2 : Int32) (M2 : zM) (pc2 : Int32) (hv2 : List Nat), RT h (rob (Int32.ofNat c) nE kn wr pc2 th) M2 → NB hv2 → M2[52]? = some (cN hv2) → M2[67]? = M[67]? → hv2.sum ≤ hv.sum → (f2 = 0 ∨ (f2 = 1 ∧ hv2.sum < hv.sum)) → z_T (ih (Int32.ofNat al, f2, Int32.ofNat s + 1)) M2 Q := fun f2 M2 pc2 hv2 R2 hN2 k2 g2 hs2 hf2 => by
    rw [n_s]
    exact hih (l - 1) _ _ (by omega) ⟨f2, s + 1, pc2, hv2, rfl, by omega, R2, hN2, k2, g2, hs2, hf2⟩
  refine ht_if (fun _ => nx f M1 pc1 hv1 R1 hN1 k1 g1 hs1 hf1) (fun _ => ?_)
  unfold F_X11_lose_24
  refine ht_fix (body := fun ih2 s => B_X11_lose_24 42 (fun y0 y1 y2 => ih (y0, y1, y2)) (fun y0 y1 y2 y3 => ih2 (y0, y1, y2, y3)) s.1 s.2.1 s.2.2.1 s.2.2.2) (I := fun l st M' => ∃ (f : Int32) (nd : Nat) (pc' : Int32) (hv' : List Nat), st = (Int32.ofNat al, f, Int32.ofNat s, Int32.ofNat nd) ∧ nd + l = 16 ∧ RT h (rob (Int32.ofNat c) nE kn wr pc' th) M' ∧ NB hv' ∧ M'[52]? = some (cN hv') ∧ M'[67]? = M[67]? ∧ hv'.sum ≤ hv.sum ∧ (f = 0 ∨ (f = 1 ∧ hv'.sum < hv.sum))) ?_ z_N 16 _ M1 (by decide) ⟨f, 0, pc1, hv1, rfl, by omega, R1, hN1, k1, g1, hs1, hf1⟩
  intro l2 st M2 ih2 hI2 hih2
  obtain ⟨f2, nd, pc2, hv2, rfl, hl2, R2, hN2, k2, g2, hs2, hf2⟩ := hI2
  unfold B_X11_lose_24 F_X11_lose_81 F_X11_lose_75
  dsimp only
  refine ht_if (fun _ => nx f2 M2 pc2 hv2 R2 hN2 k2 g2 hs2 hf2) (fun hle2 => ?_)
  have hnd : nd < 16 := Nat.lt_of_not_le fun g => hle2 ((n_le (a := 16) (by decide) (by omega)).mpr g)
  have nx2 : ∀ (f3 : Int32) (M3 : zM) (pc3 : Int32) (hv3 : List Nat), RT h (rob (Int32.ofNat c) nE kn wr pc3 th) M3 → NB hv3 → M3[52]? = some (cN hv3) → M3[67]? = M[67]? → hv3.sum ≤ hv.sum → (f3 = 0 ∨ (f3 = 1 ∧ hv3.sum < hv.sum)) → z_T (ih2 (Int32.ofNat al, f3, Int32.ofNat s, Int32.ofNat nd + 1)) M3 Q := fun f3 M3 pc3 hv3 R3 hN3 k3 g3 hs3 hf3 => by
    rw [n_s]
    exact hih2 (l2 - 1) _ _ (by omega) ⟨f3, nd + 1, pc3, hv3, rfl, by omega, R3, hN3, k3, g3, hs3, hf3⟩
  have ha := (hN2.get hs).2
  have hsl : s < hv2.length := by rw [hN2.1]; exact hs
  refine ht_bd (ht_ga R2.1 (x := some 52) rfl ?_)
  refine ht_bd (rdN k2 hN2 hs ?_)
  refine ht_if (fun _ => nx2 f2 M2 pc2 hv2 R2 hN2 k2 g2 hs2 hf2) (fun hb => ?_)
  have hbit : (hv2.getD s 0).testBit nd = true := by
    cases e : (hv2.getD s 0).testBit nd with
    | true => rfl
    | false => exact absurd ((w_b0 ha hnd).mpr e) hb
  refine ht_bd (ht_rc R2.1 ?_)
  refine ht_bd (t_holds hc R2 H hs fun v M3 pc3 R3 k3 g3 => ?_)
  rw [k2] at k3
  rw [g2] at g3
  refine ht_if (fun _ => ?_) (fun _ => nx2 f2 M3 pc3 hv2 R3 hN2 k3 g3 hs2 hf2)
  refine ht_bd (ht_ga R3.1 (x := some 52) rfl ?_)
  refine ht_bd (rdN k3 hN2 hs ?_)
  rw [w_clr hnd]
  have hlt := w_clt hnd hbit
  refine ht_bd (wrN (by decide) k3 hN2 hs ?_)
  have hsum := sum_set (v := hv2.getD s 0 &&& (2 ^ nd ^^^ 4294967295)) hsl
  have hN3 := hN2.set (s := s) (v := hv2.getD s 0 &&& (2 ^ nd ^^^ 4294967295)) (by omega)
  exact nx2 1 _ pc3 _ (R3.set (by decide) (by decide) (ok52 hN3)) hN3 (z_gs k3) (by rw [z_go (by decide)]; exact g3) (by omega) (Or.inr ⟨rfl, by omega⟩)
theorem t_reckon (hc : c ≤ 60) (R : RT h (rob (Int32.ofNat c) nE kn wr pc th) M) (H : HD h ks as bs cs ss xs ys zs n p q r) {Q : Unit → zM → Prop} (t : ∀ (M' : zM) (kn' wr' pc' : Int32), RT h (rob (Int32.ofNat c) nE kn' wr' pc' th) M' → Q () M') : z_T (F_X11_reckon 42) M Q := by
  unfold F_X11_reckon
  refine ht_bd (ht_gi R.1 (x := kn) rfl ?_)
  refine ht_if (fun _ => ?_) (fun _ => ht_ret (t _ _ _ _ R))
  refine ht_bd (ht_pf (by decide) R.1 (by simp [rob]) ?_)
  have R0 := R.ob (o' := rob (Int32.ofNat c) nE 1 wr pc th)
  show z_T _ (M.set 42 (.inr (11, rob (Int32.ofNat c) nE 1 wr pc th))) Q
  generalize M.set 42 (.inr (11, rob (Int32.ofNat c) nE 1 wr pc th)) = M0 at R0 ⊢
  refine ht_bd (ht_rc R0.1 ?_)
  refine ht_bd (t_rings R0 H fun M1 wr1 pc1 rs R1 hN k1 hC => ?_)
  refine ht_bd (ht_gi R1.1 (x := wr1) rfl ?_)
  refine ht_if (fun _ => ?_) (fun _ => ht_ret (t _ _ _ _ R1))
  unfold F_X11_reckon_27
  refine ht_fix (body := fun ih s => B_X11_reckon_27 42 (fun y0 => ih y0) s) (I := fun m st M' => ∃ (d : Nat) (pc' : Int32), st = Int32.ofNat d ∧ d < 65536 ∧ m + d = 65535 ∧ RT h (rob (Int32.ofNat c) nE 1 wr1 pc' th) M' ∧ M'[67]? = some (cN rs)) ?_ z_N 65535 _ M1 (by decide) ⟨0, pc1, rfl, by omega, by omega, R1, k1⟩
  intro m st M2 ih hI hih
  obtain ⟨d, pc2, rfl, hd, hm, R2, k2⟩ := hI
  unfold B_X11_reckon_27
  refine ht_if (fun _ => ht_ret (t _ _ _ _ R2)) (fun hne => ?_)
  have hne : d ≠ 65535 := fun e => hne ((n_e (b := 65535) (by omega) (by decide)).mpr e)
  obtain ⟨s0, hs0, hr⟩ := ready_ex hC hd hne
  unfold F_X11_reckon_35
  refine ht_fix (body := fun ih2 s => B_X11_reckon_35 42 (fun y0 => ih y0) (fun y0 y1 => ih2 (y0, y1)) s.1 s.2) (I := fun l st M' => M' = M2 ∧ ∃ x : Nat, st = (Int32.ofNat d, Int32.ofNat x) ∧ x + l = s0) ?_ z_N s0 _ M2 (Nat.lt_of_lt_of_le hs0 (by decide)) ⟨rfl, 0, rfl, by omega⟩
  intro l st M3 ih2 hI2 hih2
  obtain ⟨rfl, x, rfl, hl⟩ := hI2
  unfold B_X11_reckon_35
  dsimp only
  have hx : x < 16 := by omega
  refine ht_bd (ht_rc R2.1 ?_)
  refine ht_bd (t_ready R2 hN k2 hx hd (fun hdx => ?_) (fun hnr => ?_))
  · rw [if_neg (by decide)]
    rw [w_sh hx]
    refine ht_bd (ht_ret ?_)
    -- the passes over a ring
    have l149 : ∀ (al : Nat) (M4 : zM) (pc4 : Int32), al < 65536 → al.testBit x = true → RT h (rob (Int32.ofNat c) nE 1 wr1 pc4 th) M4 → M4[67]? = some (cN rs) → z_T (F_X11_reckon_149 42 (fun y0 => ih y0) z_N (Int32.ofNat d, Int32.ofNat al, 1)) M4 Q := by
      intro al M4 pc4 hal hax R4 k4
      obtain ⟨c52, h52, k52⟩ := R4.ar (i := 52) (by decide) (by decide) rfl
      obtain ⟨hv, hNv, rfl⟩ := cN_of k52
      have hsv := hNv.sum
      unfold F_X11_reckon_149
      refine ht_fix (body := fun ih3 s => B_X11_reckon_149 42 (fun y0 => ih y0) (fun y0 y1 y2 => ih3 (y0, y1, y2)) s.1 s.2.1 s.2.2) (I := fun l st M' => ∃ (f pc' : Int32) (hv' : List Nat), st = (Int32.ofNat d, Int32.ofNat al, f) ∧ RT h (rob (Int32.ofNat c) nE 1 wr1 pc' th) M' ∧ M'[67]? = some (cN rs) ∧ NB hv' ∧ M'[52]? = some (cN hv') ∧ (f = 0 ∨ (f = 1 ∧ l = hv'.sum + 1))) ?_ z_N (hv.sum + 1) _ M4 (Nat.lt_of_le_of_lt (show hv.sum + 1 ≤ 1048561 by omega) (by decide)) ⟨1, pc4, hv, rfl, R4, k4, hNv, h52, Or.inr ⟨rfl, rfl⟩⟩
      intro l5 st M5 ih3 hI3 hih3
      obtain ⟨f, pc5, hv5, rfl, R5, k5, hN5, e52, hf⟩ := hI3
      unfold B_X11_reckon_149
      dsimp only
      refine ht_if (fun _ => ?_) (fun hf0 => ?_)
      · refine ht_bd (ht_ret ?_)
        rw [w_or]
        have hlt : d < d ||| al := w_lt (i := x) (fun i hi => by rw [Nat.testBit_or, hi]; rfl) hdx (by rw [Nat.testBit_or, hax, Bool.or_true])
        have h16 := w_o16 hd hal
        exact hih (65535 - (d ||| al)) _ _ (by omega) ⟨d ||| al, pc5, rfl, h16, by omega, R5, k5⟩
      · have hl5 : l5 = hv5.sum + 1 := by
          rcases hf with e | ⟨-, e⟩
          · exact absurd e hf0
          · exact e
        refine ht_bd (ht_rc R5.1 ?_)
        refine ht_bd (t_lose hc R5 H hN5 e52 hal fun f6 M6 pc6 hv6 R6 hN6 k6 g6 hf6 => ?_)
        rcases hf6 with e | ⟨e, hlt⟩
        · exact hih3 0 _ _ (by omega) ⟨f6, pc6, hv6, rfl, R6, g6.trans k5, hN6, k6, Or.inl e⟩
        · exact hih3 (hv6.sum + 1) _ _ (by omega) ⟨f6, pc6, hv6, rfl, R6, g6.trans k5, hN6, k6, Or.inr ⟨e, rfl⟩⟩
    have l104 : ∀ (al : Nat), al < 65536 → al.testBit x = true → z_T (F_X11_reckon_104 42 (fun y0 => ih y0) z_N (Int32.ofNat d, Int32.ofNat al, 0)) M3 Q := by
      intro al hal hax
      unfold F_X11_reckon_104
      refine ht_fix (body := fun ih3 s => B_X11_reckon_104 42 (fun y0 => ih y0) (fun y0 y1 y2 => ih3 (y0, y1, y2)) s.1 s.2.1 s.2.2) (I := fun l st M' => ∃ u : Nat, st = (Int32.ofNat d, Int32.ofNat al, Int32.ofNat u) ∧ u + l = 16 ∧ RT h (rob (Int32.ofNat c) nE 1 wr1 pc2 th) M' ∧ M'[67]? = some (cN rs)) ?_ z_N 16 _ M3 (by decide) ⟨0, rfl, by omega, R2, k2⟩
      intro l4 st M4 ih3 hI3 hih3
      obtain ⟨u, rfl, hu, R4, k4⟩ := hI3
      unfold B_X11_reckon_104 F_X11_reckon_139
      dsimp only
      refine ht_if (fun _ => l149 al M4 pc2 hal hax R4 k4) (fun hle => ?_)
      have hu16 : u < 16 := Nat.lt_of_not_le fun g => hle ((n_le (a := 16) (by decide) (by omega)).mpr g)
      have eu := n_ti (n := u) (by omega)
      have put : ∀ v : Int32, rg 0 65535 v → z_T (z_bd (z_si (some 52) (Int32.ofNat u) v) fun _ => ih3 (Int32.ofNat d, Int32.ofNat al, Int32.ofNat u + 1)) M4 Q := by
        intro v hv
        refine ht_bd (tr_si R4 (i := 52) (by decide) (by decide) rfl (by omega) (by omega) hv fun M5 R5 f5 => ?_)
        rw [n_s]
        exact hih3 (l4 - 1) _ _ (by omega) ⟨u + 1, rfl, by omega, R5, (f5 67 (by decide)).trans k4⟩
      refine ht_bd (ht_ga R4.1 (x := some 52) rfl ?_)
      refine ht_if (fun _ => put 65535 ⟨by decide, by decide⟩) (fun _ => ?_)
      refine ht_bd (ht_ga R4.1 (x := some 52) rfl ?_)
      obtain ⟨c52, h52, k52⟩ := R4.ar (i := 52) (by decide) (by decide) rfl
      exact ht_bd (ri_li h52 k52 (by omega) (by omega) fun v hv => put v hv)
    unfold F_X11_reckon_57
    refine ht_fix (body := fun ih3 s => B_X11_reckon_57 42 (fun y0 => ih y0) (fun y0 y1 y2 y3 => ih3 (y0, y1, y2, y3)) s.1 s.2.1 s.2.2.1 s.2.2.2) (I := fun l st M' => M' = M3 ∧ ∃ al u : Nat, st = (Int32.ofNat d, Int32.ofNat x, Int32.ofNat al, Int32.ofNat u) ∧ u + l = 16 ∧ al < 65536 ∧ al.testBit x = true) ?_ z_N 16 _ M3 (by decide) ⟨rfl, 2 ^ x, 0, rfl, by omega, w_p16 hx, Nat.testBit_two_pow_self⟩
    intro l4 st M4 ih3 hI3 hih3
    obtain ⟨rfl, al, u, rfl, hu, hal, hax⟩ := hI3
    unfold B_X11_reckon_57 F_X11_reckon_92 F_X11_reckon_93
    dsimp only
    refine ht_if (fun _ => l104 al hal hax) (fun hle => ?_)
    have hu16 : u < 16 := Nat.lt_of_not_le fun g => hle ((n_le (a := 16) (by decide) (by omega)).mpr g)
    have nx : ∀ w : Nat, w < 65536 → z_T (z_bd (z_ret (Int32.ofNat al ||| Int32.ofNat w)) fun x18 => ih3 (Int32.ofNat d, Int32.ofNat x, x18, Int32.ofNat u + 1)) M4 Q := by
      intro w hw
      refine ht_bd (ht_ret ?_)
      rw [w_or, n_s]
      exact hih3 (l4 - 1) _ _ (by omega) ⟨rfl, al ||| w, u + 1, rfl, by omega, w_o16 hal hw, by rw [Nat.testBit_or, hax]; rfl⟩
    refine ht_bd (ht_rc R2.1 ?_)
    refine ht_bd (t_ct R2 hN k2 hx hu16 (fun _ => ?_) (fun _ => ?_))
    · rw [if_neg (by decide)]
      refine ht_bd (ht_rc R2.1 ?_)
      refine ht_bd (t_ct R2 hN k2 hu16 hx (fun _ => ?_) (fun _ => ?_))
      · rw [if_neg (by decide), w_sh hu16]
        exact nx _ (w_p16 hu16)
      · rw [if_pos rfl]
        exact nx 0 (by decide)
    · rw [if_pos rfl]
      exact nx 0 (by decide)
  · rw [if_pos rfl, n_s]
    have : x ≠ s0 := fun e => hnr (by rw [e]; exact hr)
    exact hih2 (l - 1) _ _ (by omega) ⟨rfl, x + 1, rfl, by omega⟩
end RK
