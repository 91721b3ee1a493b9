/-! THE REFERENCE's weigh, holds, refers -/
theorem n_2 {k : Nat} : (2 : Int32) * Int32.ofNat k = Int32.ofNat (2 * k) := (Int32.ofNat_mul 2 k).symm
theorem n_d2 {k : Nat} (h : k < 2147483648) : Int32.ofNat k / 2 = Int32.ofNat (k / 2) := (Int32.ofNat_div h (b := 2) (by decide)).symm
section WG
variable {h : Nat → zC} {nE kn wr pc th : Int32} {M : zM} {ks as bs cs ss xs ys zs : List Int32} {n c : Nat} {p q r : List Value} {L : List Nat}
theorem t_w34 (hc : c ≤ 60) (R : RT h (rob (Int32.ofNat c) nE kn wr (Int32.ofNat L.length) th) M) (H : HD h ks as bs cs ss xs ys zs n p q r) (P : PLC bs n L M) {nd : Int32} {s e : Nat} (hs : s < 16) (hx : xs[s]? = some (Int32.ofNat e)) (he : e < n) {Q : Int64 → zM → Prop} (t : ∀ (w : Int64) (M' : zM), RT h (rob (Int32.ofNat c) nE kn wr (Int32.ofNat L.length) th) M' → fG M M' → Q w M') : z_T (F_X11_weigh_34 42 nd (Int32.ofNat s)) M Q := by
  have c1 := i1287
  have l4 := H.2.1.2.2.2.2.2.2.1
  have es := n_ti (n := s) (by omega)
  have ee := n_ti (n := e) (by omega)
  have e1300 : (1300 : Int32).toInt = 1300 := rfl
  have ex : (1300 * Int32.ofNat e).toInt = 1300 * e := by rw [i_mul (by rw [e1300, ee]; omega) (by rw [e1300, ee]; omega), e1300, ee]
  have l149 : ∀ M1, RT h (rob (Int32.ofNat c) nE kn wr (Int32.ofNat L.length) th) M1 → fG M M1 → z_T (F_X11_weigh_149 42 z_N (Int32.ofNat s, 0, 0)) M1 Q := by
    intro M1 R1 f1
    unfold F_X11_weigh_149
    refine ht_fix (body := fun ih s => B_X11_weigh_149 42 (fun y0 y1 y2 => ih (y0, y1, y2)) s.1 s.2.1 s.2.2) (I := fun m st M' => M' = M1 ∧ ∃ (w : Int64) (y : Int32), st = (Int32.ofNat s, w, y) ∧ 0 ≤ y.toInt ∧ y.toInt + m = 1287) ?_ z_N 1287 _ M1 (by decide) ⟨rfl, 0, 0, rfl, by decide, by decide⟩
    intro m st M2 ih hI hih
    obtain ⟨rfl, w, y, rfl, hy, hm⟩ := hI
    unfold B_X11_weigh_149 F_X11_weigh_191
    dsimp only
    have e49 := R1.ex (i := 49) (by decide) (by decide) rfl
    rw [H.2.2.2.2.1.2.1] at e49
    refine ht_bd (ht_gi R1.1 (x := 1287) rfl ?_)
    refine ht_if (fun _ => ht_ret (t _ _ R1 f1)) (fun h2 => ?_)
    have h2 : y.toInt < (1287 : Int32).toInt := i_nle.mp h2
    have e2 := i_s (a := y) (by omega)
    have s3 := i_add (a := 1300 * Int32.ofNat e) (b := y) (by omega) (by omega)
    have nx : ∀ w2 : Int64, z_T (z_bd (z_ret (w + w2)) fun w36 => ih (Int32.ofNat s, w36, y + 1)) M2 Q := fun w2 => ht_bd (ht_ret (hih (m - 1) _ _ (by omega) ⟨rfl, _, y + 1, rfl, by omega, by omega⟩))
    refine ht_bd (ht_ga R1.1 (x := some 63) rfl ?_)
    refine ht_bd (ht_ga R1.1 (x := some 49) rfl ?_)
    refine ht_bd (va_li e49 rfl (by omega) hx ?_)
    refine ht_bd (tr_lb R1 (i := 63) (by decide) (by decide) rfl (by omega) (by omega) fun v _ => ?_)
    refine ht_if (fun _ => nx 0) (fun _ => ?_)
    refine ht_bd (ht_ga R1.1 (x := some 65) rfl ?_)
    exact ht_bd (tr_ll R1 (i := 65) (by decide) (by decide) rfl hy (by omega) fun w2 => nx w2)
  have l67 : ∀ M1, RT h (rob (Int32.ofNat c) nE kn wr (Int32.ofNat L.length) th) M1 → fG M M1 → z_T (F_X11_weigh_67 42 z_N (nd, Int32.ofNat s, 0)) M1 Q := by
    intro M1 R1 f1
    unfold F_X11_weigh_67
    refine ht_fix (body := fun ih s => B_X11_weigh_67 42 (fun y0 y1 y2 => ih (y0, y1, y2)) s.1 s.2.1 s.2.2) (I := fun m st M' => RT h (rob (Int32.ofNat c) nE kn wr (Int32.ofNat L.length) th) M' ∧ fG M M' ∧ ∃ k : Nat, st = (nd, Int32.ofNat s, Int32.ofNat k) ∧ k + m = 2 * c) ?_ z_N (2 * c) _ M1 (Nat.lt_of_le_of_lt (show 2 * c ≤ 120 by omega) (by decide)) ⟨R1, f1, 0, rfl, by omega⟩
    intro m st M2 ih hI hih
    obtain ⟨R2, f2, k, rfl, hk⟩ := hI
    unfold B_X11_weigh_67
    dsimp only
    refine ht_bd (ht_gi R2.1 (x := Int32.ofNat c) rfl ?_)
    rw [n_2]
    refine ht_if (fun _ => l149 M2 R2 f2) (fun hle => ?_)
    have hlt : k < 2 * c := Nat.lt_of_not_le fun g => hle ((n_le (by omega) (by omega)).mpr g)
    have ek := n_ti (n := k / 2) (by omega)
    have go : ∀ o : Int32, z_T (F_X11_weigh_88 42 (fun y0 y1 y2 => ih (y0, y1, y2)) nd (Int32.ofNat s) (Int32.ofNat k) o) M2 Q := by
      intro o
      unfold F_X11_weigh_88 F_X11_weigh_109 F_X11_weigh_138
      rw [n_d2 (by omega)]
      obtain ⟨m1, m2, m3, m4⟩ := i_3 (k := Int32.ofNat (k / 2)) (by omega) (by omega)
      have nx : ∀ M3, RT h (rob (Int32.ofNat c) nE kn wr (Int32.ofNat L.length) th) M3 → fG M M3 → z_T (ih (nd, Int32.ofNat s, Int32.ofNat k + 1)) M3 Q := fun M3 R3 f3 => by
        rw [n_s]
        exact hih (m - 1) _ _ (by omega) ⟨R3, f3, k + 1, rfl, by omega⟩
      have wk : ∀ d : Int32, 0 ≤ (3 * Int32.ofNat (k / 2) + d).toInt → (3 * Int32.ofNat (k / 2) + d).toInt < 180 → z_T (z_bd (z_li (some 43) (3 * Int32.ofNat (k / 2) + d)) fun x21 => if x21 = nd then (z_bd (z_rc (some 42) 11) fun b24 => z_bd (F_X11_concerns b24 (Int32.ofNat s) (Int32.ofNat (k / 2)) o) fun x23 => if x23 = 0 then (ih (nd, Int32.ofNat s, Int32.ofNat k + 1)) else (z_bd (z_rc (some 42) 11) fun b26 => z_bd (F_X11_giveOut b26 (Int32.ofNat s) (Int32.ofNat (k / 2)) o) fun _ => ih (nd, Int32.ofNat s, Int32.ofNat k + 1))) else (ih (nd, Int32.ofNat s, Int32.ofNat k + 1))) M2 Q := by
        intro d d0 d1
        refine ht_bd (t_a3 R2 H d0 d1 fun v => ?_)
        refine ht_if (fun _ => ?_) (fun _ => nx M2 R2 f2)
        refine ht_bd (ht_rc R2.1 ?_)
        refine ht_bd (t_concerns R2 H (P.of f2.2.1) (by omega) (by omega) (by omega) (by omega) fun v => ?_)
        refine ht_if (fun _ => nx M2 R2 f2) (fun _ => ?_)
        refine ht_bd (ht_rc R2.1 ?_)
        refine ht_bd (t_giveOut R2 H (P.of f2.2.1) (by omega) (by omega) (by omega) (by omega) fun M3 R3 f3 => ?_)
        exact nx M3 R3 ⟨f3.1.trans f2.1, f3.2.1.trans f2.2.1, f3.2.2.trans f2.2.2⟩
      refine ht_bd (ht_ga R2.1 (x := some 43) rfl ?_)
      exact ht_if (fun _ => wk 2 (by omega) (by omega)) (fun _ => wk 0 (by omega) (by omega))
    exact ht_if (fun _ => go 1) (fun _ => go 0)
  unfold F_X11_weigh_34 F_X11_weigh_36
  refine ht_fix (body := fun ih s => B_X11_weigh_36 42 (fun y0 y1 y2 => ih (y0, y1, y2)) s.1 s.2.1 s.2.2) (I := fun m st M' => RT h (rob (Int32.ofNat c) nE kn wr (Int32.ofNat L.length) th) M' ∧ fG M M' ∧ ∃ y : Int32, st = (nd, Int32.ofNat s, y) ∧ 0 ≤ y.toInt ∧ y.toInt + m = 1287) ?_ z_N 1287 _ M (by decide) ⟨R, ⟨rfl, rfl, rfl⟩, 0, rfl, by decide, by decide⟩
  intro m st M1 ih hI hih
  obtain ⟨R1, f1, y, rfl, hy, hm⟩ := hI
  unfold B_X11_weigh_36 F_X11_weigh_58
  dsimp only
  refine ht_bd (ht_gi R1.1 (x := 1287) rfl ?_)
  refine ht_if (fun _ => l67 M1 R1 f1) (fun h2 => ?_)
  have h2 : y.toInt < (1287 : Int32).toInt := i_nle.mp h2
  have e2 := i_s (a := y) (by omega)
  have put : ∀ w : Int64, z_T (z_bd (z_slo (some 65) y w) fun _ => ih (nd, Int32.ofNat s, y + 1)) M1 Q := by
    intro w
    refine ht_bd (tr_slo R1 (i := 65) (by decide) (by decide) rfl hy (by omega) fun M2 R2 f2 => ?_)
    exact hih (m - 1) _ _ (by omega) ⟨R2, f1.w f2 (by decide) (by decide) (by decide), y + 1, rfl, by omega, by omega⟩
  refine ht_bd (ht_ga R1.1 (x := some 65) rfl ?_)
  exact ht_if (fun _ => put 1) (fun _ => put 0)
theorem t_weigh (hc : c ≤ 60) (R : RT h (rob (Int32.ofNat c) nE kn wr pc th) M) (H : HD h ks as bs cs ss xs ys zs n p q r) {nd : Int32} {s : Nat} (hs : s < 16) (hb : ss[s]? = some 0) {Q : Int64 → zM → Prop} (t : ∀ (w : Int64) (M' : zM) (pc' : Int32), RT h (rob (Int32.ofNat c) nE kn wr pc' th) M' → M'[52]? = M[52]? → M'[67]? = M[67]? → Q w M') : z_T (F_X11_weigh 42 nd (Int32.ofNat s)) M Q := by
  have l4 := H.2.1.2.2.2.2.2.2.1
  obtain ⟨kd, x, y, z, g1, g2, g3, g4, g5, -, -⟩ := H.2.2.2.2.2.2.2.2.2 s hs
  rw [hb] at g1
  cases g1
  obtain ⟨e, he, rfl, hl5⟩ := g5 rfl
  have ee := n_ti (n := e) (by omega)
  have e49 := R.ex (i := 49) (by decide) (by decide) rfl
  rw [H.2.2.2.2.1.2.1] at e49
  unfold F_X11_weigh
  refine ht_bd (ht_ga R.1 (x := some 49) rfl ?_)
  refine ht_bd (va_li e49 rfl (by omega) g2 ?_)
  refine ht_bd (ht_rc R.1 ?_)
  refine ht_bd (t_fp R H.2.1 he fun M1 ps R1 h57 h58 hpl hL f1 => ?_)
  have P1 : PLC bs n (fp_pl ks as bs e) M1 := ⟨hl5, fp_in H.2.1.2.2.2 he, ps, h58, hL⟩
  have f49 := R1.ex (i := 49) (by decide) (by decide) rfl
  rw [H.2.2.2.2.1.2.1] at f49
  have last : ∀ M2, RT h (rob (Int32.ofNat c) nE kn wr (Int32.ofNat (fp_pl ks as bs e).length) th) M2 → M2[52]? = M1[52]? → M2[58]? = M1[58]? → M2[67]? = M1[67]? → z_T (F_X11_weigh_34 42 nd (Int32.ofNat s)) M2 Q := by
    intro M2 R2 k1 k2 k3
    refine t_w34 hc R2 H (P1.of k2) hs g2 he fun w M3 R3 f3 => t w M3 _ R3 ?_ ?_
    · exact f3.1.trans (k1.trans (f1 52 (by decide) (by decide) (by decide)))
    · exact f3.2.2.trans (k3.trans (f1 67 (by decide) (by decide) (by decide)))
  refine ht_bd (ht_ga R1.1 (x := some 64) rfl ?_)
  refine ht_bd (ht_ga R1.1 (x := some 49) rfl ?_)
  refine ht_bd (va_li f49 rfl (by omega) g2 ?_)
  refine ht_bd (tr_lb R1 (i := 64) (by decide) (by decide) rfl (by omega) (by omega) fun v _ => ?_)
  refine ht_if (fun _ => ?_) (fun _ => last M1 R1 rfl rfl rfl)
  refine ht_bd (ht_ga R1.1 (x := some 49) rfl ?_)
  refine ht_bd (va_li f49 rfl (by omega) g2 ?_)
  refine ht_bd (ht_rc R1.1 ?_)
  refine ht_bd (t_root R1 H.1 H.2.1 H.2.2.1.1 H.2.2.1.2 he h57 fp_ml h58 hL hl5 fun M2 R2 k1 k2 k3 => ?_)
  exact last M2 R2 k1 k2 k3
theorem t_holds (hc : c ≤ 60) (R : RT h (rob (Int32.ofNat c) nE kn wr pc th) M) (H : HD h ks as bs cs ss xs ys zs n p q r) {nd : Int32} {s : Nat} (hs : s < 16) {Q : Int32 → zM → Prop} (t : ∀ (v : Int32) (M' : zM) (pc' : Int32), RT h (rob (Int32.ofNat c) nE kn wr pc' th) M' → M'[52]? = M[52]? → M'[67]? = M[67]? → Q v M') : z_T (F_X11_holds 42 nd (Int32.ofNat s)) M Q := by
  obtain ⟨kd, x, y, z, g1, g2, g3, g4, g5, g6, g7⟩ := H.2.2.2.2.2.2.2.2.2 s hs
  have e48 := R.ex (i := 48) (by decide) (by decide) rfl
  have e49 := R.ex (i := 49) (by decide) (by decide) rfl
  have e50 := R.ex (i := 50) (by decide) (by decide) rfl
  rw [H.2.2.2.2.1.1] at e48
  rw [H.2.2.2.2.1.2.1] at e49
  rw [H.2.2.2.2.1.2.2.1] at e50
  obtain ⟨c52, h52, k52⟩ := R.ar (i := 52) (by decide) (by decide) rfl
  have fin : ∀ v : Int32, z_T (z_ret v) M Q := fun v => ht_ret (t v M pc R rfl rfl)
  unfold F_X11_holds F_X11_holds_176 F_X11_holds_161 F_X11_holds_137 F_X11_holds_142 F_X11_holds_102 F_X11_holds_103 F_X11_holds_64
  rw [z_rb0, z_rb1]
  refine ht_bd (ht_ga R.1 (x := some 49) rfl ?_)
  refine ht_bd (va_li e49 rfl (by omega) g2 ?_)
  refine ht_bd (ht_ga R.1 (x := some 48) rfl ?_)
  refine ht_bd (va_li e48 rfl (by omega) g1 ?_)
  refine ht_if (fun e0 => ?_) (fun _ => ?_)
  · subst e0
    refine ht_bd (ht_rc R.1 ?_)
    refine ht_bd (t_weigh hc R H hs g1 fun w M1 pc' R1 k1 k2 => ?_)
    exact ht_if (fun _ => ht_ret (t _ M1 pc' R1 k1 k2)) (fun _ => ht_ret (t _ M1 pc' R1 k1 k2))
  refine ht_if (fun e1 => ?_) (fun _ => ?_)
  · obtain ⟨r1, r2⟩ := g6 (Or.inl e1)
    have r11 := r1.1
    have r12 := r1.2
    have r21 := r2.1
    have r22 := r2.2
    refine ht_bd (ht_ga R.1 (x := some 52) rfl ?_)
    refine ht_bd (ri_li h52 k52 r11 (by omega) fun v _ => ?_)
    refine ht_if (fun _ => ?_) (fun _ => fin _)
    refine ht_bd (ht_ga R.1 (x := some 52) rfl ?_)
    refine ht_bd (ht_ga R.1 (x := some 50) rfl ?_)
    refine ht_bd (va_li e50 rfl (by omega) g3 ?_)
    refine ht_bd (ri_li h52 k52 r21 (by omega) fun v _ => ?_)
    exact ht_if (fun _ => fin _) (fun _ => fin _)
  refine ht_if (fun e1 => ?_) (fun _ => ?_)
  · obtain ⟨r1, r2⟩ := g6 (Or.inr e1)
    have r11 := r1.1
    have r12 := r1.2
    have r21 := r2.1
    have r22 := r2.2
    refine ht_bd (ht_ga R.1 (x := some 52) rfl ?_)
    refine ht_bd (ri_li h52 k52 r11 (by omega) fun v _ => ?_)
    refine ht_if (fun _ => fin _) (fun _ => ?_)
    refine ht_bd (ht_ga R.1 (x := some 52) rfl ?_)
    refine ht_bd (ht_ga R.1 (x := some 50) rfl ?_)
    refine ht_bd (va_li e50 rfl (by omega) g3 ?_)
    refine ht_bd (ri_li h52 k52 r21 (by omega) fun v _ => ?_)
    exact ht_if (fun _ => fin _) (fun _ => fin _)
  refine ht_if (fun e1 => ?_) (fun _ => ?_)
  · have r11 := (g7 e1).1
    have r12 := (g7 e1).2
    refine ht_bd (ht_ga R.1 (x := some 52) rfl ?_)
    refine ht_bd (ri_li h52 k52 r11 (by omega) fun v _ => ?_)
    exact ht_if (fun _ => fin _) (fun _ => fin _)
  refine ht_if (fun _ => ?_) (fun _ => fin _)
  exact ht_if (fun _ => fin _) (fun _ => fin _)
theorem t_refers (R : RT h (rob (Int32.ofNat c) nE kn wr pc th) M) (H : HD h ks as bs cs ss xs ys zs n p q r) {s : Nat} (hs : s < 16) {Q : Int32 → zM → Prop} (t : ∀ (v : Int32) (M' : zM) (pc' : Int32), rg 0 65535 v → RT h (rob (Int32.ofNat c) nE kn wr pc' th) M' → Q v M') : z_T (F_X11_refers 42 (Int32.ofNat s)) M Q := by
  have l4 := H.2.1.2.2.2.2.2.2.1
  have b3 := H.2.1.2.2.1
  obtain ⟨kd, x, y, z, g1, g2, g3, g4, g5, g6, g7⟩ := H.2.2.2.2.2.2.2.2.2 s hs
  have e48 := R.ex (i := 48) (by decide) (by decide) rfl
  have e49 := R.ex (i := 49) (by decide) (by decide) rfl
  have e50 := R.ex (i := 50) (by decide) (by decide) rfl
  rw [H.2.2.2.2.1.1] at e48
  rw [H.2.2.2.2.1.2.1] at e49
  rw [H.2.2.2.2.1.2.2.1] at e50
  have z0 := i0
  have r59 : ∀ v : Int32, rg 0 65535 v → z_T (F_X11_refers_59 42 (Int32.ofNat s) v) M Q := by
    intro v hv
    unfold F_X11_refers_59 F_X11_refers_128
    refine ht_bd (ht_ga R.1 (x := some 48) rfl ?_)
    refine ht_bd (va_li e48 rfl (by omega) g1 ?_)
    refine ht_if (fun ek => ?_) (fun _ => ht_ret (t _ _ _ hv R))
    obtain ⟨e, he, rfl, hl5⟩ := g5 ek
    refine ht_bd (ht_ga R.1 (x := some 49) rfl ?_)
    refine ht_bd (va_li e49 rfl (by omega) g2 ?_)
    refine ht_bd (ht_rc R.1 ?_)
    refine ht_bd (t_fp R H.2.1 he fun M1 ps R1 h57 h58 hpl hL f1 => ?_)
    have P1 : PLC bs n (fp_pl ks as bs e) M1 := ⟨hl5, fp_in H.2.1.2.2.2 he, ps, h58, hL⟩
    have e46 := R1.ex (i := 46) (by decide) (by decide) rfl
    rw [b3] at e46
    unfold F_X11_refers_80
    refine ht_fix (body := fun ih s => B_X11_refers_80 42 (fun y0 y1 => ih (y0, y1)) s.1 s.2) (I := fun m st M' => M' = M1 ∧ ∃ (v : Int32) (j : Nat), st = (v, Int32.ofNat j) ∧ rg 0 65535 v ∧ j + m = (fp_pl ks as bs e).length) ?_ z_N (fp_pl ks as bs e).length _ M1 (Nat.lt_of_le_of_lt hl5 (by decide)) ⟨rfl, v, 0, rfl, hv, by omega⟩
    intro m st M2 ih hI hih
    obtain ⟨rfl, v, j, rfl, hv, hj⟩ := hI
    have hv0 := hv.1
    have hv1 := hv.2
    unfold B_X11_refers_80 F_X11_refers_120 F_X11_refers_128
    dsimp only
    refine ht_bd (ht_gi R1.1 (x := Int32.ofNat (fp_pl ks as bs e).length) rfl ?_)
    refine ht_if (fun _ => ht_ret (t _ _ _ hv R1)) (fun hle => ?_)
    have hlt : j < (fp_pl ks as bs e).length := Nat.lt_of_not_le fun g => hle ((n_le (by omega) (by omega)).mpr g)
    have nx : ∀ w : Int32, 0 ≤ w.toInt → w.toInt < 65536 → z_T (z_bd (z_ret (v ||| w)) fun x30 => ih (x30, Int32.ofNat j + 1)) M2 Q := by
      intro w w0 w1
      refine ht_bd (ht_ret ?_)
      rw [n_s]
      obtain ⟨o0, o1⟩ := i_or hv0 (by omega) w0 w1
      exact hih (m - 1) _ _ (by omega) ⟨rfl, _, j + 1, rfl, ⟨o0, by omega⟩, by omega⟩
    refine ht_bd (ht_ga R1.1 (x := some 46) rfl ?_)
    refine ht_bd (ht_ga R1.1 (x := some 58) rfl ?_)
    refine ht_bd (t_pl P1 hlt ?_)
    obtain ⟨hx2, b, hb, hbr⟩ := P1.2.1 _ (List.getElem_mem hlt)
    have hb2 := hbr.2
    refine ht_bd (va_li e46 rfl (by omega) hb ?_)
    refine ht_if (fun _ => nx 0 (by decide) (by decide)) (fun hb0 => ?_)
    have hb0 : (0 : Int32).toInt ≤ b.toInt := i_nlt.mp hb0
    refine ht_bd (ht_ga R1.1 (x := some 46) rfl ?_)
    refine ht_bd (ht_ga R1.1 (x := some 58) rfl ?_)
    refine ht_bd (t_pl P1 hlt ?_)
    refine ht_bd (va_li e46 rfl (by omega) hb ?_)
    obtain ⟨o0, o1⟩ := i_sh (x := b) (by omega) (by omega)
    exact nx _ o0 o1
  have r40 : ∀ v : Int32, rg 0 65535 v → z_T (F_X11_refers_40 42 (Int32.ofNat s) v) M Q := by
    intro v hv
    unfold F_X11_refers_40
    refine ht_bd (ht_ga R.1 (x := some 48) rfl ?_)
    refine ht_bd (va_li e48 rfl (by omega) g1 ?_)
    refine ht_if (fun ek => ?_) (fun _ => r59 v hv)
    have r1 := (g7 ek).1
    have r2 := (g7 ek).2
    refine ht_bd (ht_ga R.1 (x := some 49) rfl ?_)
    refine ht_bd (va_li e49 rfl (by omega) g2 ?_)
    refine ht_bd (ht_ret ?_)
    obtain ⟨o0, o1⟩ := i_sh (x := x) (by omega) (by omega)
    exact r59 _ ⟨o0, by omega⟩
  have r22 : kd = 1 ∨ kd = 2 → z_T (F_X11_refers_22 42 (Int32.ofNat s)) M Q := by
    intro ek
    obtain ⟨r1, r2⟩ := g6 ek
    have r11 := r1.1
    have r12 := r1.2
    have r21 := r2.1
    have r22 := r2.2
    unfold F_X11_refers_22
    refine ht_bd (ht_ga R.1 (x := some 49) rfl ?_)
    refine ht_bd (va_li e49 rfl (by omega) g2 ?_)
    refine ht_bd (ht_ga R.1 (x := some 50) rfl ?_)
    refine ht_bd (va_li e50 rfl (by omega) g3 ?_)
    refine ht_bd (ht_ret ?_)
    obtain ⟨o0, o1⟩ := i_sh (x := x) (by omega) (by omega)
    obtain ⟨u0, u1⟩ := i_sh (x := y) (by omega) (by omega)
    obtain ⟨w0, w1⟩ := i_or o0 o1 u0 u1
    exact r40 _ ⟨w0, by omega⟩
  unfold F_X11_refers
  refine ht_bd (ht_ga R.1 (x := some 48) rfl ?_)
  refine ht_bd (va_li e48 rfl (by omega) g1 ?_)
  refine ht_if (fun ek => r22 (Or.inl ek)) (fun _ => ?_)
  refine ht_bd (ht_ga R.1 (x := some 48) rfl ?_)
  refine ht_bd (va_li e48 rfl (by omega) g1 ?_)
  exact ht_if (fun ek => r22 (Or.inr ek)) (fun _ => r40 0 ⟨by decide, by decide⟩)
end WG
