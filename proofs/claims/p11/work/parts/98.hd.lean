/-! THE REFERENCE's SHAPES and PLACES -/
theorem fp_len {ks as bs ms : List Int32} {k : Nat} : (fp_step ks as bs ms k).length = ms.length := by
  unfold fp_step
  split
  · rfl
  split
  · rfl
  split
  · rfl
  split
  · simp
  · simp
theorem fp_dnl {ks as bs : List Int32} : ∀ (k : Nat) (ms : List Int32), (fp_dn ks as bs k ms).length = ms.length := by
  intro k
  induction k with
  | zero => intro ms; rw [fp_dn_0]
  | succ k ih => intro ms; rw [fp_dn_s, ih, fp_len]
theorem fp_ml {ks as bs : List Int32} {e : Nat} : (fp_made ks as bs e).length = 60 := by
  unfold fp_made
  rw [fp_dnl]
  unfold fp_m0
  simp
theorem gd_ne {vs : List Int32} {n k : Nat} {x : Int32} (h : k ≠ n) : (vs.set n x).getD k 0 = vs.getD k 0 := by
  rw [List.getD_eq_getElem?_getD, List.getElem?_set_ne (fun e => h e.symm), ← List.getD_eq_getElem?_getD]
theorem fp_dn_e {ks as bs ks' as' bs' : List Int32} {n : Nat} (H : ∀ j, j < n → ks'.getD j 0 = ks.getD j 0 ∧ as'.getD j 0 = as.getD j 0 ∧ bs'.getD j 0 = bs.getD j 0) : ∀ (k : Nat) (ms : List Int32), k ≤ n → fp_dn ks' as' bs' k ms = fp_dn ks as bs k ms := by
  intro k
  induction k with
  | zero => intro ms _; rw [fp_dn_0, fp_dn_0]
  | succ k ih =>
    intro ms hk
    obtain ⟨h1, h2, h3⟩ := H k (by omega)
    rw [fp_dn_s, fp_dn_s, ih _ (by omega)]
    unfold fp_step
    rw [h1, h2, h3]
theorem fp_pl_e {ks as bs ks' as' bs' : List Int32} {n : Nat} (H : ∀ j, j < n → ks'.getD j 0 = ks.getD j 0 ∧ as'.getD j 0 = as.getD j 0 ∧ bs'.getD j 0 = bs.getD j 0) {e : Nat} (he : e < n) : fp_pl ks' as' bs' e = fp_pl ks as bs e := by
  unfold fp_pl fp_made
  rw [fp_dn_e H _ _ (by omega)]
  refine List.filter_congr fun x hx => ?_
  have := List.mem_range.mp hx
  unfold fp_P
  rw [(H x (by omega)).1]
def SHO (ks as bs : List Int32) (n : Nat) (ss xs ys zs : List Int32) : Prop := ss.length = 16 ∧ xs.length = 16 ∧ ys.length = 16 ∧ zs.length = 16 ∧ ∀ s : Nat, s < 16 → ∃ t x y z : Int32, ss[s]? = some t ∧ xs[s]? = some x ∧ ys[s]? = some y ∧ zs[s]? = some z ∧ (t = 0 → ∃ e : Nat, e < n ∧ x = Int32.ofNat e ∧ (fp_pl ks as bs e).length ≤ 5) ∧ (t = 1 ∨ t = 2 → rg 0 15 x ∧ rg 0 15 y) ∧ (t = 3 → rg 0 15 x)
/-- what stands in the exact cells -/
def HD (h : Nat → zC) (ks as bs cs ss xs ys zs : List Int32) (n : Nat) (p q r : List Value) : Prop := TBH h p q r ∧ EXH h ks as bs n ∧ (h 47 = .inl (0, cs.map .int) ∧ cs.length = 60) ∧ pI 180 (fun _ => True) (h 43) ∧ (h 48 = .inl (0, ss.map .int) ∧ h 49 = .inl (0, xs.map .int) ∧ h 50 = .inl (0, ys.map .int) ∧ h 51 = .inl (0, zs.map .int)) ∧ SHO ks as bs n ss xs ys zs
/-- the places found -/
def PLC (bs : List Int32) (n : Nat) (L : List Nat) (M : zM) : Prop := L.length ≤ 5 ∧ (∀ x ∈ L, x < n ∧ ∃ b : Int32, bs[x]? = some b ∧ rg (-1) 15 b) ∧ ∃ ps : List Int32, M[58]? = some (.inl (0, ps.map .int)) ∧ ∀ i x : Nat, L[i]? = some x → ps[i]? = some (Int32.ofNat x)
theorem PLC.of {bs : List Int32} {n : Nat} {L : List Nat} {M M' : zM} (P : PLC bs n L M) (f : M'[58]? = M[58]?) : PLC bs n L M' := by
  obtain ⟨h1, h2, ps, h3, h4⟩ := P
  exact ⟨h1, h2, ps, f.trans h3, h4⟩
theorem fp_in {ks as bs : List Int32} {n : Nat} (hE : EXO ks as bs n) {e : Nat} (he : e < n) : ∀ x ∈ fp_pl ks as bs e, x < n ∧ ∃ b : Int32, bs[x]? = some b ∧ rg (-1) 15 b := by
  intro x hx
  unfold fp_pl at hx
  obtain ⟨h1, h2⟩ := List.mem_filter.mp hx
  have h1 := List.mem_range.mp h1
  obtain ⟨-, -, -, -, K⟩ := hE
  obtain ⟨kx, a, b, k1, k2, k3, -, -, -, k7⟩ := K x (by omega)
  unfold fp_P at h2
  rw [Bool.and_eq_true, decide_eq_true_eq, decide_eq_true_eq, gd k1] at h2
  have h3 : kx.toInt ≤ (1 : Int32).toInt := i_le.mp h2.2
  have e1 : (1 : Int32).toInt = 1 := rfl
  exact ⟨by omega, b, k3, k7 (by omega)⟩
theorem i_3 {k : Int32} (h0 : 0 ≤ k.toInt) (h1 : k.toInt < 60) : (3 * k).toInt = 3 * k.toInt ∧ (3 * k + 0).toInt = 3 * k.toInt ∧ (3 * k + 1).toInt = 3 * k.toInt + 1 ∧ (3 * k + 2).toInt = 3 * k.toInt + 2 := by
  have e3 : (3 : Int32).toInt = 3 := rfl
  have e0 : (0 : Int32).toInt = 0 := rfl
  have e1 : (1 : Int32).toInt = 1 := rfl
  have e2 : (2 : Int32).toInt = 2 := rfl
  have m : (3 * k).toInt = 3 * k.toInt := by rw [i_mul (by rw [e3]; omega) (by rw [e3]; omega), e3]
  refine ⟨m, ?_, ?_, ?_⟩
  · rw [i_add (by omega) (by omega)]; omega
  · rw [i_add (by omega) (by omega)]; omega
  · rw [i_add (by omega) (by omega)]; omega
def fG (M M' : zM) : Prop := M'[52]? = M[52]? ∧ M'[58]? = M[58]? ∧ M'[67]? = M[67]?
theorem fG.w {A B C : zM} (f : fG A B) {i : Nat} (k : ∀ b, b ≠ i → C[b]? = B[b]?) (h1 : i ≠ 52) (h2 : i ≠ 58) (h3 : i ≠ 67) : fG A C := ⟨(k 52 (fun e => h1 e.symm)).trans f.1, (k 58 (fun e => h2 e.symm)).trans f.2.1, (k 67 (fun e => h3 e.symm)).trans f.2.2⟩
section PX
variable {h : Nat → zC} {nA nE kn wr pc th : Int32} {M : zM} {ks as bs cs ss xs ys zs : List Int32} {n : Nat} {p q r : List Value} {L : List Nat}
theorem t_a3 (R : RT h (rob nA nE kn wr pc th) M) (H : HD h ks as bs cs ss xs ys zs n p q r) {i : Int32} (h0 : 0 ≤ i.toInt) (h1 : i.toInt < 180) {Q : Int32 → zM → Prop} (k : ∀ v, Q v M) : z_T (z_li (some 43) i) M Q := ri_li (R.ex (i := 43) (by decide) (by decide) rfl) H.2.2.2.1 h0 h1 (fun v _ => k v)
theorem t_isOut (R : RT h (rob nA nE kn wr pc th) M) (H : HD h ks as bs cs ss xs ys zs n p q r) {x : Nat} (hx : x < n) {Q : Int32 → zM → Prop} (k : ∀ v, Q v M) : z_T (F_X11_isOut 42 (Int32.ofNat x)) M Q := by
  obtain ⟨b1, b2, b3, l1, l2, l3, l4, K⟩ := H.2.1
  have e44 := R.ex (i := 44) (by decide) (by decide) rfl
  rw [b1] at e44
  unfold F_X11_isOut F_X11_isOut_14
  rw [z_rb0, z_rb1]
  refine ht_bd (ht_ga R.1 (x := some 44) rfl ?_)
  refine ht_bd (va_li e44 rfl (by omega) (List.getElem?_eq_getElem (show x < ks.length by omega)) ?_)
  exact ht_if (fun _ => ht_ret (k _)) (fun _ => ht_ret (k _))
theorem t_pl (P : PLC bs n L M) {i : Nat} (hi : i < L.length) {Q : Int32 → zM → Prop} (k : Q (Int32.ofNat (L[i]'hi)) M) : z_T (z_li (some 58) (Int32.ofNat i)) M Q := by
  obtain ⟨h1, h2, ps, h3, h4⟩ := P
  exact va_li h3 rfl (by omega) (h4 i _ (List.getElem?_eq_getElem hi)) k
theorem t_concerns (R : RT h (rob nA nE kn wr (Int32.ofNat L.length) th) M) (H : HD h ks as bs cs ss xs ys zs n p q r) (P : PLC bs n L M) {s k o : Int32} (s0 : 0 ≤ s.toInt) (s1 : s.toInt < 16) (k0 : 0 ≤ k.toInt) (k1 : k.toInt < 60) {Q : Int32 → zM → Prop} (t : ∀ v, Q v M) : z_T (F_X11_concerns 42 s k o) M Q := by
  obtain ⟨b1, b2, b3, l1, l2, l3, l4, K⟩ := H.2.1
  obtain ⟨m1, m2, m3, m4⟩ := i_3 k0 k1
  have hl5 := P.1
  have e45 := R.ex (i := 45) (by decide) (by decide) rfl
  rw [b2] at e45
  have e51 := R.ex (i := 51) (by decide) (by decide) rfl
  rw [H.2.2.2.2.1.2.2.2] at e51
  have loop : z_T (F_X11_concerns_16 42 k o) M Q := by
    unfold F_X11_concerns_16 F_X11_concerns_19
    refine ht_fix (body := fun ih s => B_X11_concerns_19 42 (fun y0 y1 y2 => ih (y0, y1, y2)) s.1 s.2.1 s.2.2) (I := fun m st M' => M' = M ∧ ∃ j : Nat, st = (k, o, Int32.ofNat j) ∧ j + m = L.length) ?_ z_N L.length _ M (Nat.lt_of_le_of_lt hl5 (by decide)) ⟨rfl, 0, rfl, by omega⟩
    intro m st M' ih hI hih
    obtain ⟨rfl, j, rfl, hj⟩ := hI
    unfold B_X11_concerns_19 F_X11_concerns_70
    rw [z_rb0, z_rb1]
    dsimp only
    refine ht_bd (ht_gi R.1 (x := Int32.ofNat L.length) rfl ?_)
    refine ht_if (fun _ => ht_ret (t _)) (fun hle => ?_)
    have hlt : j < L.length := Nat.lt_of_not_le fun g => hle ((n_le (by omega) (by omega)).mpr g)
    have nx : z_T (ih (k, o, Int32.ofNat j + 1)) M' Q := by
      rw [n_s]
      exact hih (m - 1) _ _ (by omega) ⟨rfl, j + 1, rfl, by omega⟩
    have hx := (P.2.1 _ (List.getElem_mem hlt)).1
    refine ht_bd (ht_ga R.1 (x := some 58) rfl ?_)
    refine ht_bd (t_pl P hlt ?_)
    refine ht_bd (ht_rc R.1 ?_)
    refine ht_bd (t_isOut R H hx fun v => ?_)
    refine ht_if (fun _ => ?_) (fun _ => nx)
    refine ht_bd (ht_ga R.1 (x := some 45) rfl ?_)
    refine ht_bd (ht_ga R.1 (x := some 58) rfl ?_)
    refine ht_bd (t_pl P hlt ?_)
    refine ht_bd (va_li e45 rfl (by omega) (List.getElem?_eq_getElem (show L[j] < as.length by omega)) ?_)
    refine ht_bd (ht_ga R.1 (x := some 43) rfl ?_)
    refine ht_bd (t_a3 R H (by omega) (by omega) fun v => ?_)
    exact ht_if (fun _ => ht_ret (t _)) (fun _ => nx)
  unfold F_X11_concerns
  refine ht_if (fun _ => loop) (fun _ => ?_)
  refine ht_bd (ht_ga R.1 (x := some 51) rfl ?_)
  refine ht_bd (ri_li e51 (n := 16) (p := fun _ => True) ⟨zs, rfl, H.2.2.2.2.2.2.2.2.1, fun _ _ => trivial⟩ s0 s1 fun v _ => ?_)
  rw [z_rb1]
  exact ht_if (fun _ => ht_ret (t _)) (fun _ => loop)
theorem t_mayBeLeft (R : RT h (rob nA nE kn wr pc th) M) (H : HD h ks as bs cs ss xs ys zs n p q r) {s k o : Int32} (s0 : 0 ≤ s.toInt) (s1 : s.toInt < 16) (k0 : 0 ≤ k.toInt) (k1 : k.toInt < 60) {Q : Int32 → zM → Prop} (t : ∀ v, Q v M) : z_T (F_X11_mayBeLeft 42 s k o) M Q := by
  obtain ⟨m1, m2, m3, m4⟩ := i_3 k0 k1
  have e50 := R.ex (i := 50) (by decide) (by decide) rfl
  rw [H.2.2.2.2.1.2.2.1] at e50
  unfold F_X11_mayBeLeft F_X11_mayBeLeft_31 F_X11_mayBeLeft_32
  rw [z_rb0, z_rb1]
  refine ht_if (fun _ => ht_ret (t _)) (fun _ => ?_)
  refine ht_bd (ht_ga R.1 (x := some 50) rfl ?_)
  refine ht_bd (ri_li e50 (n := 16) (p := fun _ => True) ⟨ys, rfl, H.2.2.2.2.2.2.2.1, fun _ _ => trivial⟩ s0 s1 fun v _ => ?_)
  refine ht_bd (ht_ga R.1 (x := some 43) rfl ?_)
  refine ht_bd (t_a3 R H (by omega) (by omega) fun v => ?_)
  exact ht_if (fun _ => ht_ret (t _)) (fun _ => ht_ret (t _))
theorem t_takes (R : RT h (rob nA nE kn wr pc th) M) (H : HD h ks as bs cs ss xs ys zs n p q r) {x : Nat} (hx : x < n) (hb : ∃ b : Int32, bs[x]? = some b ∧ rg (-1) 15 b) {k o : Int32} (k0 : 0 ≤ k.toInt) (k1 : k.toInt < 60) {Q : Int32 → zM → Prop} (t : ∀ v, Q v M) : z_T (F_X11_takes 42 (Int32.ofNat x) k o) M Q := by
  obtain ⟨b1, b2, b3, l1, l2, l3, l4, K⟩ := H.2.1
  obtain ⟨m1, m2, m3, m4⟩ := i_3 k0 k1
  obtain ⟨b, hb, hbr⟩ := hb
  have e45 := R.ex (i := 45) (by decide) (by decide) rfl
  have e46 := R.ex (i := 46) (by decide) (by decide) rfl
  rw [b2] at e45
  rw [b3] at e46
  have go : ∀ d : Int32, 0 ≤ (3 * k + d).toInt → (3 * k + d).toInt < 180 → z_T (F_X11_takes_16 42 (Int32.ofNat x) k o (some 43) (3 * k) d) M Q := by
    intro d d0 d1
    unfold F_X11_takes_16 F_X11_takes_78 F_X11_takes_82 F_X11_takes_83
    rw [z_rb0, z_rb1]
    refine ht_bd (t_a3 R H d0 d1 fun w => ?_)
    refine ht_bd (ht_rc R.1 ?_)
    refine ht_bd (t_isOut R H hx fun v => ?_)
    refine ht_if (fun _ => ?_) (fun _ => ht_ret (t _))
    refine ht_bd (ht_ga R.1 (x := some 45) rfl ?_)
    refine ht_bd (va_li e45 rfl (by omega) (List.getElem?_eq_getElem (show x < as.length by omega)) ?_)
    refine ht_bd (ht_ga R.1 (x := some 43) rfl ?_)
    refine ht_bd (t_a3 R H (by omega) (by omega) fun w => ?_)
    refine ht_if (fun _ => ?_) (fun _ => ht_ret (t _))
    refine ht_bd (ht_ga R.1 (x := some 46) rfl ?_)
    refine ht_bd (va_li e46 rfl (by omega) hb ?_)
    refine ht_if (fun _ => ht_ret (t _)) (fun hne => ?_)
    have hb0 : 0 ≤ b.toInt := by
      have h1 := hbr.1
      have h2 := i_ne.mp hne
      have h3 : (-1 : Int32).toInt = -1 := rfl
      rw [h3] at h2
      omega
    have hb1 := hbr.2
    refine ht_bd (ht_ga R.1 (x := some 52) rfl ?_)
    refine ht_bd (ht_ga R.1 (x := some 46) rfl ?_)
    refine ht_bd (va_li e46 rfl (by omega) hb ?_)
    obtain ⟨c, hc, hk⟩ := R.ar (i := 52) (by decide) (by decide) rfl
    refine ht_bd (ri_li hc hk hb0 (by omega) fun v _ => ?_)
    exact ht_if (fun _ => ht_ret (t _)) (fun _ => ht_ret (t _))
  unfold F_X11_takes
  refine ht_bd (ht_ga R.1 (x := some 43) rfl ?_)
  exact ht_if (fun _ => go 0 (by omega) (by omega)) (fun _ => go 2 (by omega) (by omega))
theorem t_giveOut (R : RT h (rob nA nE kn wr (Int32.ofNat L.length) th) M) (H : HD h ks as bs cs ss xs ys zs n p q r) (P : PLC bs n L M) {s k o : Int32} (s0 : 0 ≤ s.toInt) (s1 : s.toInt < 16) (k0 : 0 ≤ k.toInt) (k1 : k.toInt < 60) {Q : Unit → zM → Prop} (t : ∀ M', RT h (rob nA nE kn wr (Int32.ofNat L.length) th) M' → fG M M' → Q () M') : z_T (F_X11_giveOut 42 s k o) M Q := by
  have c1 := i1287
  have hl5 := P.1
  obtain ⟨a1, a2, a3, hJ⟩ := H.1
  have l165 : ∀ M1, RT h (rob nA nE kn wr (Int32.ofNat L.length) th) M1 → fG M M1 → z_T (F_X11_giveOut_165 42 z_N 0) M1 Q := by
    intro M1 R1 f1
    unfold F_X11_giveOut_165
    refine ht_fix (body := fun ih s => B_X11_giveOut_165 42 (fun y0 => ih y0) s) (I := fun m st M' => RT h (rob nA nE kn wr (Int32.ofNat L.length) th) M' ∧ fG M M' ∧ 0 ≤ st.toInt ∧ st.toInt + m = 1287) ?_ z_N 1287 _ M1 (by decide) ⟨R1, f1, by decide, by decide⟩
    intro m y M2 ih hI hih
    obtain ⟨R2, f2, hy, hm⟩ := hI
    unfold B_X11_giveOut_165
    dsimp only
    refine ht_bd (ht_gi R2.1 (x := 1287) rfl ?_)
    refine ht_if (fun _ => ht_ret (t _ R2 f2)) (fun h2 => ?_)
    have h2 : y.toInt < (1287 : Int32).toInt := i_nle.mp h2
    have e2 := i_s (a := y) (by omega)
    refine ht_bd (ht_ga R2.1 (x := some 65) rfl ?_)
    refine ht_bd (ht_ga R2.1 (x := some 66) rfl ?_)
    refine ht_bd (tr_ll R2 (i := 66) (by decide) (by decide) rfl hy (by omega) fun v => ?_)
    refine ht_bd (tr_slo R2 (i := 65) (by decide) (by decide) rfl hy (by omega) fun M3 R3 f3 => ?_)
    exact hih (m - 1) _ _ (by omega) ⟨R3, f2.w f3 (by decide) (by decide) (by decide), by omega, by omega⟩
  have l52 : ∀ M1, RT h (rob nA nE kn wr (Int32.ofNat L.length) th) M1 → fG M M1 → z_T (F_X11_giveOut_52 42 z_N (k, o, 1, 0)) M1 Q := by
    intro M1 R1 f1
    unfold F_X11_giveOut_52
    refine ht_fix (body := fun ih s => B_X11_giveOut_52 42 (fun y0 y1 y2 y3 => ih (y0, y1, y2, y3)) s.1 s.2.1 s.2.2.1 s.2.2.2) (I := fun m st M' => RT h (rob nA nE kn wr (Int32.ofNat L.length) th) M' ∧ fG M M' ∧ ∃ j : Nat, st = (k, o, Int32.ofNat (9 ^ j), Int32.ofNat j) ∧ j + m = L.length) ?_ z_N L.length _ M1 (Nat.lt_of_le_of_lt hl5 (by decide)) ⟨R1, f1, 0, rfl, by omega⟩
    intro m st M2 ih hI hih
    obtain ⟨R2, f2, j, rfl, hj⟩ := hI
    unfold B_X11_giveOut_52
    dsimp only
    refine ht_bd (ht_gi R2.1 (x := Int32.ofNat L.length) rfl ?_)
    refine ht_if (fun _ => l165 M2 R2 f2) (fun hle => ?_)
    have hlt : j < L.length := Nat.lt_of_not_le fun g => hle ((n_le (by omega) (by omega)).mpr g)
    obtain ⟨d1, d2⟩ := g_ds9 ⟨j, by omega⟩
    dsimp only at d1 d2
    unfold F_X11_giveOut_64
    refine ht_fix (body := fun ih2 s => B_X11_giveOut_64 42 (fun y0 y1 y2 y3 => ih (y0, y1, y2, y3)) (fun y0 y1 y2 y3 y4 => ih2 (y0, y1, y2, y3, y4)) s.1 s.2.1 s.2.2.1 s.2.2.2.1 s.2.2.2.2) (I := fun l st M' => RT h (rob nA nE kn wr (Int32.ofNat L.length) th) M' ∧ fG M M' ∧ ∃ y : Int32, st = (k, o, Int32.ofNat (9 ^ j), Int32.ofNat j, y) ∧ 0 ≤ y.toInt ∧ y.toInt + l = 1287) ?_ z_N 1287 _ M2 (by decide) ⟨R2, f2, 0, rfl, by decide, by decide⟩
    intro l st M3 ih2 hI2 hih2
    obtain ⟨R3, f3, y, rfl, hy, hl⟩ := hI2
    unfold B_X11_giveOut_64 F_X11_giveOut_149 F_X11_giveOut_143
    dsimp only
    have out : z_T (z_bd (z_ret (9 * Int32.ofNat (9 ^ j))) fun x32 => ih (k, o, x32, Int32.ofNat j + 1)) M3 Q := by
      refine ht_bd (ht_ret ?_)
      rw [n_9, n_s, show 9 * 9 ^ j = 9 ^ (j + 1) by rw [Nat.pow_succ, Nat.mul_comm]]
      exact hih (m - 1) _ _ (by omega) ⟨R3, f3, j + 1, rfl, by omega⟩
    refine ht_bd (ht_gi R3.1 (x := 1287) rfl ?_)
    refine ht_if (fun _ => out) (fun h2 => ?_)
    have h2 : y.toInt < (1287 : Int32).toInt := i_nle.mp h2
    have e2 := i_s (a := y) (by omega)
    have nx : ∀ M4, RT h (rob nA nE kn wr (Int32.ofNat L.length) th) M4 → fG M M4 → z_T (ih2 (k, o, Int32.ofNat (9 ^ j), Int32.ofNat j, y + 1)) M4 Q := fun M4 R4 f4 => hih2 (l - 1) _ _ (by omega) ⟨R4, f4, y + 1, rfl, by omega, by omega⟩
    refine ht_bd (ht_ga R3.1 (x := some 58) rfl ?_)
    obtain ⟨hx, hb⟩ := P.2.1 _ (List.getElem_mem hlt)
    refine ht_bd (t_pl (P.of f3.2.1) hlt ?_)
    refine ht_bd (ht_rc R3.1 ?_)
    refine ht_bd (t_takes R3 H hx hb k0 k1 fun v => ?_)
    refine ht_if (fun _ => out) (fun _ => ?_)
    refine ht_bd (ht_ga R3.1 (x := some 65) rfl ?_)
    refine ht_bd (tr_ll R3 (i := 65) (by decide) (by decide) rfl hy (by omega) fun w => ?_)
    refine ht_if (fun _ => nx M3 R3 f3) (fun _ => ?_)
    have e53 := R3.ex (i := 53) (by decide) (by decide) rfl
    have e54 := R3.ex (i := 54) (by decide) (by decide) rfl
    have e55 := R3.ex (i := 55) (by decide) (by decide) rfl
    rw [a1] at e53
    rw [a2] at e54
    rw [a3] at e55
    obtain ⟨u, u1, u2, u3, u4⟩ := t_ix hJ hy (by omega)
    refine ht_bd (ht_ga R3.1 (x := some 54) rfl ?_)
    refine ht_bd (ht_li e54 (by decide) (nlt0 hy) u4 ?_)
    refine ht_if (fun _ => nx M3 R3 f3) (fun h8 => ?_)
    have h8 : ¬ 8 ≤ g_ds u := fun e => h8 ((n_le (a := 8) (by decide) (by omega)).mpr e)
    obtain ⟨l1, i, i1, i2⟩ := t_pb hJ u1 d1 (by omega)
    have ei := n_ti (n := i) (by omega)
    refine ht_bd (ht_ga R3.1 (x := some 66) rfl ?_)
    refine ht_bd (ht_ga R3.1 (x := some 55) rfl ?_)
    refine ht_bd (ht_ga R3.1 (x := some 53) rfl ?_)
    refine ht_bd (ht_li e53 (by decide) (nlt0 hy) u3 ?_)
    rw [n_p]
    refine ht_bd (ht_li e55 (by decide) (n_nn (by omega)) (by rw [n_cl (by omega)]; exact i2) ?_)
    refine ht_bd (tr_ll R3 (i := 66) (by decide) (by decide) rfl (by omega) (by omega) fun w2 => ?_)
    refine ht_bd (ht_ga R3.1 (x := some 65) rfl ?_)
    refine ht_bd (tr_ll R3 (i := 65) (by decide) (by decide) rfl hy (by omega) fun w3 => ?_)
    refine ht_bd (tr_slo R3 (i := 66) (by decide) (by decide) rfl (by omega) (by omega) fun M4 R4 f4 => ?_)
    exact nx M4 R4 (f3.w f4 (by decide) (by decide) (by decide))
  unfold F_X11_giveOut F_X11_giveOut_3
  refine ht_fix (body := fun ih s => B_X11_giveOut_3 42 (fun y0 y1 y2 y3 => ih (y0, y1, y2, y3)) s.1 s.2.1 s.2.2.1 s.2.2.2) (I := fun m st M' => RT h (rob nA nE kn wr (Int32.ofNat L.length) th) M' ∧ fG M M' ∧ ∃ y : Int32, st = (s, k, o, y) ∧ 0 ≤ y.toInt ∧ y.toInt + m = 1287) ?_ z_N 1287 _ M (by decide) ⟨R, ⟨rfl, rfl, rfl⟩, 0, rfl, by decide, by decide⟩
  intro m st M1 ih hI hih
  obtain ⟨R1, f1, y, rfl, hy, hm⟩ := hI
  unfold B_X11_giveOut_3 F_X11_giveOut_39
  dsimp only
  refine ht_bd (ht_gi R1.1 (x := 1287) rfl ?_)
  refine ht_if (fun _ => l52 M1 R1 f1) (fun h2 => ?_)
  have h2 : y.toInt < (1287 : Int32).toInt := i_nle.mp h2
  have e2 := i_s (a := y) (by omega)
  have put : ∀ w : Int64, z_T (z_bd (z_slo (some 66) y w) fun _ => ih (s, k, o, y + 1)) M1 Q := by
    intro w
    refine ht_bd (tr_slo R1 (i := 66) (by decide) (by decide) rfl hy (by omega) fun M2 R2 f2 => ?_)
    exact hih (m - 1) _ _ (by omega) ⟨R2, f1.w f2 (by decide) (by decide) (by decide), y + 1, rfl, by omega, by omega⟩
  refine ht_bd (ht_ga R1.1 (x := some 66) rfl ?_)
  refine ht_bd (ht_rc R1.1 ?_)
  refine ht_bd (t_mayBeLeft R1 H s0 s1 k0 k1 fun v => ?_)
  refine ht_if (fun _ => put 0) (fun _ => ?_)
  refine ht_bd (ht_ga R1.1 (x := some 65) rfl ?_)
  exact ht_bd (tr_ll R1 (i := 65) (by decide) (by decide) rfl hy (by omega) fun w => put w)
end PX
