/-! THE MATCHER's COUNTS, THE SOLVER -/
section SO
variable {g : Nat → zC} {D : List Nat} {M : zM}
theorem k_loose (W : WT g D M) (hG : GOK g) {s : Nat} (hs : (gB ++ D)[s]? = some 17) {p : Int32} (h0 : 0 ≤ p.toInt) (h1 : p.toInt < 16) {Q : Int32 → zM → Prop} (q : ∀ x M', WT g D M' → Q x M') : z_T (F_X6_countLoose 33 p (some s) (some 41)) M Q := by
  unfold F_X6_countLoose
  obtain ⟨n, hM, hn⟩ := W.mat
  refine ht_bd (ht_rc hM ?_)
  refine ht_bd (k_gather W hG hs h0 h1 fun M1 W1 => ?_)
  unfold F_X6_countLoose_13
  refine ht_fix (body := fun ih s => B_X6_countLoose_13 33 (fun y0 y1 => ih (y0, y1)) s.1 s.2) (I := fun n st M' => WT g D M' ∧ ∃ z x : Int32, st = (z, x) ∧ 0 ≤ x.toInt ∧ x.toInt + n = 8) ?_ z_N 8 _ M1 (by decide) ⟨W1, 0, 0, rfl, by decide, by decide⟩
  intro n st M ih hI hih
  obtain ⟨W, z, x, rfl, hx, hn⟩ := hI
  unfold B_X6_countLoose_13 F_X6_countLoose_39
  dsimp only
  obtain ⟨m, hM, hm⟩ := W.mat
  refine ht_bd (ht_gi hM rfl ?_)
  refine ht_if (fun _ => ht_ret (q _ _ W)) (fun h => ?_)
  have h := i_nle.mp h
  have hm2 := hm.2
  refine ht_bd (ht_ga hM (x := some 38) rfl ?_)
  obtain ⟨c, hc, hk⟩ := W.ar (a := 38) (t := 38) rfl rfl
  refine ht_bd (ri_li hc hk hx (by omega) fun v _ => ?_)
  have e1 := i_s (a := x) (by omega)
  refine ht_if (fun _ => ?_) (fun _ => ?_)
  · refine ht_bd (ht_ret ?_)
    exact hih (n - 1) _ _ (by omega) ⟨W, _, x + 1, rfl, by omega, by omega⟩
  · refine ht_bd (ht_ret ?_)
    exact hih (n - 1) _ _ (by omega) ⟨W, _, x + 1, rfl, by omega, by omega⟩
theorem k_giveArc (W : WT g D M) {pl e f : Nat} (hpl : (gB ++ D)[pl]? = some 101) (he : isT e) (hf : isT f) {p : Int32} {Q : Unit → zM → Prop} (q : ∀ M', WT g D M' → Q () M') : z_T (F_X6_giveArc 33 p (some pl) (some e) (some f)) M Q := by
  unfold F_X6_giveArc
  obtain ⟨m, hF, -⟩ := W.tab hf
  refine ht_bd (ht_rc hF ?_)
  refine ht_bd (k_clear W hf fun M1 W1 => ?_)
  unfold F_X6_giveArc_8
  refine ht_fix (body := fun ih s => B_X6_giveArc_8 33 (fun y0 y1 y2 y3 y4 => ih (y0, y1, y2, y3, y4)) s.1 s.2.1 s.2.2.1 s.2.2.2.1 s.2.2.2.2) (I := fun n st M' => WT g D M' ∧ ∃ x : Int32, st = (p, some pl, some e, some f, x) ∧ 0 ≤ x.toInt ∧ x.toInt + n = 525) ?_ z_N 525 _ M1 (by decide) ⟨W1, 0, rfl, by decide, by decide⟩
  intro n st M ih hI hih
  obtain ⟨W, x, rfl, hx, hn⟩ := hI
  unfold B_X6_giveArc_8
  dsimp only
  obtain ⟨m, hM, hm⟩ := W.tab he
  refine ht_bd (ht_gi hM rfl ?_)
  refine ht_if (fun _ => ht_ret (q _ W)) (fun h => ?_)
  have h : x.toInt < m.toInt := i_nle.mp h
  have hm2 := hm.2
  have e1 := i_s (a := x) (by omega)
  -- the places of one bag
  have go : ∀ M', WT g D M' → z_T (F_X6_giveArc_43 33 (fun y0 y1 y2 y3 y4 => ih (y0, y1, y2, y3, y4)) p (some pl) (some e) (some f) x) M' Q := by
    intro M0 W0
    unfold F_X6_giveArc_43 F_X6_giveArc_46
    refine ht_fix (body := fun ih2 s => B_X6_giveArc_46 33 (fun y0 y1 y2 y3 y4 => ih (y0, y1, y2, y3, y4)) (fun y0 y1 y2 y3 y4 y5 => ih2 (y0, y1, y2, y3, y4, y5)) s.1 s.2.1 s.2.2.1 s.2.2.2.1 s.2.2.2.2.1 s.2.2.2.2.2) (I := fun k st M' => WT g D M' ∧ ∃ y : Int32, st = (p, some pl, some e, some f, x, y) ∧ 0 ≤ y.toInt ∧ y.toInt + k = 5) ?_ z_N 5 _ M0 (by decide) ⟨W0, 0, rfl, by decide, by decide⟩
    intro k st M2 ih2 hI2 hih2
    obtain ⟨W2, y, rfl, hy, hk⟩ := hI2
    unfold B_X6_giveArc_46 F_X6_giveArc_94
    dsimp only
    obtain ⟨ps, hP, hl, hp⟩ := W2.places hpl
    refine ht_bd (ht_len hP ?_)
    rw [List.length_map]
    have el := n_ti (n := ps.length) (by omega)
    refine ht_if (fun _ => hih (n - 1) _ _ (by omega) ⟨W2, x + 1, rfl, by omega, by omega⟩) (fun h4 => ?_)
    have h4 : y.toInt < (Int32.ofNat ps.length).toInt := i_nle.mp h4
    have e2 := i_s (a := y) (by omega)
    refine ht_if (fun _ => hih2 (k - 1) _ _ (by omega) ⟨W2, y + 1, rfl, by omega, by omega⟩) (fun _ => ?_)
    obtain ⟨m2, hE, -⟩ := W2.tab he
    refine ht_bd (ht_ga hE (x := some (e + 2)) rfl ?_)
    obtain ⟨c, hc, hk2⟩ := W2.ar (tT2 he) (okT2 he)
    refine ht_bd (ri_li hc hk2 hx (by omega) fun v _ => ?_)
    refine ht_bd (rp_la (by decide) hP hy (by omega) fun b hb => ?_)
    obtain ⟨n1, o, l, s, hB, -⟩ := W2.place (hp b hb)
    refine ht_bd (ht_gi hB rfl ?_)
    refine ht_bd (k_ofOne W2 fun u => ?_)
    refine ht_bd (ht_ga hE (x := some (e + 3)) rfl ?_)
    obtain ⟨c3, hc3, hk3⟩ := W2.ar (tT3 he) (okT3 he)
    refine ht_bd (ri_li hc3 hk3 hx (by omega) fun w _ => ?_)
    obtain ⟨m3, hF, -⟩ := W2.tab hf
    refine ht_bd (ht_rc hF ?_)
    refine ht_bd (k_addTo W2 hf fun M3 W3 => ?_)
    exact hih2 (k - 1) _ _ (by omega) ⟨W3, y + 1, rfl, by omega, by omega⟩
  refine ht_if (fun _ => go M W) (fun _ => ?_)
  refine ht_bd (ht_ga hM (x := some (e + 2)) rfl ?_)
  obtain ⟨c, hc, hk2⟩ := W.ar (tT2 he) (okT2 he)
  refine ht_bd (ri_li hc hk2 hx (by omega) fun v _ => ?_)
  refine ht_bd (ht_ga hM (x := some (e + 3)) rfl ?_)
  obtain ⟨c3, hc3, hk3⟩ := W.ar (tT3 he) (okT3 he)
  refine ht_bd (ri_li hc3 hk3 hx (by omega) fun w _ => ?_)
  obtain ⟨m3, hF, -⟩ := W.tab hf
  refine ht_bd (ht_rc hF ?_)
  exact ht_bd (k_addTo W hf fun M3 W3 => go M3 W3)
theorem k_sum (W : WT g D M) {bg e : Nat} (hb : (gB ++ D)[bg]? = some 102) (he : isT e) {Q : Int32 → zM → Prop} (q : ∀ x, Q x M) : z_T (F_X6_sumAllowed (some bg) (some e)) M Q := by
  obtain ⟨vs, hB, hl⟩ := W.bags hb
  obtain ⟨m, hE, -⟩ := W.tab he
  unfold F_X6_sumAllowed F_X6_sumAllowed_4
  refine ht_fix (body := fun ih s => B_X6_sumAllowed_4 (fun y0 y1 y2 y3 => ih (y0, y1, y2, y3)) s.1 s.2.1 s.2.2.1 s.2.2.2) (I := fun n st M' => M' = M ∧ ∃ z x : Int32, st = (some bg, some e, z, x) ∧ 0 ≤ x.toInt ∧ x.toInt + n = 525) ?_ z_N 525 _ M (by decide) ⟨rfl, 0, 0, rfl, by decide, by decide⟩
  intro n st M' ih hI hih
  obtain ⟨rfl, z, x, rfl, hx, hn⟩ := hI
  unfold B_X6_sumAllowed_4 F_X6_sumAllowed_39
  dsimp only
  refine ht_bd (ht_len hB ?_)
  rw [List.length_map]
  have el := n_ti (n := vs.length) (by omega)
  refine ht_if (fun _ => ht_ret (q _)) (fun h => ?_)
  have h : x.toInt < (Int32.ofNat vs.length).toInt := i_nle.mp h
  have e1 := i_s (a := x) (by omega)
  refine ht_bd (rb_li hB hx (by omega) fun v => ?_)
  refine ht_bd (ht_rc hE ?_)
  refine ht_bd (k_spotOf W he fun y hy => ?_)
  have hy2 := hy.2
  refine ht_if (fun _ => hih (n - 1) _ _ (by omega) ⟨rfl, z, x + 1, rfl, by omega, by omega⟩) (fun h5 => ?_)
  have h5 : (0 : Int32).toInt ≤ y.toInt := i_nlt.mp h5
  have := i0
  refine ht_bd (ht_ga hE (x := some (e + 3)) rfl ?_)
  obtain ⟨c3, hc3, hk3⟩ := W.ar (tT3 he) (okT3 he)
  refine ht_bd (ri_li hc3 hk3 (by omega) (by omega) fun w _ => ?_)
  refine ht_bd (ht_ret ?_)
  exact hih (n - 1) _ _ (by omega) ⟨rfl, _, x + 1, rfl, by omega, by omega⟩
theorem k_ways (W : WT g D M) (hG : GOK g) {s : Nat} (hs : (gB ++ D)[s]? = some 17) {p : Int32} (h0 : 0 ≤ p.toInt) (h1 : p.toInt < 16) {Q : Int32 → zM → Prop} (q : ∀ x M', WT g D M' → Q x M') : z_T (F_X6_countWays 33 p (some s) (some 41)) M Q := by
  unfold F_X6_countWays
  obtain ⟨k, x, y, e, u, w, z, hS, -, -, -, he⟩ := W.shape hs
  refine ht_bd (ht_ga hS (x := e) rfl ?_)
  refine ht_if (fun _ => ht_ret (q _ _ W)) (fun hne => ?_)
  obtain ⟨e, rfl⟩ := Option.ne_none_iff_exists'.mp hne
  have he := he e rfl
  obtain ⟨n, hM, hn⟩ := W.mat
  refine ht_bd (ht_rc hM ?_)
  refine ht_bd (k_gather W hG hs h0 h1 fun M1 W1 => ?_)
  obtain ⟨n1, hM1, hn1⟩ := W1.mat
  refine ht_bd (ht_ga hM1 (x := some 3) rfl ?_)
  refine ht_bd (ht_ga hM1 (x := some 34) rfl ?_)
  obtain ⟨m3, h3, -⟩ := W1.tab (e := 3) (Or.inl rfl)
  refine ht_bd (ht_rc h3 ?_)
  refine ht_bd (k_clear W1 (Or.inl rfl) fun M2 W2 => ?_)
  obtain ⟨m4, h4, -⟩ := W2.tab (e := 3) (Or.inl rfl)
  refine ht_bd (ht_rc h4 ?_)
  refine ht_bd (k_addTo W2 (Or.inl rfl) fun M3 W3 => ?_)
  unfold F_X6_countWays_47
  refine ht_fix (body := fun ih s => B_X6_countWays_47 33 (fun y0 y1 y2 y3 => ih (y0, y1, y2, y3)) s.1 s.2.1 s.2.2.1 s.2.2.2) (I := fun n st M' => WT g D M' ∧ ∃ (a b : Nat) (x : Int32), st = (some e, some a, some b, x) ∧ isT a ∧ isT b ∧ 0 ≤ x.toInt ∧ x.toInt + n = 8) ?_ z_N 8 _ M3 (by decide) ⟨W3, 3, 34, 0, rfl, Or.inl rfl, Or.inr rfl, by decide, by decide⟩
  intro n st M ih hI hih
  obtain ⟨W, a, b, x, rfl, ha, hb, hx, hn⟩ := hI
  unfold B_X6_countWays_47 F_X6_countWays_102
  dsimp only
  obtain ⟨m, hM, hm⟩ := W.mat
  obtain ⟨w2, pl, bg, o1, i1, r1, hE, -, hpl, hbg⟩ := W.expr he
  obtain ⟨ma, hA, -⟩ := W.tab ha
  have fin : z_T (z_bd (z_ga (some e) 3 2) fun r16 => z_bd (F_X6_sumAllowed r16 (some a)) fun x17 => z_ret x17) M Q := by
    refine ht_bd (ht_ga hE (x := some bg) rfl ?_)
    refine ht_bd (k_sum W hbg ha fun v => ?_)
    exact ht_ret (q _ _ W)
  refine ht_bd (ht_gi hM rfl ?_)
  refine ht_if (fun _ => fin) (fun h => ?_)
  have h : x.toInt < m.toInt := i_nle.mp h
  have hm2 := hm.2
  have e1 := i_s (a := x) (by omega)
  refine ht_bd (ht_gi hA rfl ?_)
  refine ht_if (fun _ => fin) (fun _ => ?_)
  refine ht_bd (ht_ga hM (x := some 38) rfl ?_)
  obtain ⟨c, hc, hk⟩ := W.ar (a := 38) (t := 38) rfl rfl
  refine ht_bd (ri_li hc hk hx (by omega) fun v _ => ?_)
  refine ht_bd (ht_ga hE (x := some pl) rfl ?_)
  refine ht_bd (ht_rc hM ?_)
  refine ht_bd (k_giveArc W hpl ha hb fun M2 W2 => ?_)
  exact hih (n - 1) _ _ (by omega) ⟨W2, b, a, x + 1, rfl, hb, ha, by omega, by omega⟩
theorem k_matching (W : WT g D M) (hG : GOK g) {s : Nat} (hs : (gB ++ D)[s]? = some 17) {p : Int32} {Q : Int32 → zM → Prop} (q : ∀ x M', WT g D M' → Q x M') : z_T (F_X6_matching 33 p (some s) (some 41)) M Q := by
  unfold F_X6_matching F_X6_matching_6
  refine ht_fix (body := fun ih s => B_X6_matching_6 33 (fun y0 y1 y2 y3 y4 => ih (y0, y1, y2, y3, y4)) s.1 s.2.1 s.2.2.1 s.2.2.2.1 s.2.2.2.2) (I := fun n st M' => WT g D M' ∧ ∃ z x : Int32, st = (p, some s, some 41, z, x) ∧ 0 ≤ x.toInt ∧ x.toInt + n = 16) ?_ z_N 16 _ M (by decide) ⟨W, 0, 0, rfl, by decide, by decide⟩
  intro n st M ih hI hih
  obtain ⟨W, z, x, rfl, hx, hn⟩ := hI
  unfold B_X6_matching_6 F_X6_matching_44
  dsimp only
  refine ht_if (fun _ => ht_ret (q _ _ W)) (fun h => ?_)
  have h : x.toInt < (16 : Int32).toInt := i_nle.mp h
  have := i16
  have e1 := i_s (a := x) (by omega)
  refine ht_bd (ht_ret ?_)
  refine ht_if (fun _ => hih (n - 1) _ _ (by omega) ⟨W, _, x + 1, rfl, by omega, by omega⟩) (fun _ => ?_)
  obtain ⟨m, hM, hm⟩ := W.mat
  refine ht_bd (ht_rc hM ?_)
  refine ht_bd (k_ways W hG hs hx (by omega) fun y M1 W1 => ?_)
  refine ht_if (fun _ => hih (n - 1) _ _ (by omega) ⟨W1, _, x + 1, rfl, by omega, by omega⟩) (fun _ => ?_)
  refine ht_bd (ht_ret ?_)
  exact hih (n - 1) _ _ (by omega) ⟨W1, _, x + 1, rfl, by omega, by omega⟩
/-! the solver -/
theorem WT.c16 (W : WT g D M) : M[16]? = some (.inl (16, ((List.range 16).map fun i => 17 + i).map .ref)) := by
  obtain ⟨c, hc, hk⟩ := W.get (a := 16) (t := 16) rfl
  rw [hc]; exact congrArg some hk
theorem g17 {b : Nat} (h : b ∈ (List.range 16).map fun i => 17 + i) : (gB ++ D)[b]? = some 17 := by
  have h' : ∀ b ∈ (List.range 16).map (fun i => 17 + i), b < 42 ∧ gB[b]? = some 17 := by decide +kernel
  obtain ⟨h1, h2⟩ := h' b h
  rw [List.getElem?_append_left (by have : gB.length = 69 := by decide +kernel
                                    omega)]
  exact h2
theorem k_sh (W : WT g D M) {x : Int32} (hx : 0 ≤ x.toInt) (h : x.toInt < 16) {Q : Option Nat → zM → Prop} (q : ∀ b, (gB ++ D)[b]? = some 17 → Q (some b) M) : z_T (z_la (some 16) x) M Q := rp_la (by decide) W.c16 hx (by rw [List.length_map, List.length_range]; exact h) fun b hb => q b (g17 hb)
theorem k_leads (W : WT g D M) {s t : Int32} (h0 : 0 ≤ s.toInt) (h1 : s.toInt < 16) {Q : Int32 → zM → Prop} (q : ∀ x, Q x M) : z_T (F_X9_leads 39 s t) M Q := by
  unfold F_X9_leads F_X9_leads_18
  rw [z_rb0, z_rb1]
  obtain ⟨l, r, h, hM, -⟩ := W.sol
  refine ht_bd (ht_ga hM (x := some 40) rfl ?_)
  obtain ⟨c, hc, hk⟩ := W.ar (a := 40) (t := 40) rfl rfl
  refine ht_bd (ri_li hc hk h0 h1 fun v _ => ?_)
  exact ht_if (fun _ => ht_ret (q _)) (fun _ => ht_ret (q _))
theorem k_findReach (W : WT g D M) {Q : Unit → zM → Prop} (q : ∀ M', WT g D M' → Q () M') : z_T (F_X9_findReach 39) M Q := by
  unfold F_X9_findReach F_X9_findReach_2
  have := i16
  refine ht_fix (body := fun ih s => B_X9_findReach_2 39 (fun y0 => ih y0) s) (I := fun n x M' => WT g D M' ∧ 0 ≤ x.toInt ∧ x.toInt + n = 16) ?_ z_N 16 _ M (by decide) ⟨W, by decide, by decide⟩
  intro n x M ih hI hih
  obtain ⟨W, hx, hn⟩ := hI
  unfold B_X9_findReach_2
  refine ht_if (fun _ => ?_) (fun h => ?_)
  · unfold F_X9_findReach_31
    refine ht_fix (body := fun ih s => B_X9_findReach_31 39 (fun y0 => ih y0) s) (I := fun n x M' => WT g D M' ∧ 0 ≤ x.toInt ∧ x.toInt + n = 16) ?_ z_N 16 _ M (by decide) ⟨W, by decide, by decide⟩
    intro n x M ih hI hih
    obtain ⟨W, hx, hn⟩ := hI
    unfold B_X9_findReach_31
    refine ht_if (fun _ => ht_ret (q _ W)) (fun h => ?_)
    have h : x.toInt < (16 : Int32).toInt := i_nle.mp h
    unfold F_X9_findReach_39
    refine ht_fix (body := fun ih2 s => B_X9_findReach_39 39 (fun y0 => ih y0) (fun y0 y1 => ih2 (y0, y1)) s.1 s.2) (I := fun k st M' => WT g D M' ∧ ∃ y : Int32, st = (x, y) ∧ 0 ≤ y.toInt ∧ y.toInt + k = 16) ?_ z_N 16 _ M (by decide) ⟨W, 0, rfl, by decide, by decide⟩
    intro k st M ih2 hI2 hih2
    obtain ⟨W, y, rfl, hy, hk⟩ := hI2
    unfold B_X9_findReach_39 F_X9_findReach_69
    dsimp only
    have e1 := i_s (a := x) (by omega)
    refine ht_if (fun _ => hih (n - 1) _ _ (by omega) ⟨W, by omega, by omega⟩) (fun h2 => ?_)
    have h2 : y.toInt < (16 : Int32).toInt := i_nle.mp h2
    have e2 := i_s (a := y) (by omega)
    obtain ⟨l, r, hh, hM, -⟩ := W.sol
    refine ht_bd (ht_rc hM ?_)
    refine ht_bd (k_leads W hy (by omega) fun v => ?_)
    refine ht_if (fun _ => hih2 (k - 1) _ _ (by omega) ⟨W, y + 1, rfl, by omega, by omega⟩) (fun _ => ?_)
    obtain ⟨c, hc, hkk⟩ := W.ar (a := 40) (t := 40) rfl rfl
    refine ht_bd (ht_ga hM (x := some 40) rfl ?_)
    refine ht_bd (ri_li hc hkk hy (by omega) fun v1 _ => ?_)
    refine ht_bd (ht_ga hM (x := some 40) rfl ?_)
    refine ht_bd (ri_li hc hkk hx (by omega) fun v2 _ => ?_)
    refine ht_bd (ri_si W (a := 40) (t := 40) rfl rfl (by decide) hy (by omega) trivial fun M1 W1 _ => ?_)
    exact hih2 (k - 1) _ _ (by omega) ⟨W1, y + 1, rfl, by omega, by omega⟩
  · have h : x.toInt < (16 : Int32).toInt := i_nle.mp h
    have e1 := i_s (a := x) (by omega)
    obtain ⟨l, r, hh, hM, -⟩ := W.sol
    refine ht_bd (ht_ga hM (x := some 40) rfl ?_)
    refine ht_bd (ht_ga hM (x := some 16) rfl ?_)
    refine ht_bd (k_sh W hx (by omega) fun b hb => ?_)
    obtain ⟨k, x1, y1, e', u1, w1, z1, hS, -⟩ := W.shape hb
    refine ht_bd (ht_gi hS rfl ?_)
    refine ht_bd (ri_si W (a := 40) (t := 40) rfl rfl (by decide) hx (by omega) trivial fun M1 W1 _ => ?_)
    exact hih (n - 1) _ _ (by omega) ⟨W1, by omega, by omega⟩
theorem k_flw (W : WT g D M) {Q : Int32 → zM → Prop} (q : ∀ x, Q x M) : z_T (F_X9_findLeastWrong 39) M Q := by
  unfold F_X9_findLeastWrong F_X9_findLeastWrong_2
  have := i16
  refine ht_fix (body := fun ih s => B_X9_findLeastWrong_2 39 (fun y0 => ih y0) s) (I := fun n x M' => M' = M ∧ 0 ≤ x.toInt ∧ x.toInt + n = 16) ?_ z_N 16 _ M (by decide) ⟨rfl, by decide, by decide⟩
  intro n x M' ih hI hih
  obtain ⟨rfl, hx, hn⟩ := hI
  unfold B_X9_findLeastWrong_2
  refine ht_if (fun _ => ht_ret (q _)) (fun h => ?_)
  have h : x.toInt < (16 : Int32).toInt := i_nle.mp h
  have e1 := i_s (a := x) (by omega)
  unfold F_X9_findLeastWrong_10
  refine ht_fix (body := fun ih2 s => B_X9_findLeastWrong_10 39 (fun y0 => ih y0) (fun y0 y1 => ih2 (y0, y1)) s.1 s.2) (I := fun k st M2 => M2 = M' ∧ ∃ y : Int32, st = (x, y) ∧ 0 ≤ y.toInt ∧ y.toInt + k = 16) ?_ z_N 16 _ M' (by decide) ⟨rfl, 0, rfl, by decide, by decide⟩
  intro k st M2 ih2 hI2 hih2
  obtain ⟨rfl, y, rfl, hy, hk⟩ := hI2
  unfold B_X9_findLeastWrong_10 F_X9_findLeastWrong_49
  dsimp only
  refine ht_if (fun _ => hih (n - 1) _ _ (by omega) ⟨rfl, by omega, by omega⟩) (fun h2 => ?_)
  have h2 : y.toInt < (16 : Int32).toInt := i_nle.mp h2
  have e2 := i_s (a := y) (by omega)
  have nx : z_T (ih2 (x, y + 1)) M2 Q := hih2 (k - 1) _ _ (by omega) ⟨rfl, y + 1, rfl, by omega, by omega⟩
  obtain ⟨l, r, hh, hM, -⟩ := W.sol
  refine ht_bd (ht_ga hM (x := some 16) rfl ?_)
  refine ht_bd (k_sh W hy (by omega) fun b hb => ?_)
  obtain ⟨k1, x1, y1, e', u1, w1, z1, hS, -⟩ := W.shape hb
  refine ht_bd (ht_gi hS rfl ?_)
  refine ht_if (fun _ => ?_) (fun _ => nx)
  refine ht_bd (ht_rc hM ?_)
  refine ht_bd (k_leads W hx (by omega) fun v => ?_)
  refine ht_if (fun _ => nx) (fun _ => ?_)
  refine ht_bd (ht_rc hM ?_)
  refine ht_bd (k_leads W hy (by omega) fun v => ?_)
  exact ht_if (fun _ => nx) (fun _ => ht_ret (q _))
theorem k_leastWrong (W : WT g D M) {Q : Int32 → zM → Prop} (q : ∀ x M', WT g D M' → Q x M') : z_T (F_X9_leastWrong 39) M Q := by
  unfold F_X9_leastWrong F_X9_leastWrong_24
  have fin : ∀ M', WT g D M' → z_T (z_bd (z_gi (some 39) 9 4) fun x6 => z_ret x6) M' Q := by
    intro M' W'
    obtain ⟨l, r, hh, hM, -⟩ := W'.sol
    refine ht_bd (ht_gi hM rfl ?_)
    exact ht_ret (q _ _ W')
  obtain ⟨l, r, hh, hM, hr, hh1⟩ := W.sol
  refine ht_bd (ht_gi hM rfl ?_)
  refine ht_if (fun _ => fin M W) (fun _ => ?_)
  refine ht_bd (ht_pf (by decide) hM (by simp) ?_)
  have W1 := W.set (a := 39) (t := 39) (c' := .inr (9, [.ref 16, .ref 33, .ref 40, .ref 41, .int l, .int 0, .int hh])) rfl ⟨l, 0, hh, rfl, ⟨by decide, by decide⟩, hh1⟩
  show z_T _ (M.set 39 (.inr (9, [.ref 16, .ref 33, .ref 40, .ref 41, .int l, .int 0, .int hh]))) Q
  generalize M.set 39 _ = M1 at W1
  obtain ⟨l1, r1, hh1, hM1, -⟩ := W1.sol
  refine ht_bd (ht_rc hM1 ?_)
  refine ht_bd (k_findReach W1 fun M2 W2 => ?_)
  obtain ⟨l2, r2, h2, hM2, hr2, hh2⟩ := W2.sol
  refine ht_bd (ht_rc hM2 ?_)
  refine ht_bd (k_flw W2 fun x => ?_)
  refine ht_bd (ht_pf (by decide) hM2 (by simp) ?_)
  exact fin _ (W2.set (a := 39) (t := 39) rfl ⟨x, r2, h2, rfl, hr2, hh2⟩)
theorem k_combined (W : WT g D M) {s : Nat} (hs : (gB ++ D)[s]? = some 17) {Q : Int32 → zM → Prop} (q : ∀ x, Q x M) : z_T (F_X9_combined 39 (some s)) M Q := by
  unfold F_X9_combined
  obtain ⟨k, x, y, e', u1, w1, z1, hS, -, hkx, hky, -⟩ := W.shape hs
  obtain ⟨l, r, hh, hM, -⟩ := W.sol
  obtain ⟨c, hc, hkk⟩ := W.ar (a := 41) (t := 41) rfl rfl
  refine ht_bd (ht_gi hS rfl ?_)
  refine ht_if (fun h => ?_) (fun _ => ?_)
  · have h1 := hkx (Or.inl h)
    have h2 := hky (Or.inl h)
    refine ht_bd (ht_ga hM (x := some 41) rfl ?_)
    refine ht_bd (ht_gi hS rfl ?_)
    refine ht_bd (ri_li hc hkk h1.1 (by have := h1.2; omega) fun v1 _ => ?_)
    refine ht_bd (ht_ga hM (x := some 41) rfl ?_)
    refine ht_bd (ht_gi hS rfl ?_)
    refine ht_bd (ri_li hc hkk h2.1 (by have := h2.2; omega) fun v2 _ => ?_)
    exact ht_ret (q _)
  refine ht_if (fun h => ?_) (fun _ => ?_)
  · have h1 := hkx (Or.inr (Or.inl h))
    have h2 := hky (Or.inr h)
    refine ht_bd (ht_ga hM (x := some 41) rfl ?_)
    refine ht_bd (ht_gi hS rfl ?_)
    refine ht_bd (ri_li hc hkk h1.1 (by have := h1.2; omega) fun v1 _ => ?_)
    refine ht_bd (ht_ga hM (x := some 41) rfl ?_)
    refine ht_bd (ht_gi hS rfl ?_)
    refine ht_bd (ri_li hc hkk h2.1 (by have := h2.2; omega) fun v2 _ => ?_)
    exact ht_ret (q _)
  refine ht_if (fun h => ?_) (fun _ => ?_)
  · have h1 := hkx (Or.inr (Or.inr h))
    refine ht_bd (ht_ga hM (x := some 41) rfl ?_)
    refine ht_bd (ht_gi hS rfl ?_)
    refine ht_bd (ri_li hc hkk h1.1 (by have := h1.2; omega) fun v1 _ => ?_)
    exact ht_ret (q _)
  refine ht_if (fun h => ?_) (fun _ => ht_ret (q _))
  refine ht_bd (ht_gi hS rfl ?_)
  exact ht_ret (q _)
theorem k_those (W : WT g D M) {p : Int32} {Q : Int32 → zM → Prop} (q : ∀ x, Q x M) : z_T (F_X9_thoseThatReferTo 39 p) M Q := by
  unfold F_X9_thoseThatReferTo F_X9_thoseThatReferTo_4
  have := i16
  refine ht_fix (body := fun ih s => B_X9_thoseThatReferTo_4 39 (fun y0 y1 y2 => ih (y0, y1, y2)) s.1 s.2.1 s.2.2) (I := fun n st M' => M' = M ∧ ∃ z x : Int32, st = (p, z, x) ∧ 0 ≤ x.toInt ∧ x.toInt + n = 16) ?_ z_N 16 _ M (by decide) ⟨rfl, 0, 0, rfl, by decide, by decide⟩
  intro n st M' ih hI hih
  obtain ⟨rfl, z, x, rfl, hx, hn⟩ := hI
  unfold B_X9_thoseThatReferTo_4 F_X9_thoseThatReferTo_34
  dsimp only
  refine ht_if (fun _ => ht_ret (q _)) (fun h => ?_)
  have h : x.toInt < (16 : Int32).toInt := i_nle.mp h
  have e1 := i_s (a := x) (by omega)
  obtain ⟨l, r, hh, hM, -⟩ := W.sol
  refine ht_bd (ht_ga hM (x := some 16) rfl ?_)
  refine ht_bd (k_sh W hx (by omega) fun b hb => ?_)
  obtain ⟨k1, x1, y1, e', u1, w1, z1, hS, -⟩ := W.shape hb
  refine ht_bd (ht_gi hS rfl ?_)
  refine ht_if (fun _ => ?_) (fun _ => ?_)
  · refine ht_bd (ht_ret ?_)
    exact hih (n - 1) _ _ (by omega) ⟨rfl, _, x + 1, rfl, by omega, by omega⟩
  · refine ht_bd (ht_ret ?_)
    exact hih (n - 1) _ _ (by omega) ⟨rfl, _, x + 1, rfl, by omega, by omega⟩
end SO
