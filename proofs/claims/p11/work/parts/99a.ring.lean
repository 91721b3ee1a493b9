/-! THE REFERENCE's RINGS -/
def cN (rs : List Nat) : zC := .inl (0, (rs.map Int32.ofNat).map .int)
def NB (rs : List Nat) : Prop := rs.length = 16 ∧ ∀ a ∈ rs, a < 65536
theorem cN_of {c : zC} (hk : pI 16 (rg 0 65535) c) : ∃ rs, NB rs ∧ c = cN rs := by
  obtain ⟨vs, rfl, hl, hv⟩ := hk
  have e : (vs.map (fun v => v.toInt.toNat)).map Int32.ofNat = vs := by
    rw [List.map_map]
    conv => rhs; rw [← List.map_id vs]
    exact List.map_congr_left (fun v hm => (i_of (hv v hm).1).symm)
  refine ⟨vs.map (fun v => v.toInt.toNat), ⟨by simpa using hl, fun a ha => ?_⟩, ?_⟩
  · obtain ⟨v, hm, rfl⟩ := List.mem_map.mp ha
    have h1 := (hv v hm).1
    have h2 := (hv v hm).2
    omega
  · unfold cN
    rw [e]
theorem cN_ok {rs : List Nat} (H : NB rs) : pI 16 (rg 0 65535) (cN rs) := by
  refine ⟨rs.map Int32.ofNat, rfl, by simpa using H.1, fun v hv => ?_⟩
  obtain ⟨a, ha, rfl⟩ := List.mem_map.mp hv
  have h1 := H.2 a ha
  unfold rg
  rw [n_ti (by omega)]
  omega
theorem NB.get {rs : List Nat} (H : NB rs) {s : Nat} (hs : s < 16) : rs[s]? = some (rs.getD s 0) ∧ rs.getD s 0 < 65536 := by
  have hl : s < rs.length := by rw [H.1]; exact hs
  have e : rs[s]? = some rs[s] := List.getElem?_eq_getElem hl
  have g : rs.getD s 0 = rs[s] := by rw [List.getD_eq_getElem?_getD, e]; rfl
  rw [g]
  exact ⟨e, H.2 _ (List.getElem_mem hl)⟩
theorem NB.set {rs : List Nat} (H : NB rs) {s v : Nat} (hv : v < 65536) : NB (rs.set s v) := by
  refine ⟨by simpa using H.1, fun a ha => ?_⟩
  rcases List.mem_or_eq_of_mem_set ha with e | e
  · exact H.2 a e
  · rw [e]; exact hv
theorem gd_set {rs : List Nat} {s t v : Nat} (hs : s < rs.length) : (rs.set s v).getD t 0 = if s = t then v else rs.getD t 0 := by
  rw [List.getD_eq_getElem?_getD, List.getD_eq_getElem?_getD]
  by_cases e : s = t
  · subst e
    rw [if_pos rfl, List.getElem?_set_self hs]
    rfl
  · rw [if_neg e, List.getElem?_set_ne e]
theorem set_gd {rs : List Nat} {s : Nat} (hs : s < rs.length) : rs.set s (rs.getD s 0) = rs := by
  have g : rs.getD s 0 = rs[s] := by rw [List.getD_eq_getElem?_getD, List.getElem?_eq_getElem hs]; rfl
  rw [g, List.set_getElem_self]
theorem sum_set : ∀ {rs : List Nat} {s v : Nat}, s < rs.length → (rs.set s v).sum + rs.getD s 0 = rs.sum + v
  | [], s, v, h => by simp at h
  | a :: rs, 0, v, h => by simp; omega
  | a :: rs, s + 1, v, h => by
    have := sum_set (rs := rs) (s := s) (v := v) (by simpa using h)
    simp only [List.set_cons_succ, List.sum_cons, List.getD_cons_succ]
    omega
theorem sum_le : ∀ {rs : List Nat}, (∀ a ∈ rs, a < 65536) → rs.sum ≤ 65535 * rs.length
  | [], _ => by simp
  | a :: rs, h => by
    have h1 := h a (List.mem_cons_self ..)
    have h2 := sum_le (rs := rs) (fun b hb => h b (List.mem_cons_of_mem _ hb))
    simp only [List.sum_cons, List.length_cons]
    omega
theorem NB.sum {rs : List Nat} (H : NB rs) : rs.sum ≤ 1048560 := by
  have := sum_le H.2
  rw [H.1] at this
  omega
section RN
variable {h : Nat → zC} {nE kn wr pc th : Int32} {M : zM} {ks as bs cs ss xs ys zs : List Int32} {n c : Nat} {p q r : List Value} {rs : List Nat}
theorem rdN {a : Nat} (hc : M[a]? = some (cN rs)) (H : NB rs) {s : Nat} (hs : s < 16) {Q : Int32 → zM → Prop} (t : Q (Int32.ofNat (rs.getD s 0)) M) : z_T (z_li (some a) (Int32.ofNat s)) M Q := by
  refine va_li hc rfl (by omega) ?_ t
  rw [List.getElem?_map, (H.get hs).1]
  rfl
theorem wrN {a : Nat} (ha : 2 ≤ a) (hc : M[a]? = some (cN rs)) (H : NB rs) {s v : Nat} (hs : s < 16) {Q : Unit → zM → Prop} (t : Q () (M.set a (cN (rs.set s v)))) : z_T (z_si (some a) (Int32.ofNat s) (Int32.ofNat v)) M Q := by
  refine va_si ha hc rfl (by omega) (by rw [List.length_map, H.1]; exact hs) ?_
  unfold cN at t
  rw [List.map_set] at t
  exact t
theorem ok67 (H : NB rs) : okr h 67 (cN rs) := cN_ok H
theorem ok52 (H : NB rs) : okr h 52 (cN rs) := cN_ok H
theorem t_ct {nA : Int32} (R : RT h (rob nA nE kn wr pc th) M) (H : NB rs) (h67 : M[67]? = some (cN rs)) {s t : Nat} (hs : s < 16) (ht : t < 16) {Q : Int32 → zM → Prop} (q1 : (rs.getD s 0).testBit t = true → Q 1 M) (q0 : (rs.getD s 0).testBit t = false → Q 0 M) : z_T (F_X11_comesTo 42 (Int32.ofNat s) (Int32.ofNat t)) M Q := by
  unfold F_X11_comesTo F_X11_comesTo_19
  rw [z_rb0, z_rb1]
  refine ht_bd (ht_ga R.1 (x := some 67) rfl ?_)
  refine ht_bd (rdN h67 H hs ?_)
  refine ht_if (fun e => ht_ret (q1 ((w_b1 (H.get hs).2 ht).mp e))) (fun e => ht_ret (q0 ?_))
  cases hb : (rs.getD s 0).testBit t with
  | false => rfl
  | true => exact absurd ((w_b1 (H.get hs).2 ht).mpr hb) e
def CL1 (rs : List Nat) (s : Nat) : Prop := ∀ t, t < 16 → (rs.getD s 0).testBit t = true → ∀ i, (rs.getD t 0).testBit i = true → (rs.getD s 0).testBit i = true
def CLO (rs : List Nat) : Prop := ∀ s, s < 16 → CL1 rs s
theorem t_r131 {nA : Int32} (R : RT h (rob nA nE kn wr pc th) M) (H : HD h ks as bs cs ss xs ys zs n p q r) (hN : NB rs) (h67 : M[67]? = some (cN rs)) {Q : Unit → zM → Prop} (t : ∀ (M' : zM) (wr' : Int32), RT h (rob nA nE kn wr' pc th) M' → M'[67]? = some (cN rs) → Q () M') : z_T (F_X11_findRings_131 42 z_N 15) M Q := by
  have z0 := i0
  have i15 : (15 : Int32).toInt = 15 := rfl
  unfold F_X11_findRings_131
  refine ht_fix (body := fun ih s => B_X11_findRings_131 42 (fun y0 => ih y0) s) (I := fun j st M' => st.toInt = (j : Int) - 1 ∧ j ≤ 16 ∧ ∃ wr' : Int32, RT h (rob nA nE kn wr' pc th) M' ∧ M'[67]? = some (cN rs)) ?_ z_N 16 _ M (by decide) ⟨by rw [i15]; rfl, by omega, wr, R, h67⟩
  intro j x M1 ih hI hih
  obtain ⟨hx, hj, wr1, R1, k1⟩ := hI
  unfold B_X11_findRings_131
  refine ht_if (fun _ => ht_ret (t _ _ R1 k1)) (fun hlt => ?_)
  have hge : (0 : Int32).toInt ≤ x.toInt := i_nlt.mp hlt
  obtain ⟨i, rfl⟩ : ∃ i, j = i + 1 := ⟨j - 1, by omega⟩
  have ex : x = Int32.ofNat i := Int32.toInt_inj.mp (by rw [n_ti (by omega)]; omega)
  subst ex
  have hi : i < 16 := by omega
  have hi31 : i < 2147483648 := by omega
  have back : ∀ (M2 : zM) (wr2 : Int32), RT h (rob nA nE kn wr2 pc th) M2 → M2[67]? = some (cN rs) → z_T (ih (Int32.ofNat i + (-1))) M2 Q := fun M2 wr2 R2 k2 => hih i _ _ (by omega) ⟨n_m1 hi31, by omega, wr2, R2, k2⟩
  unfold F_X11_findRings_137
  refine ht_fix (body := fun ih2 s => B_X11_findRings_137 42 (fun y0 => ih y0) (fun y0 y1 => ih2 (y0, y1)) s.1 s.2) (I := fun l st M' => ∃ t : Nat, st = (Int32.ofNat i, Int32.ofNat t) ∧ t + l = 16 ∧ ∃ wr' : Int32, RT h (rob nA nE kn wr' pc th) M' ∧ M'[67]? = some (cN rs)) ?_ z_N 16 _ M1 (by decide) ⟨0, rfl, by omega, wr1, R1, k1⟩
  intro l st M2 ih2 hI2 hih2
  obtain ⟨u, rfl, hu, wr2, R2, k2⟩ := hI2
  unfold B_X11_findRings_137 F_X11_findRings_176
  dsimp only
  refine ht_if (fun _ => back M2 wr2 R2 k2) (fun hle => ?_)
  have hu16 : u < 16 := Nat.lt_of_not_le fun g => hle ((n_le (a := 16) (by decide) (by omega)).mpr g)
  have nx : ∀ (M3 : zM) (wr3 : Int32), RT h (rob nA nE kn wr3 pc th) M3 → M3[67]? = some (cN rs) → z_T (ih2 (Int32.ofNat i, Int32.ofNat u + 1)) M3 Q := fun M3 wr3 R3 k3 => by
    rw [n_s]
    exact hih2 (l - 1) _ _ (by omega) ⟨u + 1, rfl, by omega, wr3, R3, k3⟩
  have e48 := R2.ex (i := 48) (by decide) (by decide) rfl
  rw [H.2.2.2.2.1.1] at e48
  have hsl := H.2.2.2.2.2.1
  refine ht_bd (ht_ga R2.1 (x := some 48) rfl ?_)
  refine ht_bd (va_li e48 rfl (by omega) (List.getElem?_eq_getElem (show u < ss.length by omega)) ?_)
  refine ht_if (fun _ => ?_) (fun _ => nx M2 wr2 R2 k2)
  refine ht_bd (ht_rc R2.1 ?_)
  have two : z_T (z_bd (z_rc (some 42) 11) fun b30 => z_bd (F_X11_comesTo b30 (Int32.ofNat u) (Int32.ofNat i)) fun x29 => if x29 = 0 then (ih2 (Int32.ofNat i, Int32.ofNat u + 1)) else (z_bd (z_pf (some 42) 11 13 (.int (Int32.ofNat i))) fun _ => ih2 (Int32.ofNat i, Int32.ofNat u + 1))) M2 Q := by
    refine ht_bd (ht_rc R2.1 ?_)
    refine ht_bd (t_ct R2 hN k2 hu16 hi (fun _ => ?_) (fun _ => ?_))
    · rw [if_neg (by decide)]
      refine ht_bd (ht_pf (by decide) R2.1 (by simp [rob]) ?_)
      exact nx _ (Int32.ofNat i) (R2.ob (o' := rob nA nE kn (Int32.ofNat i) pc th)) (by rw [z_go (by decide)]; exact k2)
    · rw [if_pos rfl]
      exact nx M2 wr2 R2 k2
  refine ht_bd (t_ct R2 hN k2 hi hu16 (fun _ => ?_) (fun _ => ?_))
  · rw [if_neg (by decide)]
    exact two
  · rw [if_pos rfl]
    exact nx M2 wr2 R2 k2
theorem t_rings (R : RT h (rob (Int32.ofNat c) nE kn wr pc th) M) (H : HD h ks as bs cs ss xs ys zs n p q r) {Q : Unit → zM → Prop} (t : ∀ (M' : zM) (wr' pc' : Int32) (rs : List Nat), RT h (rob (Int32.ofNat c) nE kn wr' pc' th) M' → NB rs → M'[67]? = some (cN rs) → CLO rs → Q () M') : z_T (F_X11_findRings 42) M Q := by
  have l27 : ∀ (M1 : zM) (pc1 : Int32), RT h (rob (Int32.ofNat c) nE kn wr pc1 th) M1 → z_T (F_X11_findRings_27 42 z_N 1) M1 Q := by
    intro M1 pc1 R1
    obtain ⟨c67, k67, kk⟩ := R1.ar (i := 67) (by decide) (by decide) rfl
    obtain ⟨rs1, hN1, rfl⟩ := cN_of kk
    have hs1 := hN1.sum
    unfold F_X11_findRings_27
    refine ht_fix (body := fun ih s => B_X11_findRings_27 42 (fun y0 => ih y0) s) (I := fun m st M' => ∃ rs : List Nat, RT h (rob (Int32.ofNat c) nE kn wr pc1 th) M' ∧ NB rs ∧ M'[67]? = some (cN rs) ∧ ((st = 0 ∧ CLO rs) ∨ (st = 1 ∧ m + rs.sum = 1048561))) ?_ z_N (1048561 - rs1.sum) _ M1 (Nat.lt_of_le_of_lt (show 1048561 - rs1.sum ≤ 1048561 by omega) (by decide)) ⟨rs1, R1, hN1, k67, Or.inr ⟨rfl, by omega⟩⟩
    intro m f M2 ih hI hih
    obtain ⟨rs, R2, hN, k2, hf⟩ := hI
    unfold B_X11_findRings_27
    have hsr := hN.sum
    refine ht_if (fun e0 => ?_) (fun e0 => ?_)
    · have hcl : CLO rs := by
        rcases hf with ⟨-, g⟩ | ⟨g, -⟩
        · exact g
        · rw [g] at e0; exact absurd e0 (by decide)
      refine ht_bd (ht_pf (by decide) R2.1 (by simp [rob]) ?_)
      refine t_r131 (R2.ob (o' := rob (Int32.ofNat c) nE kn (-1) pc1 th)) H hN (by rw [z_go (by decide)]; exact k2) fun M3 wr3 R3 k3 => ?_
      exact t M3 wr3 pc1 rs R3 hN k3 hcl
    have hm : m + rs.sum = 1048561 := by
      rcases hf with ⟨g, -⟩ | ⟨-, g⟩
      · exact absurd g e0
      · exact g
    unfold F_X11_findRings_35
    refine ht_fix (body := fun ih2 s => B_X11_findRings_35 42 (fun y0 => ih y0) (fun y0 y1 => ih2 (y0, y1)) s.1 s.2) (I := fun l st M' => ∃ (rs' : List Nat) (f : Int32) (s : Nat), st = (f, Int32.ofNat s) ∧ s + l = 16 ∧ RT h (rob (Int32.ofNat c) nE kn wr pc1 th) M' ∧ NB rs' ∧ M'[67]? = some (cN rs') ∧ ((f = 0 ∧ rs' = rs ∧ ∀ s', s' < s → CL1 rs s') ∨ (f = 1 ∧ rs.sum < rs'.sum))) ?_ z_N 16 _ M2 (by decide) ⟨rs, 0, 0, rfl, by omega, R2, hN, k2, Or.inl ⟨rfl, rfl, fun s' hs' => by omega⟩⟩
    intro l st M3 ih2 hI2 hih2
    obtain ⟨rs2, f2, s, rfl, hsl, R3, hN2, k3, hf2⟩ := hI2
    unfold B_X11_findRings_35
    dsimp only
    refine ht_if (fun hle => ?_) (fun hle => ?_)
    · have hle := (n_le (a := 16) (by decide) (by omega)).mp hle
      rcases hf2 with ⟨rfl, rfl, g⟩ | ⟨rfl, g⟩
      · exact hih 0 _ _ (by omega) ⟨_, R3, hN2, k3, Or.inl ⟨rfl, fun s' hs' => g s' (by omega)⟩⟩
      · have := hN2.sum
        exact hih (1048561 - rs2.sum) _ _ (by omega) ⟨rs2, R3, hN2, k3, Or.inr ⟨rfl, by omega⟩⟩
    have hs : s < 16 := Nat.lt_of_not_le fun g => hle ((n_le (a := 16) (by decide) (by omega)).mpr g)
    have hsl2 : s < rs2.length := by rw [hN2.1]; exact hs
    refine ht_bd (ht_ga R3.1 (x := some 67) rfl ?_)
    refine ht_bd (rdN k3 hN2 hs ?_)
    have hold := (hN2.get hs).2
    generalize hod : rs2.getD s 0 = old at hold
    unfold F_X11_findRings_51
    refine ht_fix (body := fun ih3 s => B_X11_findRings_51 42 (fun y0 => ih y0) (fun y0 y1 => ih2 (y0, y1)) (fun y0 y1 y2 y3 => ih3 (y0, y1, y2, y3)) s.1 s.2.1 s.2.2.1 s.2.2.2) (I := fun l st M' => ∃ v t : Nat, st = (f2, Int32.ofNat s, Int32.ofNat old, Int32.ofNat t) ∧ t + l = 16 ∧ v < 65536 ∧ RT h (rob (Int32.ofNat c) nE kn wr pc1 th) M' ∧ M'[67]? = some (cN (rs2.set s v)) ∧ (∀ i, old.testBit i = true → v.testBit i = true) ∧ (v = old → ∀ t', t' < t → old.testBit t' = true → ∀ i, (rs2.getD t' 0).testBit i = true → old.testBit i = true)) ?_ z_N 16 _ M3 (by decide) ⟨old, 0, rfl, by omega, hold, R3, by rw [← hod, set_gd hsl2]; exact k3, fun _ g => g, fun _ t' ht' => by omega⟩
    intro l3 st M4 ih3 hI3 hih3
    obtain ⟨v, u, rfl, hu, hv, R4, k4, hsub, hcl⟩ := hI3
    have hN4 : NB (rs2.set s v) := hN2.set hv
    have hge : old ≤ v := w_le hsub
    have hsum := sum_set (v := v) hsl2
    rw [hod] at hsum
    unfold B_X11_findRings_51 F_X11_findRings_108 F_X11_findRings_113 F_X11_findRings_86
    dsimp only
    have gs : (rs2.set s v).getD s 0 = v := by rw [gd_set hsl2, if_pos rfl]
    refine ht_if (fun hle => ?_) (fun hle => ?_)
    · have hle := (n_le (a := 16) (by decide) (by omega)).mp hle
      have grown : rs.sum < (rs2.set s v).sum → z_T (ih2 (1, Int32.ofNat s + 1)) M4 Q := fun g => by
        rw [n_s]
        exact hih2 (l - 1) _ _ (by omega) ⟨rs2.set s v, 1, s + 1, rfl, by omega, R4, hN4, k4, Or.inr ⟨rfl, g⟩⟩
      refine ht_if (fun e0 => ?_) (fun e0 => ?_)
      · obtain ⟨-, rfl, g⟩ : f2 = 0 ∧ rs2 = rs ∧ ∀ s', s' < s → CL1 rs s' := by
          rcases hf2 with g | ⟨g, -⟩
          · exact g
          · rw [g] at e0; exact absurd e0 (by decide)
        refine ht_bd (ht_ga R4.1 (x := some 67) rfl ?_)
        refine ht_bd (rdN k4 hN4 hs ?_)
        rw [gs]
        refine ht_if (fun ev => ?_) (fun ev => ?_)
        · have ev := (n_e (by omega) (by omega)).mp ev
          subst ev
          have es : rs2.set s v = rs2 := by rw [← hod, set_gd hsl2]
          rw [es] at k4
          rw [n_s]
          refine hih2 (l - 1) _ _ (by omega) ⟨rs2, 0, s + 1, rfl, by omega, R4, hN2, k4, Or.inl ⟨rfl, rfl, fun s' hs' => ?_⟩⟩
          by_cases e' : s' = s
          · subst e'
            intro t' ht' hb i hi
            rw [hod] at hb ⊢
            exact hcl rfl t' (by omega) hb i hi
          · exact g s' (by omega)
        · have ev : ¬ v = old := fun e' => ev ((n_e (by omega) (by omega)).mpr e')
          exact grown (by omega)
      · have g : rs.sum < rs2.sum := by
          rcases hf2 with ⟨g, -⟩ | ⟨-, g⟩
          · exact absurd g e0
          · exact g
        exact grown (by omega)
    have hu16 : u < 16 := Nat.lt_of_not_le fun g => hle ((n_le (a := 16) (by decide) (by omega)).mpr g)
    have put : ∀ w : Nat, w < 65536 → (v.testBit u = true → w = (rs2.set s v).getD u 0) → z_T (z_bd (z_si (some 67) (Int32.ofNat s) (Int32.ofNat v ||| Int32.ofNat w)) fun _ => ih3 (f2, Int32.ofNat s, Int32.ofNat old, Int32.ofNat u + 1)) M4 Q := by
      intro w hw hwv
      rw [w_or, n_s]
      refine ht_bd (wrN (by decide) k4 hN4 hs ?_)
      rw [List.set_set]
      have hvw := w_o16 hv hw
      refine hih3 (l3 - 1) _ _ (by omega) ⟨v ||| w, u + 1, rfl, by omega, hvw, R4.set (by decide) (by decide) (ok67 (hN2.set hvw)), z_gs k4, fun i hi => ?_, fun ev t' ht' hb i hi => ?_⟩
      · rw [Nat.testBit_or, hsub i hi]; rfl
      · have evo : v = old := by
          apply Nat.eq_of_testBit_eq
          intro i
          cases hvi : v.testBit i with
          | false =>
            cases hoi : old.testBit i with
            | false => rfl
            | true => rw [hsub i hoi] at hvi; cases hvi
          | true =>
            have := congrArg (fun x => Nat.testBit x i) ev
            simp only [Nat.testBit_or, hvi, Bool.true_or] at this
            exact this
        by_cases e' : t' = u
        · subst e'
          have hvb : v.testBit t' = true := by rw [evo]; exact hb
          have hw' := hwv hvb
          rw [gd_set hsl2] at hw'
          by_cases e2 : s = t'
          · subst e2
            rw [hod] at hi
            exact hi
          · rw [if_neg e2] at hw'
            rw [← ev, Nat.testBit_or, hw', hi, Bool.or_true]
        · exact hcl evo t' (by omega) hb i hi
    refine ht_bd (ht_ga R4.1 (x := some 67) rfl ?_)
    refine ht_bd (rdN k4 hN4 hs ?_)
    rw [gs]
    refine ht_bd (ht_rc R4.1 ?_)
    refine ht_bd (t_ct R4 hN4 k4 hs hu16 (fun _ => ?_) (fun hb => ?_))
    · rw [if_neg (by decide)]
      refine ht_bd (ht_ga R4.1 (x := some 67) rfl ?_)
      refine ht_bd (rdN k4 hN4 hu16 ?_)
      exact put _ (hN4.get hu16).2 (fun _ => rfl)
    · rw [if_pos rfl]
      rw [gs] at hb
      exact put 0 (by decide) (fun g => by rw [hb] at g; cases g)
  unfold F_X11_findRings F_X11_findRings_2
  refine ht_fix (body := fun ih s => B_X11_findRings_2 42 (fun y0 => ih y0) s) (I := fun l st M' => ∃ (s : Nat) (pc1 : Int32), st = Int32.ofNat s ∧ s + l = 16 ∧ RT h (rob (Int32.ofNat c) nE kn wr pc1 th) M') ?_ z_N 16 _ M (by decide) ⟨0, pc, rfl, by omega, R⟩
  intro l st M1 ih hI hih
  obtain ⟨s, pc1, rfl, hl, R1⟩ := hI
  unfold B_X11_findRings_2
  dsimp only
  refine ht_if (fun _ => l27 M1 pc1 R1) (fun hle => ?_)
  have hs : s < 16 := Nat.lt_of_not_le fun g => hle ((n_le (a := 16) (by decide) (by omega)).mpr g)
  have es := n_ti (n := s) (by omega)
  refine ht_bd (ht_ga R1.1 (x := some 67) rfl ?_)
  refine ht_bd (ht_rc R1.1 ?_)
  refine ht_bd (t_refers R1 H hs fun v M2 pc2 hv R2 => ?_)
  refine ht_bd (tr_si R2 (i := 67) (by decide) (by decide) rfl (by omega) (by omega) hv fun M3 R3 f3 => ?_)
  rw [n_s]
  exact hih (l - 1) _ _ (by omega) ⟨s + 1, pc2, rfl, by omega, R3⟩
def RDY (rs : List Nat) (d s : Nat) : Prop := d.testBit s = false ∧ ∀ t, t < 16 → (rs.getD s 0).testBit t = true → (rs.getD t 0).testBit s = false → d.testBit t = true
theorem ready_up (hC : CLO rs) {d : Nat} : ∀ (m s : Nat), s < 16 → d.testBit s = false → (rs.getD s 0 ||| 2 ^ s) ≤ m → ∃ s', s' < 16 ∧ RDY rs d s' := by
  intro m
  induction m with
  | zero =>
    intro s hs _ hle
    have : 2 ^ s ≤ (rs.getD s 0 ||| 2 ^ s) := Nat.right_le_or
    have := Nat.two_pow_pos s
    omega
  | succ m ih =>
    intro s hs hd hle
    by_cases hR : RDY rs d s
    · exact ⟨s, hs, hR⟩
    · have : ∃ t, t < 16 ∧ (rs.getD s 0).testBit t = true ∧ (rs.getD t 0).testBit s = false ∧ d.testBit t = false := by
        refine Classical.byContradiction fun hno => hR ⟨hd, fun t ht h1 h2 => ?_⟩
        cases h3 : d.testBit t with
        | true => rfl
        | false => exact absurd ⟨t, ht, h1, h2, h3⟩ hno
      obtain ⟨t, ht, h1, h2, h3⟩ := this
      have hne : t ≠ s := fun e => by subst e; rw [h1] at h2; cases h2
      refine ih t ht h3 (Nat.le_of_lt_succ (Nat.lt_of_lt_of_le (w_lt (i := s) (fun i hi => ?_) ?_ ?_) hle))
      · rw [Nat.testBit_or, Bool.or_eq_true] at hi ⊢
        left
        rcases hi with hi | hi
        · exact hC s hs t ht h1 i hi
        · rw [Nat.testBit_two_pow, decide_eq_true_eq] at hi
          subst hi
          exact h1
      · rw [Nat.testBit_or, h2, Nat.testBit_two_pow_of_ne hne]
        rfl
      · rw [Nat.testBit_or, Nat.testBit_two_pow_self, Bool.or_true]
theorem ready_ex (hC : CLO rs) {d : Nat} (hd : d < 65536) (hne : d ≠ 65535) : ∃ s, s < 16 ∧ RDY rs d s := by
  have : ∃ s, s < 16 ∧ d.testBit s = false := by
    refine Classical.byContradiction fun hno => hne (w_full hd fun i hi => ?_)
    cases h3 : d.testBit i with
    | true => rfl
    | false => exact absurd ⟨i, hi, h3⟩ hno
  obtain ⟨s, hs, h0⟩ := this
  exact ready_up hC _ s hs h0 (Nat.le_refl _)
theorem t_ready {nA : Int32} (R : RT h (rob nA nE kn wr pc th) M) (H : NB rs) (h67 : M[67]? = some (cN rs)) {s d : Nat} (hs : s < 16) (hd : d < 65536) {Q : Int32 → zM → Prop} (q1 : d.testBit s = false → Q 1 M) (q0 : ¬ RDY rs d s → Q 0 M) : z_T (F_X11_isReady 42 (Int32.ofNat s) (Int32.ofNat d)) M Q := by
  unfold F_X11_isReady F_X11_isReady_2
  refine ht_fix (body := fun ih s => B_X11_isReady_2 42 (fun y0 y1 y2 => ih (y0, y1, y2)) s.1 s.2.1 s.2.2) (I := fun l st M' => M' = M ∧ ∃ t : Nat, st = (Int32.ofNat s, Int32.ofNat d, Int32.ofNat t) ∧ t + l = 16) ?_ z_N 16 _ M (by decide) ⟨rfl, 0, rfl, by omega⟩
  intro l st M1 ih hI hih
  obtain ⟨rfl, t, rfl, hl⟩ := hI
  unfold B_X11_isReady_2 F_X11_isReady_36 F_X11_isReady_55
  rw [z_rb0, z_rb1]
  dsimp only
  refine ht_if (fun _ => ?_) (fun hle => ?_)
  · refine ht_if (fun e => ht_ret (q1 ((w_b0 hd hs).mp e))) (fun e => ht_ret (q0 fun g => e ((w_b0 hd hs).mpr g.1)))
  have ht : t < 16 := Nat.lt_of_not_le fun g => hle ((n_le (a := 16) (by decide) (by omega)).mpr g)
  have nx : z_T (ih (Int32.ofNat s, Int32.ofNat d, Int32.ofNat t + 1)) M1 Q := by
    rw [n_s]
    exact hih (l - 1) _ _ (by omega) ⟨rfl, t + 1, rfl, by omega⟩
  refine ht_bd (ht_rc R.1 ?_)
  refine ht_bd (t_ct R H h67 hs ht (fun b1 => ?_) (fun _ => ?_))
  · rw [if_neg (by decide)]
    refine ht_bd (ht_rc R.1 ?_)
    refine ht_bd (t_ct R H h67 ht hs (fun _ => ?_) (fun b2 => ?_))
    · rw [if_neg (by decide)]
      exact nx
    · rw [if_pos rfl]
      refine ht_if (fun e => ht_ret (q0 fun g => ?_)) (fun _ => nx)
      have e := (w_b0 hd ht).mp e
      rw [g.2 t ht b1 b2] at e
      cases e
  · rw [if_pos rfl]
    exact nx
end RN
