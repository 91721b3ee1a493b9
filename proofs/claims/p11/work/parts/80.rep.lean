/-! REPEATED -/
section RP
variable {g : Nat → zC} {D : List Nat} {M : zM}
theorem k_bagsMarked (W : WX g D M) {p : Int32} {Q : Option Nat → zM → Prop} (q : ∀ (a : Nat) (D' : List Nat) (M' : zM), WX g D' M' → D'.length = D.length + 1 → (gB ++ D')[a]? = some 102 → (∀ b t : Nat, (gB ++ D)[b]? = some t → (gB ++ D')[b]? = some t) → Q (some a) M') : z_T (F_X4_bagsMarked 14 p) M Q := by
  unfold F_X4_bagsMarked F_X4_bagsMarked_4
  obtain ⟨n, hn, -⟩ := W.c14
  obtain ⟨m, hT, hm⟩ := W.1.tab (e := 3) (Or.inl rfl)
  obtain ⟨c6, hc6, hk6⟩ := W.1.ar (a := 6) (t := 6) rfl rfl
  have hm2 := hm.2
  refine ht_fix (body := fun ih s => B_X4_bagsMarked_4 14 (fun y0 y1 y2 => ih (y0, y1, y2)) s.1 s.2.1 s.2.2) (I := fun n st M' => M' = M ∧ ∃ z x : Int32, st = (p, z, x) ∧ 0 ≤ z.toInt ∧ z.toInt ≤ x.toInt ∧ x.toInt + n = 525) ?_ z_N 525 _ M (by decide) ⟨rfl, 0, 0, rfl, by decide, by decide, by decide⟩
  intro n st M2 ih hI hih
  obtain ⟨rfl, z, x, rfl, hz, hzx, hn'⟩ := hI
  unfold B_X4_bagsMarked_4 F_X4_bagsMarked_35
  dsimp only
  refine ht_bd (ht_ga hn (x := some 3) rfl ?_)
  refine ht_bd (ht_gi hT rfl ?_)
  refine ht_if (fun _ => ?_) (fun h => ?_)
  · have hcl : z.toNatClampNeg ≤ 525 := by show z.toInt.toNat ≤ 525; omega
    refine ht_bd (ht_nwa (fun e => by have := Int32.lt_iff_toInt_lt.mp e; have := i0; omega) (by omega) ?_)
    have W1 := W.add (t := 102) (c := .inl (0, List.replicate z.toNatClampNeg (.int 0))) (pBags_rep hcl)
    have hN : (M2 ++ [.inl (0, List.replicate z.toNatClampNeg (.int 0))] : zM)[M2.length]? = some (.inl (0, (List.replicate z.toNatClampNeg (0 : Int32)).map .int)) := by rw [List.map_replicate]; exact z_gn
    generalize (M2 ++ [.inl (0, List.replicate z.toNatClampNeg (.int 0))] : zM) = M3 at W1 hN ⊢
    unfold F_X4_bagsMarked_53
    refine ht_fix (body := fun ih s => B_X4_bagsMarked_53 14 (fun y0 y1 y2 y3 y4 => ih (y0, y1, y2, y3, y4)) s.1 s.2.1 s.2.2.1 s.2.2.2.1 s.2.2.2.2) (I := fun k st M' => WX g (D ++ [102]) M' ∧ (∃ us : List Int32, M'[M2.length]? = some (.inl (0, us.map .int)) ∧ us.length = z.toNatClampNeg) ∧ ∃ u y : Int32, st = (p, z, some M2.length, u, y) ∧ 0 ≤ u.toInt ∧ 0 ≤ y.toInt ∧ y.toInt + k = 525) ?_ z_N 525 _ M3 (by decide) ⟨W1, ⟨_, hN, by simp⟩, 0, 0, rfl, by decide, by decide, by decide⟩
    intro k st M4 ih2 hI2 hih2
    obtain ⟨W4, ⟨us, hU, hul⟩, u, y, rfl, hu, hy, hk⟩ := hI2
    unfold B_X4_bagsMarked_53 F_X4_bagsMarked_103
    dsimp only
    obtain ⟨n4, hn4, -⟩ := W4.c14
    obtain ⟨m4, hT4, hm4⟩ := W4.1.tab (e := 3) (Or.inl rfl)
    obtain ⟨c4, hc4, hk4⟩ := W4.1.ar (a := 6) (t := 6) rfl rfl
    obtain ⟨c5, hc5, hk5⟩ := W4.1.ar (a := 5) (t := 5) rfl rfl
    have hm42 := hm4.2
    refine ht_bd (ht_ga hn4 (x := some 3) rfl ?_)
    refine ht_bd (ht_gi hT4 rfl ?_)
    refine ht_if (fun _ => ht_ret (q _ _ _ W4 (by simp) W.tn (fun b t h => gB_ext h))) (fun h => ?_)
    have h : y.toInt < m4.toInt := i_nle.mp h
    have e2 := i_s (a := y) (by omega)
    refine ht_bd (ht_ga hn4 (x := some 3) rfl ?_)
    refine ht_bd (ht_ga hT4 (x := some 6) rfl ?_)
    refine ht_bd (ri_li hc4 hk4 hy (by omega) fun v _ => ?_)
    refine ht_if (fun _ => hih2 (k - 1) _ _ (by omega) ⟨W4, ⟨us, hU, hul⟩, u, y + 1, rfl, hu, by omega, by omega⟩) (fun _ => ?_)
    refine ht_if (fun _ => hih2 (k - 1) _ _ (by omega) ⟨W4, ⟨us, hU, hul⟩, u, y + 1, rfl, hu, by omega, by omega⟩) (fun hf => ?_)
    have hf : u.toInt < z.toInt := i_nle.mp hf
    have e3 := i_s (a := u) (by omega)
    refine ht_bd (ht_ga hn4 (x := some 3) rfl ?_)
    refine ht_bd (ht_ga hT4 (x := some 5) rfl ?_)
    refine ht_bd (ri_li hc5 hk5 hy (by omega) fun w _ => ?_)
    have hui : u.toNatClampNeg < us.length := by rw [hul]; show u.toInt.toNat < z.toInt.toNat; omega
    refine ht_bd (ht_si (Nat.le_trans ge2_of_len (Nat.le_of_eq W.2)) hU (fun e => by have := Int32.lt_iff_toInt_lt.mp e; have := i0; omega) (by rw [List.length_map]; exact hui) ?_)
    have eU : (us.map Value.int).set u.toNatClampNeg (.int w) = (us.set u.toNatClampNeg w).map .int := by rw [List.map_set]
    rw [eU]
    exact hih2 (k - 1) _ _ (by omega) ⟨W4.set W.tn ⟨us.set u.toNatClampNeg w, rfl, by rw [List.length_set]; omega⟩, ⟨_, z_gs hU, by rw [List.length_set]; exact hul⟩, u + 1, y + 1, rfl, by omega, by omega, by omega⟩
  · have h : x.toInt < m.toInt := i_nle.mp h
    have e1 := i_s (a := x) (by omega)
    refine ht_bd (ht_ga hn (x := some 3) rfl ?_)
    refine ht_bd (ht_ga hT (x := some 6) rfl ?_)
    refine ht_bd (ri_li hc6 hk6 (by omega) (by omega) fun v _ => ?_)
    have z0 := i0
    have z1 := i1
    refine ht_if (fun _ => ?_) (fun _ => ?_)
    · refine ht_bd (ht_ret ?_)
      have e3 := i_add (a := z) (b := 0) (by omega) (by omega)
      exact hih (n - 1) _ _ (by omega) ⟨rfl, z + 0, x + 1, rfl, by omega, by omega, by omega⟩
    · refine ht_bd (ht_ret ?_)
      have e3 := i_add (a := z) (b := 1) (by omega) (by omega)
      exact hih (n - 1) _ _ (by omega) ⟨rfl, z + 1, x + 1, rfl, by omega, by omega, by omega⟩
theorem k_repeated (W : WX g D M) {a : Nat} (ha : (gB ++ D)[a]? = some 103) {p1 p2 : Int32} (h1 : 0 ≤ p1.toInt) {Q : Option Nat → zM → Prop} (q : ∀ (a : Nat) (D' : List Nat) (M' : zM), WX g D' M' → D'.length = D.length + 1 → (gB ++ D')[a]? = some 102 → (∀ b t : Nat, (gB ++ D)[b]? = some t → (gB ++ D')[b]? = some t) → Q (some a) M') : z_T (F_X4_repeated 14 (some a) p1 p2) M Q := by
  obtain ⟨n, hn, -⟩ := W.c14
  have h61 : ∀ (M1 : zM) (mo le : Int32), WX g D M1 → mo.toInt ≤ 8 → 0 ≤ le.toInt → z_T (F_X4_repeated_52 14 le mo) M1 Q := by
    intro M1 mo le W1 hmo hle
    unfold F_X4_repeated_52 F_X4_repeated_61
    have hlt := Int32.toInt_lt le
    refine ht_fix (body := fun ih s => B_X4_repeated_61 14 (fun y0 y1 y2 => ih (y0, y1, y2)) s.1 s.2.1 s.2.2) (I := fun n st M' => M' = M1 ∧ ∃ z x : Int32, st = (mo, z, x) ∧ 0 ≤ x.toInt ∧ n = (9 - x.toInt).toNat) ?_ z_N (9 - le.toInt).toNat _ M1 (Nat.lt_of_le_of_lt (show _ ≤ 9 by omega) (by decide)) ⟨rfl, 0, le, rfl, hle, rfl⟩
    intro n st M2 ih hI hih
    obtain ⟨rfl, z, x, rfl, hx, hn'⟩ := hI
    unfold B_X4_repeated_61
    dsimp only
    obtain ⟨n2, hn2, -⟩ := W1.c14
    refine ht_if (fun _ => ?_) (fun h => ?_)
    · refine ht_bd (ht_rc hn2 ?_)
      refine ht_bd (k_bagsMarked W1 fun a D' M' W' hD hT hE => ?_)
      exact ht_ret (q _ _ _ W' hD hT hE)
    · have h : x.toInt ≤ mo.toInt := i_nlt.mp h
      have e1 := i_s (a := x) (by omega)
      refine ht_bd (ht_ret ?_)
      exact hih _ _ _ (by omega) ⟨rfl, _, x + 1, rfl, by omega, rfl⟩
  have h14 : z_T (F_X4_repeated_14 14 (some a) p1 p2) M Q := by
    unfold F_X4_repeated_14
    refine ht_bd (ht_rc hn ?_)
    refine ht_bd (k_countParts W ha fun M1 W1 f1 => ?_)
    obtain ⟨w, pl, bg, o, i, r, hE, -, hpl, hbg⟩ := W1.1.expr ha
    refine ht_bd (ht_ga hE (x := some bg) rfl ?_)
    refine ht_bd (k_holdsEmpty W1 hbg fun v => ?_)
    have h34 : ∀ le : Int32, 0 ≤ le.toInt → z_T (F_X4_repeated_34 14 p2 le) M1 Q := by
      intro le hle
      unfold F_X4_repeated_34
      refine ht_if (fun _ => h61 M1 8 le W1 (by decide) hle) (fun _ => h61 M1 _ le W1 ?_ hle)
      split
      · decide
      · rename_i h8
        have h8 : p2.toInt ≤ (8 : Int32).toInt := i_nlt.mp h8
        exact h8
    exact ht_if (fun _ => h34 p1 h1) (fun _ => h34 0 (by decide))
  unfold F_X4_repeated
  refine ht_if (fun _ => h14) (fun _ => ?_)
  refine ht_if (fun _ => h14) (fun _ => ?_)
  refine ht_bd (ht_nwa (by decide) (by decide) ?_)
  have W1 := W.add (t := 102) (c := .inl (0, List.replicate (Int32.toNatClampNeg 0) (.int 0))) (pBags_rep (by decide))
  exact ht_ret (q _ _ _ W1 (by simp) W.tn (fun b t h => gB_ext h))
theorem k_addRepeated (W : WX g D M) {a : Nat} (ha : (gB ++ D)[a]? = some 103) {p1 p2 : Int32} (h1 : 0 ≤ p1.toInt) {Q : Int32 → zM → Prop} (q : ∀ x D' M', WX g D' M' → D'.length ≤ D.length + 4 → Q x M') : z_T (F_X4_addRepeated 14 (some a) p1 p2) M Q := by
  unfold F_X4_addRepeated
  obtain ⟨n, hn, -⟩ := W.c14
  obtain ⟨w, pl, bg, o, i, r, hE, -, hpl, hbg⟩ := W.1.expr ha
  refine ht_bd (ht_gi hE rfl ?_)
  refine ht_if (fun _ => ?_) (fun _ => ?_)
  · refine ht_bd (ht_ga hE (x := some pl) rfl ?_)
    refine ht_bd (ht_rc hn ?_)
    refine ht_bd (k_repeated W ha h1 fun b D1 M1 W1 hD hT hX => ?_)
    obtain ⟨n1, hn1, -⟩ := W1.c14
    refine ht_bd (ht_rc hn1 ?_)
    refine ht_bd (k_keep W1 (Or.inl rfl) (hX _ _ hpl) hT fun x D' M' W' hD' => ?_)
    exact ht_ret (q _ _ _ W' (by omega))
  · refine ht_bd (ht_rc hn ?_)
    refine ht_bd (k_keepWide W fun x D' M' W' hD' => ?_)
    exact ht_ret (q _ _ _ W' (by omega))
end RP
