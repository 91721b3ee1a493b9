/-! PAIRS, AND THE CALL expression -/
section EP
variable {g : Nat → zC} {D : List Nat} {M : zM}
theorem k_addPair (W : WX g D M) {a b : Nat} (ha : (gB ++ D)[a]? = some 103) (hb : (gB ++ D)[b]? = some 103) {p : Int32} {Q : Int32 → zM → Prop} (q : ∀ x D' M', WX g D' M' → D'.length ≤ D.length + 6 → Q x M') : z_T (F_X4_addPair 14 p (some a) (some b)) M Q := by
  unfold F_X4_addPair F_X4_addPair_14
  obtain ⟨n, hn, -⟩ := W.c14
  obtain ⟨wa, pla, bga, oa, ia, ra, hA, -, hpla, hbga⟩ := W.1.expr ha
  obtain ⟨wb, plb, bgb, ob, ib, rb, hB, -, hplb, hbgb⟩ := W.1.expr hb
  have wide : ∀ (D1 : List Nat) (M1 : zM), WX g D1 M1 → D1.length ≤ D.length + 1 → z_T (z_bd (z_rc (some 14) 4) fun b14 => z_bd (F_X4_keepWide b14) fun x13 => z_ret x13) M1 Q := by
    intro D1 M1 W1 hD
    obtain ⟨n1, hn1, -⟩ := W1.c14
    refine ht_bd (ht_rc hn1 ?_)
    refine ht_bd (k_keepWide W1 fun x D' M' W' hD' => ?_)
    exact ht_ret (q _ _ _ W' (by omega))
  refine ht_bd (ht_gi hA rfl ?_)
  refine ht_if (fun _ => ?_) (fun _ => wide D M W (by omega))
  refine ht_bd (ht_gi hB rfl ?_)
  refine ht_if (fun _ => ?_) (fun _ => wide D M W (by omega))
  refine ht_bd (ht_ga hA (x := some pla) rfl ?_)
  refine ht_bd (ht_ga hB (x := some plb) rfl ?_)
  refine ht_bd (k_union W hpla hplb fun L M1 W1 hl1 hL htag hL10 => ?_)
  have eL := n_ti (n := L.length) (by omega)
  refine ht_bd (ht_len hL ?_)
  rw [List.length_map]
  have hfin : ∀ t : Nat, 100 ≤ t → okc g (D ++ [t]) t (.inl (15, L.map .ref)) → WX g (D ++ [t]) M1 := fun t h100 ht => by
    refine WX.fin W1 (by rw [W.2, hl1]; rfl) (fun k s hk => ?_)
    match k, hk with
    | 0, hk => cases hk; exact ⟨h100, _, by rw [W.2]; exact hL, ht⟩
    | k + 1, hk => simp at hk
  refine ht_if (fun h5 => ?_) (fun _ => ?_)
  · have h5 : (Int32.ofNat L.length).toInt ≤ (5 : Int32).toInt := i_le.mp h5
    have e5 : (5 : Int32).toInt = 5 := rfl
    have W2 := hfin 101 (by decide) ⟨L, rfl, by omega, fun c hc => gB_ext (htag c hc)⟩
    have tU : (gB ++ (D ++ [101]))[M.length]? = some 101 := W.tn
    have ha2 : (gB ++ (D ++ [101]))[a]? = some 103 := gB_ext ha
    have hb2 : (gB ++ (D ++ [101]))[b]? = some 103 := gB_ext hb
    obtain ⟨wa, pla, bga, oa, ia, ra, hA, -, hpla, hbga⟩ := W2.1.expr ha2
    obtain ⟨wb, plb, bgb, ob, ib, rb, hB, -, hplb, hbgb⟩ := W2.1.expr hb2
    obtain ⟨ws, hWs, hwl⟩ := W2.1.bags hbgb
    have eW := n_ti (n := ws.length) (by omega)
    refine ht_bd (ht_ga hB (x := some bgb) rfl ?_)
    refine ht_bd (ht_len hWs ?_)
    rw [List.length_map]
    have hcl : (Int32.ofNat ws.length).toNatClampNeg = ws.length := n_cl (by omega)
    refine ht_bd (ht_nwa (n_nn (by omega)) (by omega) ?_)
    rw [hcl]
    have W3 := W2.add (t := 102) (c := .inl (0, List.replicate ws.length (.int 0))) (pBags_rep hwl)
    have hN : (M1 ++ [.inl (0, List.replicate ws.length (.int 0))] : zM)[M1.length]? = some (.inl (0, (List.replicate ws.length (0 : Int32)).map .int)) := by rw [List.map_replicate]; exact z_gn
    have hO : ∀ i, i ≠ M1.length → i < M1.length → (M1 ++ [.inl (0, List.replicate ws.length (.int 0))] : zM)[i]? = M1[i]? := fun i _ hi => List.getElem?_append_left hi
    generalize (M1 ++ [.inl (0, List.replicate ws.length (.int 0))] : zM) = M2 at W3 hN hO ⊢
    have h2 : z_g0 ≤ M1.length := Nat.le_trans ge2_of_len (Nat.le_of_eq W2.2)
    have lt1 : ∀ {c t : Nat}, (gB ++ (D ++ [101]))[c]? = some t → c < M1.length := fun h => by rw [← W2.2]; exact lt_of_tag h
    unfold F_X4_addPair_56
    refine ht_fix (body := fun ih s => B_X4_addPair_56 14 (fun y0 y1 y2 y3 y4 y5 => ih (y0, y1, y2, y3, y4, y5)) s.1 s.2.1 s.2.2.1 s.2.2.2.1 s.2.2.2.2.1 s.2.2.2.2.2) (I := fun k st M' => WX g (D ++ [101] ++ [102]) M' ∧ (∀ i, i < M1.length → M'[i]? = M1[i]?) ∧ (∃ us : List Int32, M'[M1.length]? = some (.inl (0, us.map .int)) ∧ us.length = ws.length) ∧ ∃ x : Int32, st = (p, some a, some b, some M.length, some M1.length, x) ∧ 0 ≤ x.toInt ∧ x.toInt + k = 525) ?_ z_N 525 _ M2 (by decide) ⟨W3, fun i hi => hO i (by omega) hi, ⟨_, hN, by simp⟩, 0, rfl, by decide, by decide⟩
    intro k st M3 ih hI hih
    obtain ⟨W4, hO4, ⟨us, hU, hul⟩, x, rfl, hx, hk⟩ := hI
    unfold B_X4_addPair_56 F_X4_addPair_122
    dsimp only
    have hA4 := (hO4 a (lt1 ha2)).trans hA
    have hB4 := (hO4 b (lt1 hb2)).trans hB
    have hWs4 := (hO4 bgb (lt1 hbgb)).trans hWs
    obtain ⟨n4, hn4, -⟩ := W4.c14
    refine ht_bd (ht_len hU ?_)
    rw [List.length_map, hul]
    have tA : (gB ++ (D ++ [101] ++ [102]))[bga]? = some 102 := gB_ext hbga
    have tM : (gB ++ (D ++ [101] ++ [102]))[M1.length]? = some 102 := W2.tn
    have tU4 : (gB ++ (D ++ [101] ++ [102]))[M.length]? = some 101 := gB_ext tU
    refine ht_if (fun _ => ?_) (fun h => ?_)
    · refine ht_if (fun _ => ?_) (fun _ => ?_)
      · refine ht_bd (ht_ga hA4 (x := some bga) rfl ?_)
        refine ht_bd (ht_rc hn4 ?_)
        refine ht_bd (k_eitherOf W4 tA tM fun c D5 M5 W5 hD5 hT5 hX5 => ?_)
        obtain ⟨n5, hn5, -⟩ := W5.c14
        refine ht_bd (ht_rc hn5 ?_)
        refine ht_bd (k_keep W5 (Or.inl rfl) (hX5 _ _ tU4) hT5 fun y D' M' W' hD' => ?_)
        exact ht_ret (q _ _ _ W' (by simp only [List.length_append, List.length_cons, List.length_nil] at hD5; omega))
      · refine ht_bd (ht_ga hA4 (x := some bga) rfl ?_)
        refine ht_bd (ht_rc hn4 ?_)
        refine ht_bd (k_together W4 tA tM fun c D5 M5 W5 hD5 hT5 hX5 => ?_)
        obtain ⟨n5, hn5, -⟩ := W5.c14
        refine ht_bd (ht_rc hn5 ?_)
        refine ht_bd (k_keep W5 (Or.inl rfl) (hX5 _ _ tU4) hT5 fun y D' M' W' hD' => ?_)
        exact ht_ret (q _ _ _ W' (by simp only [List.length_append, List.length_cons, List.length_nil] at hD5; omega))
    · have h : x.toInt < (Int32.ofNat ws.length).toInt := i_nle.mp h
      have e1 := i_s (a := x) (by omega)
      refine ht_bd (ht_ga hB4 (x := some bgb) rfl ?_)
      refine ht_bd (rb_li hWs4 hx (by omega) fun v => ?_)
      refine ht_bd (ht_ga hB4 (x := some plb) rfl ?_)
      refine ht_bd (k_moved W4.1 (gB_ext hplb) tU4 fun u => ?_)
      have hui : x.toNatClampNeg < us.length := by rw [hul]; show x.toInt.toNat < _; omega
      refine ht_bd (ht_si h2 hU (fun e => by have := Int32.lt_iff_toInt_lt.mp e; have := i0; omega) (by rw [List.length_map]; exact hui) ?_)
      have eU : (us.map Value.int).set x.toNatClampNeg (.int u) = (us.set x.toNatClampNeg u).map .int := by rw [List.map_set]
      rw [eU]
      exact hih (k - 1) _ _ (by omega) ⟨W4.set tM ⟨us.set x.toNatClampNeg u, rfl, by rw [List.length_set]; omega⟩, fun i hi => by rw [z_go (by omega)]; exact hO4 i hi, ⟨_, z_gs hU, by rw [List.length_set]; exact hul⟩, x + 1, rfl, by omega, by omega⟩
  · have W2 := hfin 104 (by decide) (show zn (.inl (15, L.map Value.ref)) ≤ 525 by simp [zn]; omega)
    exact wide _ _ W2 (by simp)
theorem c_expr (W : WX g D M) {p0 p1 p2 p3 : Int32} {Q : Int32 → zM → Prop} (q : ∀ x D' M', WX g D' M' → D'.length ≤ D.length + 6 → Q x M') : z_T (F_X10_expression 2 p0 p1 p2 p3) M Q := by
  have q0 : ∀ x, Q x M := fun x => q x D M W (by omega)
  obtain ⟨n, hn, hn60⟩ := W.c14
  have top := W.1.top
  have full : ∀ {Q' : Int32 → zM → Prop}, (∀ x, Q' x M) → z_T (F_X4_isFull 14) M Q' := by
    intro Q' hq
    unfold F_X4_isFull F_X4_isFull_14
    rw [z_rb0, z_rb1]
    refine ht_bd (ht_gi hn rfl ?_)
    exact ht_if (fun _ => ht_ret (hq _)) (fun _ => ht_ret (hq _))
  have place : ∀ o : Int32, o = 0 ∨ o = 1 → z_T (F_X10_expression_50 2 p1 p2 (some 2) o) M Q := by
    intro o ho
    unfold F_X10_expression_50
    refine ht_bd (ht_rc top ?_)
    refine ht_bd ?_
    unfold F_X10_addPlace F_X10_addPlace_19
    rw [e_l10, e_s10]
    refine ht_bd (ht_ret (ht_if (fun _ => ht_ret (ht_ret (q0 _))) (fun h0 => ?_)))
    have h0 := g_in_i (N := 8) (by decide) h0
    have go : rg (-1) 15 p2 → z_T (F_X10_addPlace_21 2 o p1 p2) M fun a M' => z_T (z_ret a) M' Q := by
      intro hp2
      unfold F_X10_addPlace_21 F_X10_addPlace_46
      refine ht_bd (ht_ga top (x := some 14) rfl ?_)
      refine ht_bd (ht_rc hn ?_)
      refine ht_bd (full fun x => ?_)
      refine ht_if (fun _ => ?_) (fun _ => ht_ret (ht_ret (q0 _)))
      refine ht_bd (ht_ga top (x := some 14) rfl ?_)
      refine ht_bd (ht_rc hn ?_)
      refine ht_bd (k_addPlace W ho ⟨h0.1, by omega⟩ hp2 fun y D' M' W' hD => ?_)
      exact ht_ret (ht_ret (q _ _ _ W' (by omega)))
    refine ht_if (fun h1 => go (by rw [h1]; exact ⟨by decide, by decide⟩)) (fun _ => ?_)
    refine ht_bd (ht_ret (ht_if (fun _ => ht_ret (ht_ret (q0 _))) (fun h2 => ?_)))
    have h2 := g_in_i (N := 16) (by decide) h2
    exact go ⟨by omega, by omega⟩
  have pair : ∀ s : Int32, z_T (F_X10_expression_67 2 p1 p2 (some 2) s) M Q := by
    intro s
    unfold F_X10_expression_67
    refine ht_bd (ht_rc top ?_)
    refine ht_bd ?_
    unfold F_X10_addPair F_X10_addPair_30 F_X10_addPair_59
    refine ht_bd (ht_ga top (x := some 14) rfl ?_)
    refine ht_bd (ht_rc hn ?_)
    refine ht_bd (k_find W.1 fun r hr => ?_)
    refine ht_bd (ht_ga top (x := some 14) rfl ?_)
    refine ht_bd (ht_rc hn ?_)
    refine ht_bd (k_find W.1 fun r2 hr2 => ?_)
    refine ht_if (fun _ => ht_ret (ht_ret (q0 _))) (fun hne => ?_)
    refine ht_if (fun _ => ht_ret (ht_ret (q0 _))) (fun hne2 => ?_)
    obtain ⟨a, rfl⟩ := Option.ne_none_iff_exists'.mp hne
    obtain ⟨b, rfl⟩ := Option.ne_none_iff_exists'.mp hne2
    refine ht_bd (ht_ga top (x := some 14) rfl ?_)
    refine ht_bd (ht_rc hn ?_)
    refine ht_bd (full fun x => ?_)
    refine ht_if (fun _ => ?_) (fun _ => ht_ret (ht_ret (q0 _)))
    refine ht_bd (ht_ga top (x := some 14) rfl ?_)
    refine ht_bd (ht_rc hn ?_)
    refine ht_bd (k_addPair W (hr a rfl) (hr2 b rfl) fun y D' M' W' hD => ?_)
    exact ht_ret (ht_ret (q _ _ _ W' hD))
  unfold F_X10_expression F_X10_expression_104
  refine ht_if (fun _ => ht_if (fun _ => place 1 (Or.inr rfl)) (fun _ => place 0 (Or.inl rfl))) (fun _ => ?_)
  refine ht_if (fun _ => ht_if (fun _ => place 1 (Or.inr rfl)) (fun _ => place 0 (Or.inl rfl))) (fun _ => ?_)
  refine ht_if (fun _ => ht_if (fun _ => pair 1) (fun _ => pair 0)) (fun _ => ?_)
  refine ht_if (fun _ => ht_if (fun _ => pair 1) (fun _ => pair 0)) (fun _ => ?_)
  refine ht_if (fun _ => ?_) (fun _ => ?_)
  · refine ht_bd (ht_rc top ?_)
    refine ht_bd ?_
    unfold F_X10_addRepeated F_X10_addRepeated_19 F_X10_addRepeated_47
    refine ht_bd (ht_ga top (x := some 14) rfl ?_)
    refine ht_bd (ht_rc hn ?_)
    refine ht_bd (k_find W.1 fun r hr => ?_)
    refine ht_if (fun _ => ht_ret (ht_ret (q0 _))) (fun hne => ?_)
    obtain ⟨a, rfl⟩ := Option.ne_none_iff_exists'.mp hne
    refine ht_if (fun h0 => ?_) (fun _ => ht_ret (ht_ret (q0 _)))
    have h0 : (0 : Int32).toInt ≤ p2.toInt := i_le.mp h0
    refine ht_bd (ht_ga top (x := some 14) rfl ?_)
    refine ht_bd (ht_rc hn ?_)
    refine ht_bd (full fun x => ?_)
    refine ht_if (fun _ => ?_) (fun _ => ht_ret (ht_ret (q0 _)))
    refine ht_bd (ht_ga top (x := some 14) rfl ?_)
    refine ht_bd (ht_rc hn ?_)
    refine ht_bd (k_addRepeated W (hr a rfl) h0 fun y D' M' W' hD => ?_)
    exact ht_ret (ht_ret (q _ _ _ W' (by omega)))
  refine ht_if (fun _ => ?_) (fun _ => ht_ret (q0 _))
  refine ht_bd (ht_ga top (x := some 14) rfl ?_)
  refine ht_bd (ht_rc hn ?_)
  refine ht_bd (full fun x => ?_)
  refine ht_if (fun _ => ?_) (fun _ => ht_ret (q0 _))
  refine ht_bd (ht_ga top (x := some 14) rfl ?_)
  refine ht_bd (ht_rc hn ?_)
  refine ht_bd (k_addNothing W fun y D' M' W' hD => ?_)
  exact ht_ret (q _ _ _ W' (by omega))
end EP
