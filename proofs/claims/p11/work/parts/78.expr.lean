/-! EXPRESSIONS -/
section XP
variable {g : Nat → zC} {D : List Nat} {M : zM}
theorem WX.c14 (W : WX g D M) : ∃ n : Int32, M[14]? = some (.inr (4, [.ref 15, .ref 3, .int n])) ∧ rg 0 60 n := by
  obtain ⟨c, hc, n, rfl, hn⟩ := W.1.get (a := 14) (t := 14) rfl
  exact ⟨n, hc, hn⟩
theorem WX.tn (W : WX g D M) {t : Nat} {T : List Nat} : (gB ++ (D ++ (t :: T)))[M.length]? = some t := by
  rw [← W.2]; exact gB_new (k := 0)
theorem WX.set (W : WX g D M) {a t : Nat} {c' : zC} (h : (gB ++ D)[a]? = some t) (hc : okc g D t c') : WX g D (M.set a c') := ⟨W.1.set h hc, by rw [W.2]; simp⟩
theorem k_keepWide (W : WX g D M) {Q : Int32 → zM → Prop} (q : ∀ x D' M', WX g D' M' → D'.length ≤ D.length + 3 → Q x M') : z_T (F_X4_keepWide 14) M Q := by
  unfold F_X4_keepWide
  refine ht_bd (ht_nwa (by decide) (by decide) ?_)
  have W1 := W.add (t := 101) (c := .inl (15, List.replicate (Int32.toNatClampNeg 0) .null)) ⟨[], rfl, by decide, fun a h => by simp at h⟩
  refine ht_bd (ht_nwa (by decide) (by decide) ?_)
  have W2 := W1.add (t := 102) (c := .inl (0, List.replicate (Int32.toNatClampNeg 0) (.int 0))) (pBags_rep (by decide))
  obtain ⟨n, hn, -⟩ := W2.c14
  refine ht_bd (ht_rc hn ?_)
  refine ht_bd (k_keep W2 (Or.inr rfl) (gB_ext W.tn) W1.tn fun x D' M' W' hD => ?_)
  exact ht_ret (q _ _ _ W' (by simp only [List.length_append, List.length_cons, List.length_nil] at hD; omega))
theorem k_addNothing (W : WX g D M) {Q : Int32 → zM → Prop} (q : ∀ x D' M', WX g D' M' → D'.length ≤ D.length + 3 → Q x M') : z_T (F_X4_addNothing 14) M Q := by
  unfold F_X4_addNothing
  refine ht_bd (ht_nwa (by decide) (by decide) ?_)
  have W1 := W.add (t := 102) (c := .inl (0, List.replicate (Int32.toNatClampNeg 1) (.int 0))) (pBags_rep (by decide))
  refine ht_bd (ht_si (Nat.le_trans ge2_of_len (Nat.le_of_eq W.2)) z_gn (by decide) (by decide) ?_)
  have W1 := W1.set (c' := .inl (0, (List.replicate (Int32.toNatClampNeg 1) (Value.int 0)).set (Int32.toNatClampNeg 0) (.int 0))) W.tn ⟨[0], rfl, by decide⟩
  generalize List.set (M ++ [.inl (0, List.replicate (Int32.toNatClampNeg 1) (.int 0))]) M.length (.inl (0, (List.replicate (Int32.toNatClampNeg 1) (Value.int 0)).set (Int32.toNatClampNeg 0) (.int 0))) = M1 at W1 ⊢
  refine ht_bd (ht_nwa (by decide) (by decide) ?_)
  have W2 := W1.add (t := 101) (c := .inl (15, List.replicate (Int32.toNatClampNeg 0) .null)) ⟨[], rfl, by decide, fun a h => by simp at h⟩
  obtain ⟨n, hn, -⟩ := W2.c14
  refine ht_bd (ht_rc hn ?_)
  refine ht_bd (k_keep W2 (Or.inl rfl) W1.tn (gB_ext W.tn) fun x D' M' W' hD => ?_)
  exact ht_ret (q _ _ _ W' (by simp only [List.length_append, List.length_cons, List.length_nil] at hD; omega))
theorem k_addPlace (W : WX g D M) {o l s : Int32} (ho : o = 0 ∨ o = 1) (hl : rg 0 7 l) (hs : rg (-1) 15 s) {Q : Int32 → zM → Prop} (q : ∀ x D' M', WX g D' M' → D'.length ≤ D.length + 4 → Q x M') : z_T (F_X4_addPlace 14 o l s) M Q := by
  unfold F_X4_addPlace
  have h2 : z_g0 ≤ M.length := Nat.le_trans ge2_of_len (Nat.le_of_eq W.2)
  have h2' : z_g0 ≤ M.length + 1 := Nat.le_succ_of_le h2
  refine ht_bd (ht_nwa (by decide) (by decide) ?_)
  refine ht_bd (ht_nw ?_)
  have W1 := (W.1.app (c' := .inl (15, List.replicate (Int32.toNatClampNeg 1) .null))).app (c' := .inr (7, [.int 0, .int 0, .int 0, .int 0]))
  have hA : ((M ++ [.inl (15, List.replicate (Int32.toNatClampNeg 1) .null)]) ++ [.inr (7, [.int 0, .int 0, .int 0, .int 0])] : zM)[M.length]? = some (.inl (15, List.replicate (Int32.toNatClampNeg 1) .null)) := z_gp z_gn
  have hB : ((M ++ [.inl (15, List.replicate (Int32.toNatClampNeg 1) .null)]) ++ [.inr (7, [.int 0, .int 0, .int 0, .int 0])] : zM)[M.length + 1]? = some (.inr (7, [.int 0, .int 0, .int 0, .int 0])) := by
    have : M.length + 1 = (M ++ [.inl (15, List.replicate (Int32.toNatClampNeg 1) .null)] : zM).length := by simp
    rw [this]; exact z_gn
  have hLn : ((M ++ [.inl (15, List.replicate (Int32.toNatClampNeg 1) .null)]) ++ [.inr (7, [.int 0, .int 0, .int 0, .int 0])] : zM).length = M.length + 2 := by simp
  rw [show (M ++ [.inl (15, List.replicate (Int32.toNatClampNeg 1) .null)] : zM).length = M.length + 1 by simp]
  generalize ((M ++ [.inl (15, List.replicate (Int32.toNatClampNeg 1) .null)]) ++ [.inr (7, [.int 0, .int 0, .int 0, .int 0])] : zM) = M1 at W1 hA hB hLn ⊢
  obtain ⟨c, hc, n, rfl, hn⟩ := W1.get (a := 14) (t := 14) rfl
  refine ht_bd (ht_gi hc rfl ?_)
  refine ht_bd ?_
  unfold F_X7_init
  refine ht_bd (ht_pf h2' hB (by simp) ?_)
  refine ht_bd (ht_ck ho ?_)
  refine ht_bd (ht_pf h2' (z_gs hB) (by simp) ?_)
  rw [List.set_set]
  refine ht_bd (ht_pf h2' (z_gs hB) (by simp) ?_)
  rw [List.set_set]
  refine ht_bd (ht_pf h2' (z_gs hB) (by simp) ?_)
  rw [List.set_set]
  refine ht_ret ?_
  show z_T _ (M1.set (M.length + 1) (.inr (7, [.int n, .int o, .int l, .int s]))) Q
  have W2 := W1.far (a := M.length + 1) (c' := .inr (7, [.int n, .int o, .int l, .int s])) (by rw [W.2]; omega)
  have hA2 : (M1.set (M.length + 1) (.inr (7, [.int n, .int o, .int l, .int s])))[M.length]? = some (.inl (15, List.replicate (Int32.toNatClampNeg 1) .null)) := by rw [z_go (by omega)]; exact hA
  have hB2 : (M1.set (M.length + 1) (.inr (7, [.int n, .int o, .int l, .int s])))[M.length + 1]? = some (.inr (7, [.int n, .int o, .int l, .int s])) := z_gs hB
  have hL2 : (M1.set (M.length + 1) (.inr (7, [.int n, .int o, .int l, .int s]))).length = M.length + 2 := by rw [List.length_set]; exact hLn
  generalize M1.set (M.length + 1) (.inr (7, [.int n, .int o, .int l, .int s])) = M2 at W2 hA2 hB2 hL2 ⊢
  refine ht_bd (ht_sa (k := 15) h2 hA2 (by decide) (by decide) (by decide) (Or.inr (by rw [z_ob_eq hB2]; rfl)) ?_)
  have W3 : WX g (D ++ [101, 100]) (M2.set M.length (.inl (15, (List.replicate (Int32.toNatClampNeg 1) Value.null).set (Int32.toNatClampNeg 0) (va_rf (some (M.length + 1)))))) := by
    refine WX.fin (W2.far (by rw [W.2]; omega)) (by rw [W.2, List.length_set, hL2]; rfl) (fun k t hk => ?_)
    match k, hk with
    | 0, hk =>
      cases hk
      refine ⟨by decide, _, by rw [W.2]; exact z_gs hA2, [M.length + 1], rfl, by simp, fun a ha => ?_⟩
      rw [List.mem_singleton.mp ha, ← W.2]
      exact gB_new (k := 1)
    | 1, hk =>
      cases hk
      refine ⟨by decide, _, by rw [W.2, z_go (by omega)]; exact hB2, n, o, l, s, rfl, ?_, hl, hs⟩
      rcases ho with rfl | rfl <;> exact ⟨by decide, by decide⟩
    | k + 2, hk => simp at hk
  have t1 : (gB ++ (D ++ [101, 100]))[M.length]? = some 101 := W.tn
  generalize M2.set M.length (.inl (15, (List.replicate (Int32.toNatClampNeg 1) Value.null).set (Int32.toNatClampNeg 0) (va_rf (some (M.length + 1))))) = M3 at W3 ⊢
  refine ht_bd (ht_nwa (by decide) (by decide) ?_)
  have W4 := W3.add (t := 102) (c := .inl (0, List.replicate (Int32.toNatClampNeg 1) (.int 0))) (pBags_rep (by decide))
  refine ht_bd (k_ofOne W4.1 fun b => ?_)
  refine ht_bd (ht_si (Nat.le_trans ge2_of_len (Nat.le_of_eq W3.2)) z_gn (by decide) (by decide) ?_)
  have W5 := W4.set (c' := .inl (0, (List.replicate (Int32.toNatClampNeg 1) (Value.int 0)).set (Int32.toNatClampNeg 0) (.int b))) W3.tn ⟨[b], rfl, by simp⟩
  obtain ⟨n5, hn5, -⟩ := W5.c14
  refine ht_bd (ht_rc hn5 ?_)
  refine ht_bd (k_keep W5 (Or.inl rfl) (gB_ext t1) W3.tn fun x D' M' W' hD => ?_)
  exact ht_ret (q _ _ _ W' (by simp only [List.length_append, List.length_cons, List.length_nil] at hD; omega))
/-! copies -/
theorem ht_ia {a : Nat} {vs : List Value} {Q : List Value → zM → Prop} (h : M[a]? = some (.inl (0, vs))) (hv : vs.all z_isI = true) (q : Q vs M) : z_T (z_ia (some a)) M Q := ht_rd (x := vs) (by rw [z_ar_eq h, Option.bind_some, if_pos ⟨rfl, hv⟩]) q
theorem isI_map {ws : List Int32} : (ws.map Value.int).all z_isI = true := by
  rw [List.all_eq_true]
  intro v hv
  obtain ⟨w, -, rfl⟩ := List.mem_map.mp hv
  rfl
theorem ht_cp {a b : Nat} {vs us : List Value} {n : Int32} {Q : Unit → zM → Prop} (hb : z_g0 ≤ b) (h : M[a]? = some (.inl (0, vs))) (h' : M[b]? = some (.inl (0, us))) (hv : vs.all z_isI = true) (hn : ¬ n < 0) (h1 : n.toNatClampNeg ≤ vs.length) (h2 : n.toNatClampNeg ≤ us.length) (q : Q () (M.set b (.inl (0, vs.take n.toNatClampNeg ++ us.drop n.toNatClampNeg)))) : z_T (z_cp (some a) (some b) n) M Q := ht_wr (a := b) (c := .inl (0, us)) (c' := .inl (0, vs.take n.toNatClampNeg ++ us.drop n.toNatClampNeg)) (by rw [Option.bind_some, z_ar_eq h, Option.bind_some, z_ar_eq h', Option.bind_some, if_pos ⟨⟨rfl, rfl, hv⟩, hn, h1, h2⟩]) h' (by simp [zn]; omega) hb q
theorem k_copyOf (W : WX g D M) {p : Int32} (hp : rg 0 525 p) {Q : Option Nat → zM → Prop} (q : ∀ M', WX g (D ++ [102]) M' → Q (some M.length) M') : z_T (F_J7_copyOf_59c91 (some 5) p) M Q := by
  unfold F_J7_copyOf_59c91
  obtain ⟨c, hc, ws, rfl, hl, -⟩ := W.1.ar (a := 5) (t := 5) rfl rfl
  have hp0 := hp.1
  have hp1 := hp.2
  have h2 : z_g0 ≤ M.length := Nat.le_trans ge2_of_len (Nat.le_of_eq W.2)
  have h5 : 5 < M.length := (List.getElem?_eq_some_iff.mp hc).1
  refine ht_bd (ht_len hc ?_)
  refine ht_if (fun _ => ?_) (fun _ => ?_)
  · refine ht_bd (ht_ia hc isI_map ?_)
    refine ht_bd (ht_nw ?_)
    refine ht_bd (ht_ia z_gn isI_map ?_)
    exact ht_ret (q _ (W.add ⟨ws, rfl, by omega⟩))
  · have hcl : p.toNatClampNeg ≤ 525 := by show p.toInt.toNat ≤ 525; omega
    refine ht_bd (ht_nwa (fun e => by have := Int32.lt_iff_toInt_lt.mp e; have := i0; omega) (by omega) ?_)
    refine ht_bd (ht_len (z_gp hc) ?_)
    rw [List.length_map, hl]
    have hmin : (if p < (Int32.ofNat 525) then p else Int32.ofNat 525) = p := by
      split
      · rfl
      · rename_i h
        have h : (Int32.ofNat 525).toInt ≤ p.toInt := i_nlt.mp h
        have e5 : (Int32.ofNat 525).toInt = 525 := rfl
        exact Int32.toInt_inj.mp (by omega)
    rw [hmin]
    refine ht_bd (ht_cp h2 (z_gp hc) z_gn isI_map (fun e => by have := Int32.lt_iff_toInt_lt.mp e; have := i0; omega) (by rw [List.length_map]; omega) (by rw [List.length_replicate]; omega) ?_)
    have W1 := W.add (t := 102) (c := .inl (0, List.replicate p.toNatClampNeg (.int 0))) (pBags_rep hcl)
    refine ht_ret (q _ (W1.set W.tn ⟨ws.take p.toNatClampNeg ++ (List.replicate p.toNatClampNeg 0).drop p.toNatClampNeg, ?_, ?_⟩))
    · rw [List.map_append, List.map_take, List.map_drop, List.map_replicate]
    · simp; omega
end XP
