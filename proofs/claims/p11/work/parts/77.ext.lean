/-! NEW CELLS -/
section EX
variable {g : Nat → zC} {D : List Nat} {M : zM}
theorem gB_ext {a t : Nat} {T : List Nat} (h : (gB ++ D)[a]? = some t) : (gB ++ (D ++ T))[a]? = some t := by
  rw [← List.append_assoc, List.getElem?_append_left (List.getElem?_eq_some_iff.mp h).1]
  exact h
theorem gB_new {k : Nat} {T : List Nat} : (gB ++ (D ++ T))[(gB ++ D).length + k]? = T[k]? := by
  rw [← List.append_assoc, List.getElem?_append_right (by omega), Nat.add_sub_cancel_left]
theorem okc_ext {t : Nat} {T : List Nat} {c : zC} (h : okc g D t c) : okc g (D ++ T) t c := by
  by_cases e15 : t = 15
  · subst e15
    obtain ⟨es, h1, h2, h3⟩ := h
    exact ⟨es, h1, h2, fun a ha => gB_ext (h3 a ha)⟩
  by_cases e17 : t = 17
  · subst e17
    obtain ⟨k, x, y, e, u, w, z, h1, h2, h3, h4, h5⟩ := h
    exact ⟨k, x, y, e, u, w, z, h1, h2, h3, h4, fun a ha => gB_ext (h5 a ha)⟩
  by_cases e101 : t = 101
  · subst e101
    obtain ⟨ps, h1, h2, h3⟩ := h
    exact ⟨ps, h1, h2, fun a ha => gB_ext (h3 a ha)⟩
  by_cases e103 : t = 103
  · subst e103
    obtain ⟨w, pl, bg, o, i, r, h1, h2, h3, h4⟩ := h
    exact ⟨w, pl, bg, o, i, r, h1, h2, gB_ext h3, gB_ext h4⟩
  have e : okc g D t = okc g (D ++ T) t := by
    unfold okc
    split <;> first | rfl | contradiction
  rw [← e]
  exact h
/-- typed, and no cell untyped -/
def WX (g : Nat → zC) (D : List Nat) (M : zM) : Prop := WT g D M ∧ (gB ++ D).length = M.length
/-- cells that were made and are finished now -/
theorem WX.fin (W : WT g D M) {T : List Nat} (hl : (gB ++ D).length + T.length = M.length) (h : ∀ (k t : Nat), T[k]? = some t → 100 ≤ t ∧ ∃ c, M[(gB ++ D).length + k]? = some c ∧ okc g (D ++ T) t c) : WX g (D ++ T) M := by
  have hlen : (gB ++ (D ++ T)).length = M.length := by
    rw [← List.append_assoc, List.length_append]; exact hl
  refine ⟨⟨Nat.le_of_eq hlen, fun i s hi => ?_⟩, hlen⟩
  by_cases h' : i < (gB ++ D).length
  · have hi' : (gB ++ D)[i]? = some s := by rw [← List.append_assoc, List.getElem?_append_left h'] at hi; exact hi
    obtain ⟨c', h1, h2⟩ := (W.2 i s hi').2
    exact ⟨(W.2 i s hi').1, c', h1, okc_ext h2⟩
  · obtain ⟨k, rfl⟩ : ∃ k, i = (gB ++ D).length + k := ⟨i - (gB ++ D).length, by omega⟩
    rw [gB_new] at hi
    obtain ⟨h1, h2⟩ := h k s hi
    exact ⟨Or.inr (Or.inr (Or.inr h1)), h2⟩
theorem WX.add (W : WX g D M) {t : Nat} {c : zC} (hc : okc g (D ++ [t]) t c) (ht : 100 ≤ t := by decide) : WX g (D ++ [t]) (M ++ [c]) := by
  refine WX.fin W.1.app (by rw [W.2]; simp) (fun k s hk => ?_)
  match k, hk with
  | 0, hk => cases hk; exact ⟨ht, c, by rw [W.2]; exact z_gn, hc⟩
  | k + 1, hk => simp at hk
theorem pBags_rep {n : Nat} (h : n ≤ 525) : pBags (.inl (0, List.replicate n (.int 0))) := ⟨List.replicate n 0, by rw [List.map_replicate], by rw [List.length_replicate]; exact h⟩
theorem lt_of_tag {a t : Nat} (h : (gB ++ D)[a]? = some t) : a < (gB ++ D).length := (List.getElem?_eq_some_iff.mp h).1
theorem ge2_of_len : 2 ≤ (gB ++ D).length := by
  have : gB.length = 69 := by decide +kernel
  rw [List.length_append]; omega
abbrev e_new : zC := .inr (3, [.int 0, .null, .null, .int 0, .int 0, .int 0])
abbrev e_ob (p : Int32) (pl bg : Nat) (o i r : Int32) : zC := .inr (3, [.int p, .ref pl, .ref bg, .int o, .int i, .int r])
/-- an expression's making -/
theorem k_einit (W : WT g D M) {a pl bg : Nat} {p : Int32} (hp : p = 0 ∨ p = 1) (ha : (gB ++ D).length ≤ a) (hpl : (gB ++ D)[pl]? = some 101) {v0 v1 v2 v3 v4 v5 : Value} (hA : M[a]? = some (.inr (3, [v0, v1, v2, v3, v4, v5]))) {Q : Unit → zM → Prop} (q : ∀ o i r : Int32, Q () (M.set a (.inr (3, [.int p, .ref pl, .ref bg, .int o, .int i, .int r])))) : z_T (F_X3_init a p (some pl) (some bg)) M Q := by
  have h2 : z_g0 ≤ a := Nat.le_trans ge2_of_len ha
  unfold F_X3_init
  refine ht_bd (ht_ck hp ?_)
  refine ht_bd (ht_pf h2 hA (by simp) ?_)
  refine ht_bd (ht_pf h2 (z_gs hA) (by simp) ?_)
  rw [List.set_set]
  refine ht_bd (ht_pf h2 (z_gs hA) (by simp) ?_)
  rw [List.set_set]
  show z_T _ (M.set a (.inr (3, [.int p, .ref pl, .ref bg, v3, v4, v5]))) Q
  have WN := W.far (c' := .inr (3, [.int p, .ref pl, .ref bg, v3, v4, v5])) ha
  have hN : (M.set a (.inr (3, [.int p, .ref pl, .ref bg, v3, v4, v5])))[a]? = _ := z_gs hA
  have q' : ∀ o i r : Int32, Q () ((M.set a (.inr (3, [.int p, .ref pl, .ref bg, v3, v4, v5]))).set a (.inr (3, [.int p, .ref pl, .ref bg, .int o, .int i, .int r]))) := fun o i r => by rw [List.set_set]; exact q o i r
  generalize (M.set a (.inr (3, [.int p, .ref pl, .ref bg, v3, v4, v5]))) = N at WN hN q'
  obtain ⟨ps, hP, hl, hps⟩ := WN.places hpl
  unfold F_X3_init_31
  refine ht_fix (body := fun ih s => B_X3_init_31 a (fun y0 y1 y2 y3 y4 => ih (y0, y1, y2, y3, y4)) s.1 s.2.1 s.2.2.1 s.2.2.2.1 s.2.2.2.2) (I := fun n st M' => M' = N ∧ ∃ o i r x : Int32, st = (some pl, o, i, r, x) ∧ 0 ≤ x.toInt ∧ x.toInt + n = 5) ?_ z_N 5 _ N (by decide) ⟨rfl, 0, 0, 0, 0, rfl, by decide, by decide⟩
  intro n st M' ih hI hih
  obtain ⟨rfl, o, i, r, x, rfl, hx, hn⟩ := hI
  unfold B_X3_init_31
  dsimp only
  refine ht_bd (ht_len hP ?_)
  rw [List.length_map]
  have el := n_ti (n := ps.length) (by omega)
  refine ht_if (fun _ => ?_) (fun h => ?_)
  · refine ht_bd (ht_pf h2 hN (by simp) ?_)
    refine ht_bd (ht_pf h2 (z_gs hN) (by simp) ?_)
    rw [List.set_set]
    refine ht_bd (ht_pf h2 (z_gs hN) (by simp) ?_)
    rw [List.set_set]
    exact ht_ret (q' o i r)
  · have h : x.toInt < (Int32.ofNat ps.length).toInt := i_nle.mp h
    have e1 := i_s (a := x) (by omega)
    refine ht_bd (rp_la (by decide) hP hx (by omega) fun b hb => ?_)
    obtain ⟨n1, o1, l1, s1, hB, -⟩ := WN.place (hps b hb)
    have nx : ∀ o i r : Int32, z_T (ih (some pl, o, i, r, x + 1)) M' Q := fun o i r => hih (n - 1) _ _ (by omega) ⟨rfl, o, i, r, x + 1, rfl, by omega, by omega⟩
    unfold F_X3_init_65 F_X3_init_89 F_X3_init_114
    have f89 : ∀ (u o i r s0 s1 : Int32), z_T (z_bd (z_ret (s0 ||| s1)) fun x12 => z_bd (z_gi (some b) 7 3) fun x13 => if x13 = (-1) then (z_bd (z_ret (r ||| 0)) fun x16 => ih (some pl, o, x12, x16, x + 1)) else (z_bd (z_gi (some b) 7 3) fun x15 => z_bd (z_ret (r ||| ((1 : Int32) <<< (x15 &&& 31)))) fun x16 => ih (some pl, o, x12, x16, x + 1))) M' Q := by
      intro u o i r s0 s1
      refine ht_bd (ht_ret ?_)
      refine ht_bd (ht_gi hB rfl ?_)
      refine ht_if (fun _ => ht_bd (ht_ret (nx _ _ _))) (fun _ => ?_)
      refine ht_bd (ht_gi hB rfl ?_)
      exact ht_bd (ht_ret (nx _ _ _))
    have f65 : ∀ (s0 s1 : Int32), z_T (z_bd (z_ret (s0 ||| s1)) fun x8 => z_bd (z_gi (some b) 7 1) fun x9 => if x9 = 0 then (z_bd (z_gi (some b) 7 2) fun x11 => z_bd (z_ret (i ||| ((1 : Int32) <<< (x11 &&& 31)))) fun x12 => z_bd (z_gi (some b) 7 3) fun x13 => if x13 = (-1) then (z_bd (z_ret (r ||| 0)) fun x16 => ih (some pl, x8, x12, x16, x + 1)) else (z_bd (z_gi (some b) 7 3) fun x15 => z_bd (z_ret (r ||| ((1 : Int32) <<< (x15 &&& 31)))) fun x16 => ih (some pl, x8, x12, x16, x + 1))) else (z_bd (z_ret (i ||| 0)) fun x12 => z_bd (z_gi (some b) 7 3) fun x13 => if x13 = (-1) then (z_bd (z_ret (r ||| 0)) fun x16 => ih (some pl, x8, x12, x16, x + 1)) else (z_bd (z_gi (some b) 7 3) fun x15 => z_bd (z_ret (r ||| ((1 : Int32) <<< (x15 &&& 31)))) fun x16 => ih (some pl, x8, x12, x16, x + 1)))) M' Q := by
      intro s0 s1
      refine ht_bd (ht_ret ?_)
      refine ht_bd (ht_gi hB rfl ?_)
      refine ht_if (fun _ => ?_) (fun _ => f89 0 _ i r i 0)
      refine ht_bd (ht_gi hB rfl ?_)
      exact f89 0 _ i r i _
    refine ht_bd (ht_gi hB rfl ?_)
    refine ht_if (fun _ => f65 o 0) (fun _ => ?_)
    refine ht_bd (ht_gi hB rfl ?_)
    exact f65 o _
theorem k_keep (W : WX g D M) {pl bg : Nat} {p : Int32} (hp : p = 0 ∨ p = 1) (hpl : (gB ++ D)[pl]? = some 101) (hbg : (gB ++ D)[bg]? = some 102) {Q : Int32 → zM → Prop} (q : ∀ x D' M', WX g D' M' → D'.length ≤ D.length + 1 → Q x M') : z_T (F_X4_keep 14 p (some pl) (some bg)) M Q := by
  unfold F_X4_keep
  obtain ⟨c, hc, n, rfl, hn⟩ := W.1.get (a := 14) (t := 14) rfl
  refine ht_bd (ht_rc hc ?_)
  refine ht_bd ?_
  unfold F_X4_isFull F_X4_isFull_14
  rw [z_rb0, z_rb1]
  refine ht_bd (ht_gi hc rfl ?_)
  refine ht_if (fun h => ?_) (fun _ => ?_)
  · refine ht_ret ?_
    rw [if_pos rfl]
    have h : n.toInt < (60 : Int32).toInt := i_lt.mp h
    have e60 : (60 : Int32).toInt = 60 := rfl
    have hn0 := hn.1
    refine ht_bd (ht_ga hc (x := some 15) rfl ?_)
    refine ht_bd (ht_gi hc rfl ?_)
    refine ht_bd (ht_nw ?_)
    have W1 := W.1.app (c' := .inr (3, [.int 0, .null, .null, .int 0, .int 0, .int 0]))
    refine ht_bd (k_einit W1 hp (Nat.le_of_eq W.2) hpl z_gn fun o i r => ?_)
    have W2 : WX g (D ++ [103]) (List.set (M ++ [e_new]) M.length (e_ob p pl bg o i r)) := by
      refine WX.fin (W1.far (Nat.le_of_eq W.2)) (by rw [W.2]; simp) (fun k s hk => ?_)
      match k, hk with
      | 0, hk =>
        cases hk
        refine ⟨by decide, .inr (3, [.int p, .ref pl, .ref bg, .int o, .int i, .int r]), by rw [W.2]; exact z_gs z_gn, ?_⟩
        refine ⟨p, pl, bg, o, i, r, rfl, ?_, gB_ext hpl, gB_ext hbg⟩
        rcases hp with rfl | rfl <;> exact ⟨by decide, by decide⟩
      | k + 1, hk => simp at hk
    have hA : (List.set (M ++ [e_new]) M.length (e_ob p pl bg o i r))[M.length]? = some (.inr (3, [.int p, .ref pl, .ref bg, .int o, .int i, .int r])) := z_gs z_gn
    have hT : (gB ++ (D ++ [103]))[M.length]? = some 103 := by rw [← W.2]; exact gB_new (k := 0)
    have hc2 : (List.set (M ++ [e_new]) M.length (e_ob p pl bg o i r))[14]? = some (.inr (4, [.ref 15, .ref 3, .int n])) := by
      have : 14 < M.length := (List.getElem?_eq_some_iff.mp hc).1
      rw [z_go (by omega)]
      exact z_gp hc
    show z_T _ (List.set (M ++ [e_new]) M.length (e_ob p pl bg o i r)) Q
    generalize List.set (M ++ [e_new]) M.length (e_ob p pl bg o i r) = M2 at W2 hA hc2
    obtain ⟨c15, hc15, es, rfl, hl, hes⟩ := W2.1.get (a := 15) (t := 15) rfl
    have hi : n.toNatClampNeg < es.length := by show n.toInt.toNat < _; omega
    refine ht_bd (ht_sa (k := 11) (by decide) hc15 (by decide) (fun e => by have := Int32.lt_iff_toInt_lt.mp e; have := i0; omega) (by rw [List.length_map]; exact hi) (Or.inr (by rw [z_ob_eq hA]; rfl)) ?_)
    have W3 : WX g (D ++ [103]) (M2.set 15 (.inl (11, (es.map va_rf).set n.toNatClampNeg (va_rf (some M.length))))) := by
      refine ⟨W2.1.set (a := 15) (t := 15) rfl ⟨es.set n.toNatClampNeg (some M.length), by rw [List.map_set], by simpa using hl, fun a ha => ?_⟩, by rw [W2.2]; simp⟩
      rcases List.mem_or_eq_of_mem_set ha with e | e
      · exact hes a e
      · cases e; exact hT
    have hc3 : (M2.set 15 (.inl (11, (es.map va_rf).set n.toNatClampNeg (va_rf (some M.length)))))[14]? = some (.inr (4, [.ref 15, .ref 3, .int n])) := by rw [z_go (by decide)]; exact hc2
    generalize M2.set 15 _ = M3 at W3 hc3
    refine ht_bd (ht_gi hc3 rfl ?_)
    refine ht_bd (ht_pf (by decide) hc3 (by simp) ?_)
    have e1 := i_s (a := n) (by omega)
    have W4 : WX g (D ++ [103]) (M3.set 14 (.inr (4, [.ref 15, .ref 3, .int (n + 1)]))) := ⟨W3.1.set (a := 14) (t := 14) rfl ⟨n + 1, rfl, by omega, by omega⟩, by rw [W3.2]; simp⟩
    have hc4 : (M3.set 14 (.inr (4, [.ref 15, .ref 3, .int (n + 1)])))[14]? = some (.inr (4, [.ref 15, .ref 3, .int (n + 1)])) := z_gs hc3
    refine ht_bd (ht_gi hc4 (x := n + 1) rfl ?_)
    exact ht_ret (q _ _ _ W4 (by simp))
  · refine ht_ret ?_
    rw [if_neg (by decide)]
    exact ht_ret (q _ _ _ W (by omega))
end EX
