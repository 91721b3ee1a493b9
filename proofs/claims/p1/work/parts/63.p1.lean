/-! one call: the loop's two turns -/
theorem x_g0 {x : zMn Int32} {v : Int32} {n : Nat} (hg : z_Gw 0 n x) (hn : n ≤ 100) (_ : True) (h : z_T x fr_1 fun a _ => a = v) : z_T x fr_1 fun a P => a = v ∧ P.length ≤ 69 + 0 ∧ zsz P ≤ zsz fr_1 + 100 := (ht_gw hg h).mono fun a P hq => ⟨hq.1, by have := hq.2.1; rw [fr_1l] at this; omega, by have := hq.2.2; omega⟩
theorem x_other (p0 p1 p2 : Int32) : z_T (F_X10_otherT 2 p0 p1 p2) fr_1 fun _ _ => True := by
  unfold F_X10_otherT
  rw [e_n10]
  have hthr : z_T z_thr fr_1 fun _ _ => True := ht_bd (ht_nw (ht_ret trivial))
  refine ht_bd (ht_ret (ht_if (fun _ => hthr) (fun h0 => ?_)))
  obtain ⟨n, hn, rfl⟩ := g_in_ok (N := 16) (by decide) h0
  unfold F_X10_otherT_38 F_X10_otherT_54
  refine ht_if (fun _ => ?_) (fun _ => ?_)
  · refine ht_bd (ht_ga rfl (x := some 7) rfl ?_)
    refine ht_bd (ht_ga rfl (x := some 11) rfl ?_)
    refine ht_if (fun _ => hthr) (fun h1 => ?_)
    refine ht_bd (ht_rc rfl ?_)
    refine ht_bd ?_
    unfold F_X0_count
    refine ht_bd (ht_ga rfl (x := some 13) rfl ?_)
    refine ht_bd (ht_li (x := 0) rfl (by decide) (n_nn (by omega)) (g_rp hn (by decide)) ?_)
    refine ht_ret ?_
    rw [if_neg h1]
    exact hthr
  · refine ht_bd (ht_ga rfl (x := some 7) rfl ?_)
    refine ht_bd (ht_ga rfl (x := some 8) rfl ?_)
    refine ht_if (fun _ => hthr) (fun h1 => ?_)
    refine ht_bd (ht_rc rfl ?_)
    refine ht_bd ?_
    unfold F_X0_count
    refine ht_bd (ht_ga rfl (x := some 10) rfl ?_)
    refine ht_bd (ht_li (x := 0) rfl (by decide) (n_nn (by omega)) (g_rp hn (by decide)) ?_)
    refine ht_ret ?_
    rw [if_neg h1]
    exact hthr
/-- where a program has no answer -/
theorem hf_T {α β : Type} {x : zMn α} {f : α → zMn β} {M : zM} {P : α → zM → Prop} (h : z_T x M P) (k : ∀ a M', P a M' → (f a).1 M' = none) : (z_bd x f).1 M = none := by
  obtain ⟨⟨a, M'⟩, h1, h2⟩ := h
  rw [z_bd_eq h1]
  exact k a M' h2
theorem hf_n {α β : Type} {x : zMn α} {f : α → zMn β} {M : zM} (h : x.1 M = none) : (z_bd x f).1 M = none := by
  show (x.1 M).bind _ = none
  rw [h]; rfl
theorem hf_38 {M : zM} {n a ak ac : Nat} {p : Int32} (hn : n < 16) (h : M[a]? = some (.inr (1, [.ref ak, .ref ac]))) (hc : M[ac]? = some (.inl (0, List.replicate (Int32.toNatClampNeg 16) (.int 0)))) : (F_X10_other_38 2 (Int32.ofNat n) p (some a)).1 M = none := by
  unfold F_X10_other_38 F_X10_other_54
  by_cases h0 : p < 0
  · rw [if_pos h0]; rfl
  · rw [if_neg h0]
    refine hf_T (ht_rc (Q := fun b M' => b = a ∧ M' = M) h ⟨rfl, rfl⟩) (fun b M' e => ?_)
    obtain ⟨rfl, rfl⟩ := e
    refine hf_T (P := fun x M2 => x = 0 ∧ M2 = M') ?_ (fun x M2 e => ?_)
    · unfold F_X0_count
      refine ht_bd (ht_ga h (x := some ac) rfl ?_)
      refine ht_bd (ht_li (x := 0) hc (by decide) (n_nn (by omega)) (g_rp hn (by decide)) ?_)
      exact ht_ret ⟨rfl, rfl⟩
    · obtain ⟨rfl, rfl⟩ := e
      rw [if_neg h0]; rfl
theorem hf_oth {c0 : zC} {M : zM} (hL : fr_L c0 M) (p0 p1 p2 : Int32) : (F_X10_other 2 p0 p1 p2).1 M = none := by
  have at' : ∀ {i : Nat} {c : zC}, fr_Z[i]? = some c → c ≠ z_psn → M[i]? = some c := fun hi hn => (hL.2.2.2 _ _ hi).resolve_left hn
  unfold F_X10_other
  rw [e_n10]
  show ((if g_in 16 p0 = 0 then z_no else _ : zMn Int32)).1 M = none
  by_cases h0 : g_in 16 p0 = 0
  · rw [if_pos h0]; rfl
  rw [if_neg h0]
  obtain ⟨n, hn, rfl⟩ := g_in_ok (N := 16) (by decide) h0
  have h7 : M[7]? = some (.inr (5, [.ref 8, .ref 11, .int 0])) := at' rfl (fun e => by cases e)
  have h8 : M[8]? = some (.inr (1, [.ref 9, .ref 10])) := at' rfl (fun e => by cases e)
  have h11 : M[11]? = some (.inr (1, [.ref 12, .ref 13])) := at' rfl (fun e => by cases e)
  have h10 : M[10]? = some (.inl (0, List.replicate (Int32.toNatClampNeg 16) (.int 0))) := at' rfl (fun e => by cases e)
  have h13 : M[13]? = some (.inl (0, List.replicate (Int32.toNatClampNeg 16) (.int 0))) := at' rfl (fun e => by cases e)
  by_cases h1 : p1 = 0
  · rw [if_pos h1]
    refine hf_T (ht_ga (Q := fun b M' => b = some 7 ∧ M' = M) (fr_L2 hL) (x := some 7) rfl ⟨rfl, rfl⟩) (fun b M' e => ?_)
    obtain ⟨rfl, rfl⟩ := e
    refine hf_T (ht_ga (Q := fun b M2 => b = some 11 ∧ M2 = M') h7 (x := some 11) rfl ⟨rfl, rfl⟩) (fun b M2 e => ?_)
    obtain ⟨rfl, rfl⟩ := e
    exact hf_38 hn h11 h13
  · rw [if_neg h1]
    refine hf_T (ht_ga (Q := fun b M' => b = some 7 ∧ M' = M) (fr_L2 hL) (x := some 7) rfl ⟨rfl, rfl⟩) (fun b M' e => ?_)
    obtain ⟨rfl, rfl⟩ := e
    refine hf_T (ht_ga (Q := fun b M2 => b = some 8 ∧ M2 = M') h7 (x := some 8) rfl ⟨rfl, rfl⟩) (fun b M2 e => ?_)
    obtain ⟨rfl, rfl⟩ := e
    exact hf_38 hn h8 h10
theorem ht_or2 {α : Type} {x y : zMn α} {M : zM} {Q : α → zM → Prop} (hx : x.1 M = none) (h : z_T y M Q) : z_T (z_or x y) M Q := by
  obtain ⟨r, h1, h2⟩ := h
  refine ⟨r, ?_, h2⟩
  show (match x.1 M with
    | some r => some r
    | none => y.1 M) = some r
  rw [hx]
  exact h1
def fr_Q : Int32 → zM → Prop := fun _ M => M.length ≤ 100 ∧ zsz M ≤ 450000
abbrev fr_c0 (L : Nat) (xs : Nat → Int32) : zC := .inl (1, (List.range L).map fun j => .int (xs j))
theorem z_one1 : z_one 1 = z_ret 1 := by unfold z_one; exact if_pos rfl
theorem fr_short {ih : Option Nat → Option Nat → Option Nat → Option Nat → Int32 → zMn Int32} {L : Nat} {xs : Nat → Int32} {M : zM} {x : Int32} (h0 : M[0]? = some (fr_c0 L xs)) (hx : Int32.ofNat L - 6 < x) (b1 : M.length ≤ 100) (b2 : zsz M ≤ 450000) : z_T (B_L_law_23 ih (some 0) (some 2) (some 42) (some 68) x) M fr_Q := by
  unfold B_L_law_23
  refine ht_bd (ht_len h0 ?_)
  rw [List.length_map, List.length_range, if_pos hx, z_one1]
  exact ht_ret ⟨b1, b2⟩
theorem fr_one {ih : Option Nat → Option Nat → Option Nat → Option Nat → Int32 → zMn Int32} {xs : Nat → Int32} {M : zM} (hfin : ∀ M', M'.length ≤ 100 → zsz M' ≤ 450000 → M'[0]? = some (fr_c0 6 xs) → z_T (ih (some 0) (some 2) (some 42) (some 68) (0 + 6)) M' fr_Q) (hL : fr_L (fr_c0 6 xs) M) : z_T (B_L_law_23 ih (some 0) (some 2) (some 42) (some 68) 0) M fr_Q := by
  have h0 := hL.2.2.1
  have hM2 := fr_L2 hL
  unfold B_L_law_23
  refine ht_bd (ht_len h0 ?_)
  rw [List.length_map, List.length_range, if_neg (by decide)]
  refine ht_bd (ht_li h0 (by decide) (by decide) (x := xs 0) rfl ?_)
  unfold F_L_law_565
  refine ht_if (fun _ => ?_) (fun _ => ?_)
  · refine ht_bd (ht_li h0 (by decide) (by decide) (x := xs 1) rfl ?_)
    refine ht_bd (ht_li h0 (by decide) (by decide) (x := xs 2) rfl ?_)
    refine ht_bd (ht_li h0 (by decide) (by decide) (x := xs 3) rfl ?_)
    refine ht_bd (ht_li h0 (by decide) (by decide) (x := xs 4) rfl ?_)
    refine ht_if (fun h4 => ?_) (fun h4 => ?_)
    · unfold F_L_law_129 F_L_law_165 F_L_law_565
      refine ht_bd (ht_rc hM2 ?_)
      refine fr_x (m_F_X10_arc _ _ _ _ _) (x_g (w_F_X10_arc _ _ _ _ _) (by decide) (by decide) (x_arc _ _ _ _)) hL (fun k a M1 hk ha hK => ?_)
      subst ha
      have h1 := hK.2.2.1
      refine ht_bd (ht_li h1 (by decide) (by decide) (x := xs 1) rfl ?_)
      refine ht_bd (ht_li h1 (by decide) (by decide) (x := xs 2) rfl ?_)
      refine ht_bd (ht_li h1 (by decide) (by decide) (x := xs 3) rfl ?_)
      refine ht_bd (ht_li h1 (by decide) (by decide) (x := xs 4) rfl ?_)
      rw [if_pos h4]
      refine ht_bd (ht_rc (fr_K42 hK) ?_)
      refine fr_y (m_F_X11_arc _ _ _ _ _) (w_F_X11_arc _ _ _ _ _) (y_arc _ _ _ _ _) hk hK (fun a P M2 d ha _ b1 b2 b3 => ?_)
      subst ha
      rw [if_pos rfl]
      exact hfin M2 b1 b2 b3
    · unfold F_L_law_129 F_L_law_165 F_L_law_565
      refine ht_bd (ht_rc hM2 ?_)
      refine fr_x (m_F_X10_arc _ _ _ _ _) (x_g (w_F_X10_arc _ _ _ _ _) (by decide) (by decide) (x_arc _ _ _ _)) hL (fun k a M1 hk ha hK => ?_)
      subst ha
      have h1 := hK.2.2.1
      refine ht_bd (ht_li h1 (by decide) (by decide) (x := xs 1) rfl ?_)
      refine ht_bd (ht_li h1 (by decide) (by decide) (x := xs 2) rfl ?_)
      refine ht_bd (ht_li h1 (by decide) (by decide) (x := xs 3) rfl ?_)
      refine ht_bd (ht_li h1 (by decide) (by decide) (x := xs 4) rfl ?_)
      rw [if_neg h4]
      refine ht_bd (ht_rc (fr_K42 hK) ?_)
      refine fr_y (m_F_X11_arc _ _ _ _ _) (w_F_X11_arc _ _ _ _ _) (y_arc _ _ _ _ _) hk hK (fun a P M2 d ha _ b1 b2 b3 => ?_)
      subst ha
      rw [if_pos rfl]
      exact hfin M2 b1 b2 b3
  refine ht_if (fun _ => ?_) (fun _ => ?_)
  · refine ht_bd (ht_li h0 (by decide) (by decide) (x := xs 1) rfl ?_)
    refine ht_bd (ht_li h0 (by decide) (by decide) (x := xs 2) rfl ?_)
    refine ht_bd (ht_li h0 (by decide) (by decide) (x := xs 3) rfl ?_)
    refine ht_bd (ht_li h0 (by decide) (by decide) (x := xs 4) rfl ?_)
    refine ht_bd (ht_rc hM2 ?_)
    refine fr_x (m_F_X10_expression _ _ _ _ _) (x_exg _ _ _ _) hL (fun k a M1 hk ha hK => ?_)
    subst ha
    have h1 := hK.2.2.1
    refine ht_bd (ht_li h1 (by decide) (by decide) (x := xs 1) rfl ?_)
    refine ht_bd (ht_li h1 (by decide) (by decide) (x := xs 2) rfl ?_)
    refine ht_bd (ht_li h1 (by decide) (by decide) (x := xs 3) rfl ?_)
    refine ht_bd (ht_li h1 (by decide) (by decide) (x := xs 4) rfl ?_)
    refine ht_bd (ht_rc (fr_K42 hK) ?_)
    refine fr_y (m_F_X11_expression _ _ _ _ _) (w_F_X11_expression _ _ _ _ _) (y_ex _ _ _ _ _) hk hK (fun a P M2 d ha _ b1 b2 b3 => ?_)
    subst ha
    rw [if_pos rfl]
    exact hfin M2 b1 b2 b3
  refine ht_if (fun _ => ?_) (fun _ => ?_)
  · refine ht_bd (ht_li h0 (by decide) (by decide) (x := xs 1) rfl ?_)
    refine ht_bd (ht_li h0 (by decide) (by decide) (x := xs 2) rfl ?_)
    refine ht_bd (ht_li h0 (by decide) (by decide) (x := xs 3) rfl ?_)
    refine ht_bd (ht_li h0 (by decide) (by decide) (x := xs 4) rfl ?_)
    refine ht_bd (ht_li h0 (by decide) (by decide) (x := xs 5) rfl ?_)
    refine ht_bd (ht_rc hM2 ?_)
    refine fr_x (m_F_X10_shape _ _ _ _ _ _) (x_g (w_F_X10_shape _ _ _ _ _ _) (by decide) (by decide) (x_sh _ _ _ _ _)) hL (fun k a M1 hk ha hK => ?_)
    subst ha
    have h1 := hK.2.2.1
    refine ht_bd (ht_li h1 (by decide) (by decide) (x := xs 1) rfl ?_)
    refine ht_bd (ht_li h1 (by decide) (by decide) (x := xs 2) rfl ?_)
    refine ht_bd (ht_li h1 (by decide) (by decide) (x := xs 3) rfl ?_)
    refine ht_bd (ht_li h1 (by decide) (by decide) (x := xs 4) rfl ?_)
    refine ht_bd (ht_li h1 (by decide) (by decide) (x := xs 5) rfl ?_)
    refine ht_bd (ht_rc (fr_K42 hK) ?_)
    refine fr_y (m_F_X11_shape _ _ _ _ _ _) (w_F_X11_shape _ _ _ _ _ _) (y_sh _ _ _ _ _ _) hk hK (fun a P M2 d ha _ b1 b2 b3 => ?_)
    subst ha
    rw [if_pos rfl]
    exact hfin M2 b1 b2 b3
  refine ht_if (fun _ => ?_) (fun _ => ?_)
  · refine ht_bd (ht_li h0 (by decide) (by decide) (x := xs 1) rfl ?_)
    refine ht_bd (ht_li h0 (by decide) (by decide) (x := xs 2) rfl ?_)
    refine ht_bd (ht_rc hM2 ?_)
    refine fr_x (m_F_X10_has _ _ _) (x_g0 (w_F_X10_has _ _ _) (by decide) trivial (x_has _ _)) hL (fun k a M1 hk ha hK => ?_)
    subst ha
    obtain rfl : k = 0 := by omega
    have h1 := hK.2.2.1
    refine ht_bd (ht_li h1 (by decide) (by decide) (x := xs 1) rfl ?_)
    refine ht_bd (ht_li h1 (by decide) (by decide) (x := xs 2) rfl ?_)
    refine ht_bd (ht_rc (fr_K42 hK) ?_)
    refine fr_y (m_F_X11_has _ _ _) (w_F_X11_has _ _ _) (y_has _ _) (by decide) hK (fun a P M2 d ha _ b1 b2 b3 => ?_)
    subst ha
    rw [if_pos rfl]
    exact hfin M2 b1 b2 b3
  refine ht_if (fun _ => ?_) (fun _ => ?_)
  · refine ht_bd (ht_li h0 (by decide) (by decide) (x := xs 1) rfl ?_)
    refine ht_bd (ht_rc hM2 ?_)
    refine fr_x (m_F_X10_nodes _ _) (x_g0 (w_F_X10_nodes _ _) (by decide) trivial (x_nodes _)) hL (fun k a M1 hk ha hK => ?_)
    subst ha
    obtain rfl : k = 0 := by omega
    have h1 := hK.2.2.1
    refine ht_bd (ht_li h1 (by decide) (by decide) (x := xs 1) rfl ?_)
    refine ht_bd (ht_rc (fr_K42 hK) ?_)
    refine fr_y (m_F_X11_nodes _ _) (w_F_X11_nodes _ _) (y_nodes _) (by decide) hK (fun a P M2 d ha _ b1 b2 b3 => ?_)
    subst ha
    rw [if_pos rfl]
    exact hfin M2 b1 b2 b3
  refine ht_if (fun _ => ?_) (fun _ => ?_)
  · refine ht_bd (ht_rc hM2 ?_)
    refine fr_x (m_F_X10_wrong _) (x_g0 (w_F_X10_wrong _) (by decide) trivial (x_wrong)) hL (fun k a M1 hk ha hK => ?_)
    subst ha
    obtain rfl : k = 0 := by omega
    have h1 := hK.2.2.1
    refine ht_bd (ht_rc (fr_K42 hK) ?_)
    refine fr_y (m_F_X11_wrong _) (w_F_X11_wrong _) (y_wrong) (by decide) hK (fun a P M2 d ha _ b1 b2 b3 => ?_)
    subst ha
    rw [if_pos rfl]
    exact hfin M2 b1 b2 b3
  refine ht_if (fun _ => ?_) (fun _ => ?_)
  · refine ht_bd (ht_li h0 (by decide) (by decide) (x := xs 1) rfl ?_)
    refine ht_bd (ht_li h0 (by decide) (by decide) (x := xs 2) rfl ?_)
    refine ht_bd (ht_rc hM2 ?_)
    refine fr_x (m_F_X10_loose _ _ _) (x_g (w_F_X10_loose _ _ _) (by decide) (by decide) (x_loose _ _)) hL (fun k a M1 hk ha hK => ?_)
    subst ha
    have h1 := hK.2.2.1
    refine ht_bd (ht_li h1 (by decide) (by decide) (x := xs 1) rfl ?_)
    refine ht_bd (ht_li h1 (by decide) (by decide) (x := xs 2) rfl ?_)
    refine ht_bd (ht_rc (fr_K42 hK) ?_)
    refine fr_y (m_F_X11_loose _ _ _) (w_F_X11_loose _ _ _) (y_loose _ _ _) hk hK (fun a P M2 d ha _ b1 b2 b3 => ?_)
    subst ha
    rw [if_pos rfl]
    exact hfin M2 b1 b2 b3
  refine ht_if (fun _ => ?_) (fun _ => ?_)
  · refine ht_bd (ht_li h0 (by decide) (by decide) (x := xs 1) rfl ?_)
    refine ht_bd (ht_li h0 (by decide) (by decide) (x := xs 2) rfl ?_)
    refine ht_bd (ht_rc hM2 ?_)
    refine fr_x (m_F_X10_ways _ _ _) (x_g (w_F_X10_ways _ _ _) (by decide) (by decide) (x_ways _ _)) hL (fun k a M1 hk ha hK => ?_)
    subst ha
    have h1 := hK.2.2.1
    refine ht_bd (ht_li h1 (by decide) (by decide) (x := xs 1) rfl ?_)
    refine ht_bd (ht_li h1 (by decide) (by decide) (x := xs 2) rfl ?_)
    refine ht_bd (ht_rc (fr_K42 hK) ?_)
    refine fr_y (m_F_X11_ways _ _ _) (w_F_X11_ways _ _ _) (y_ways _ _ _) hk hK (fun a P M2 d ha _ b1 b2 b3 => ?_)
    subst ha
    rw [if_pos rfl]
    exact hfin M2 b1 b2 b3
  refine ht_if (fun _ => ?_) (fun _ => ?_)
  · refine ht_bd (ht_rc hM2 ?_)
    refine fr_x (m_F_X10_arcs _) (x_g (w_F_X10_arcs _) (by decide) (by decide) (x_arcs)) hL (fun k a M1 hk ha hK => ?_)
    subst ha
    have h1 := hK.2.2.1
    refine ht_bd (ht_rc (fr_K42 hK) ?_)
    refine fr_y (m_F_X11_arcs _) (w_F_X11_arcs _) (y_arcs _) hk hK (fun a P M2 d ha _ b1 b2 b3 => ?_)
    subst ha
    rw [if_pos rfl]
    exact hfin M2 b1 b2 b3
  refine ht_if (fun _ => ?_) (fun _ => ?_)
  · refine ht_bd (ht_li h0 (by decide) (by decide) (x := xs 1) rfl ?_)
    refine ht_bd (ht_li h0 (by decide) (by decide) (x := xs 2) rfl ?_)
    have hoth : ∀ s2 : Int32, z_T (F_L_law_490 ih (some 0) (some 2) (some 42) (some 68) 0 (some 2) (xs 1) s2) M fr_Q := by
      intro s2
      unfold F_L_law_490
      refine ht_bd (ht_li h0 (by decide) (by decide) (x := xs 3) rfl ?_)
      refine ht_bd ?_
      unfold F_L_other
      refine ht_or2 ?_ ?_
      · unfold F_L_otherA
        refine hf_T (ht_rc (Q := fun b M' => b = 2 ∧ M' = M) hM2 ⟨rfl, rfl⟩) (fun b M' e => ?_)
        obtain ⟨rfl, rfl⟩ := e
        exact hf_n (hf_oth hL _ _ _)
      unfold F_L_otherB
      refine ht_bd (ht_rc hM2 ?_)
      refine fr_x (S := fun _ => True) (kk := 10) (m_F_X10_otherT _ _ _ _) ((ht_gw (w_F_X10_otherT _ _ _ _) (x_other (xs 1) s2 (xs 3))).mono fun a P hq => ⟨trivial, by have := hq.2.1; rw [fr_1l] at this; omega, by have := hq.2.2; omega⟩) hL (fun k a M1 hk _ hK => ?_)
      refine ht_ret ?_
      have h1 := hK.2.2.1
      refine ht_bd (ht_li h1 (by decide) (by decide) (x := xs 1) rfl ?_)
      refine ht_bd (ht_li h1 (by decide) (by decide) (x := xs 2) rfl ?_)
      have hend : ∀ s3 : Int32, z_T (F_L_law_523 ih (some 0) (some 2) (some 42) (some 68) 0 1 (some 42) (xs 1) s3) M1 fr_Q := by
        intro s3
        unfold F_L_law_523
        refine ht_bd (ht_li h1 (by decide) (by decide) (x := xs 3) rfl ?_)
        refine ht_bd (ht_rc (fr_K42 hK) ?_)
        refine fr_y (m_F_X11_other _ _ _ _) (w_F_X11_other _ _ _ _) (y_other _ _ _ _) hk hK (fun a P M2 d hS hC b1 b2 b3 => ?_)
        obtain ⟨fs, hfs, hf⟩ := hS
        have h42 := hC.at hfs (fun e => by cases e)
        refine ht_bd (ht_rc h42 ?_)
        refine ht_bd ?_
        unfold F_X11_thrown
        refine ht_bd (ht_gi h42 hf ?_)
        refine ht_ret ?_
        rw [if_pos rfl, if_neg (by decide)]
        exact hfin M2 b1 b2 b3
      exact ht_if (fun _ => hend 0) (fun _ => hend 1)
    exact ht_if (fun _ => hoth 0) (fun _ => hoth 1)
  · exact hfin M (by have := hL.1; omega) (by have := hL.2.1; omega) h0
theorem fr_loop {L : Nat} {xs : Nat → Int32} (hL6 : L ≤ 6) {M : zM} (hL : fr_L (fr_c0 L xs) M) : z_T (F_L_law_23 z_N (some 0, some 2, some 42, some 68, 0)) M fr_Q := by
  have e1 : M.length ≤ 100 := by have := hL.1; omega
  have e2 : zsz M ≤ 450000 := by have := hL.2.1; omega
  unfold F_L_law_23
  refine ht_fx ?_
  by_cases h6 : L = 6
  · subst h6
    refine fr_one (fun M' b1 b2 b3 => ?_) hL
    show z_T (z_fix _ (1048574 + 1) _) M' fr_Q
    rw [z_fix_s]
    exact fr_short b3 (by decide) b1 b2
  · refine fr_short hL.2.2.1 ?_ e1 e2
    have : L < 6 := by omega
    match L, this with
    | 0, _ => decide
    | 1, _ => decide
    | 2, _ => decide
    | 3, _ => decide
    | 4, _ => decide
    | 5, _ => decide
theorem law_pure : LawPure := by
  intro L xs hL
  obtain ⟨r, h1, h2, h3⟩ := fr_ctor hL (Q := fr_Q) (fun M h => fr_loop hL h)
  exact ⟨r, h1, by omega, by omega⟩
theorem i_vc : Claimed_1_1 ∧ Claimed_1_2 := i_vc_of law_pure
