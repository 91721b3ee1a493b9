/-! THE LAW ON ONE CALL -/
theorem ht_gw {α : Type} {x : zMn α} {M : zM} {k n : Nat} {Q : α → zM → Prop} (hg : z_Gw k n x) (h : z_T x M Q) : z_T x M fun a M' => Q a M' ∧ M'.length ≤ M.length + k ∧ zsz M' ≤ zsz M + n := by
  obtain ⟨r, h1, h2⟩ := h
  exact ⟨r, h1, h2, hg M r h1⟩
theorem fr_1l : fr_1.length = 69 := by decide +kernel
def a_g (v : Int32) : Int32 → zM → Prop := fun a P => a = v ∧ P.length ≤ 69 + 10 ∧ zsz P ≤ zsz fr_1 + 100
theorem x_g {x : zMn Int32} {v : Int32} {k n : Nat} (hg : z_Gw k n x) (hk : k ≤ 10) (hn : n ≤ 100) (h : z_T x fr_1 fun a _ => a = v) : z_T x fr_1 (a_g v) := (ht_gw hg h).mono fun a P hq => ⟨hq.1, by have := hq.2.1; rw [fr_1l] at this; omega, by have := hq.2.2; omega⟩
theorem a_g1 {v : Int32} : a_g v v fr_1 := ⟨rfl, by rw [fr_1l]; omega, by omega⟩
theorem x_prg (s p1 p2 : Int32) : z_T (F_X10_addPair 2 s p1 p2) fr_1 (a_g (-1)) := by
  unfold F_X10_addPair F_X10_addPair_30
  refine ht_bd (ht_ga rfl (x := some 14) rfl ?_)
  refine ht_bd (ht_rc rfl ?_)
  refine ht_bd (x_fd0 rfl ?_)
  refine ht_bd (ht_ga rfl (x := some 14) rfl ?_)
  refine ht_bd (ht_rc rfl ?_)
  refine ht_bd (x_fd0 rfl ?_)
  rw [if_pos rfl]
  exact ht_ret a_g1
theorem x_rpg (p1 p2 p3 : Int32) : z_T (F_X10_addRepeated 2 p1 p2 p3) fr_1 (a_g (-1)) := by
  unfold F_X10_addRepeated F_X10_addRepeated_19
  refine ht_bd (ht_ga rfl (x := some 14) rfl ?_)
  refine ht_bd (ht_rc rfl ?_)
  refine ht_bd (x_fd0 rfl ?_)
  rw [if_pos rfl]
  exact ht_ret a_g1
theorem a_ge {v w : Int32} (e : v = w) {a : Int32} {M : zM} (h : a_g v a M) : a_g w a M := ⟨h.1.trans e, h.2⟩
theorem x_exg (p0 p1 p2 p3 : Int32) : z_T (F_X10_expression 2 p0 p1 p2 p3) fr_1 (a_g (a_ex p0 p1 p2)) := by
  unfold F_X10_expression F_X10_expression_50 F_X10_expression_67 F_X10_expression_104
  refine ht_if (fun h => ?_) (fun h0 => ?_)
  · subst h
    rw [if_pos rfl]
    refine ht_bd (ht_rc rfl ?_)
    refine ht_call (x_g (w_F_X10_addPlace _ _ _ _) (by decide) (by decide) (x_pl 1 p1 p2)) (fun a M e => ?_)
    exact ht_ret e
  refine ht_if (fun h => ?_) (fun h1 => ?_)
  · subst h
    rw [if_neg h0]
    refine ht_bd (ht_rc rfl ?_)
    refine ht_call (x_g (w_F_X10_addPlace _ _ _ _) (by decide) (by decide) (x_pl 0 p1 p2)) (fun a M e => ?_)
    exact ht_ret (a_ge (by unfold a_ex; rw [if_pos (Or.inl rfl), if_pos (Or.inr rfl)]) e)
  refine ht_if (fun h => ?_) (fun h2 => ?_)
  · subst h
    rw [if_pos rfl]
    refine ht_bd (ht_rc rfl ?_)
    refine ht_call (x_prg 1 p1 p2) (fun a M e => ?_)
    exact ht_ret (a_ge (by unfold a_ex; rw [if_neg (by decide), if_neg (by decide)]) e)
  refine ht_if (fun h => ?_) (fun h3 => ?_)
  · subst h
    rw [if_neg h2]
    refine ht_bd (ht_rc rfl ?_)
    refine ht_call (x_prg 0 p1 p2) (fun a M e => ?_)
    exact ht_ret (a_ge (by unfold a_ex; rw [if_neg (by decide), if_neg (by decide)]) e)
  refine ht_if (fun h => ?_) (fun h4 => ?_)
  · subst h
    refine ht_bd (ht_rc rfl ?_)
    refine ht_call (x_rpg p1 p2 p3) (fun a M e => ?_)
    exact ht_ret (a_ge (by unfold a_ex; rw [if_neg (by decide), if_neg (by decide)]) e)
  refine ht_if (fun h => ?_) (fun h5 => ?_)
  · subst h
    refine ht_bd (ht_ga rfl (x := some 14) rfl ?_)
    refine ht_bd (ht_rc rfl ?_)
    refine ht_bd ?_
    unfold F_X4_isFull F_X4_isFull_14
    refine ht_bd (ht_gi rfl (x := 0) rfl ?_)
    rw [if_pos (by decide), z_rb0]
    refine ht_ret ?_
    rw [if_pos rfl]
    refine ht_bd (ht_ga rfl (x := some 14) rfl ?_)
    refine ht_bd (ht_rc rfl ?_)
    refine ht_call (x_g (w_F_X4_addNothing _) (by decide) (by decide) (ht_ev x_no0)) (fun a M e => ?_)
    exact ht_ret (a_ge (by unfold a_ex; rw [if_neg (by decide), if_pos rfl]) e)
  · have : a_ex p0 p1 p2 = -1 := by unfold a_ex; rw [if_neg (by rintro (h | h); exact h0 h; exact h1 h), if_neg h5]
    rw [this]
    exact ht_ret a_g1
/-- covers of the loop's memory -/
theorem z_cov_sz : ∀ {P M : zM}, P.length = M.length → (∀ (i : Nat) (c : zC), P[i]? = some c → c = z_psn ∨ M[i]? = some c) → zsz P ≤ zsz M
  | [], [], _, _ => Nat.le_refl _
  | [], _ :: _, h, _ => by simp at h
  | _ :: _, [], h, _ => by simp at h
  | c :: P, c' :: M, hl, h => by
    have h1 := z_cov_sz (P := P) (M := M) (by simpa using hl) (fun i k hi => h (i + 1) k hi)
    have h2 : zn c ≤ zn c' := by
      rcases h 0 c rfl with e | e
      · rw [e]; exact Nat.zero_le _
      · have e' : c' = c := Option.some.inj e
        rw [e']; exact Nat.le_refl _
    simp only [zsz, List.map_cons, List.sum_cons] at h1 ⊢
    omega
theorem fr_1Z : z_covb fr_1 fr_Z = true := by decide +kernel
theorem fr_1k : z_kdb fr_1 = true := by decide +kernel
theorem fr_1z : zsz fr_1 ≤ 2000 := by decide +kernel
theorem fr_c1 {c0 : zC} {M : zM} (h : fr_L c0 M) : z_C M (zsz M - zsz fr_1) fr_1 M := by
  obtain ⟨h1, h2, h3, h4⟩ := h
  have hc : ∀ (i : Nat) (c : zC), fr_1[i]? = some c → c = z_psn ∨ M[i]? = some c := fun i c hi => by
    rcases (z_covb_1 fr_1Z).2.2 i c hi with e | e
    · exact Or.inl e
    · exact h4 i c e
  exact z_C_in (by rw [fr_1l, h1]) (z_cov_sz (by rw [fr_1l, h1]) hc) hc fr_1k
def fr_K (c0 : zC) (k : Nat) (M : zM) : Prop := M.length = 69 + k ∧ zsz M ≤ 450000 ∧ M[0]? = some c0 ∧ ∀ (i : Nat) (c : zC), 42 ≤ i → i < 68 → fr_Z[i]? = some c → c = z_psn ∨ M[i]? = some c
theorem fr_2i {k i : Nat} {c : zC} (h : (fr_2 k)[i]? = some c) : c = z_psn ∨ (42 ≤ i ∧ i < 68 ∧ fr_Z[i]? = some c) := by
  unfold fr_2 at h
  by_cases h1 : i < 42
  · left
    rw [List.getElem?_append_left (by rw [List.length_replicate]; exact h1), List.getElem?_replicate, if_pos h1] at h
    exact (Option.some.inj h).symm
  · rw [List.getElem?_append_right (by rw [List.length_replicate]; omega), List.length_replicate, ← List.cons_append] at h
    have hl : (Sum.inr (11, fr_o 1287) :: fr_E : zM).length = 26 := by decide +kernel
    by_cases h2 : i < 68
    · right
      rw [List.getElem?_append_left (by rw [hl]; omega)] at h
      refine ⟨by omega, h2, ?_⟩
      unfold fr_Z
      rw [List.getElem?_append_left (by rw [fr_Yl]; exact h2)]
      unfold fr_Y
      rw [List.getElem?_append_right (by rw [fr_Pl]; omega), fr_Pl]
      exact h
    · left
      rw [List.getElem?_append_right (by rw [hl]; omega), List.getElem?_replicate] at h
      split at h
      · exact (Option.some.inj h).symm
      · cases h
theorem fr_2l (k : Nat) : (fr_2 k).length = 69 + k := by
  unfold fr_2
  have hl : fr_E.length = 25 := by decide +kernel
  simp only [List.length_append, List.length_cons, List.length_replicate, hl]
  omega
theorem fr_2k (k : Nat) : z_kdb (fr_2 k) = true := by
  unfold z_kdb fr_2
  simp only [List.all_append, List.all_cons, Bool.and_eq_true]
  refine ⟨by decide +kernel, by decide +kernel, by decide +kernel, ?_⟩
  rw [List.all_eq_true]
  intro c hc
  rw [List.eq_of_mem_replicate hc]
  rfl
theorem fr_c2 {c0 : zC} {k : Nat} {M : zM} (h : fr_K c0 k M) : z_C M (zsz M - zsz (fr_2 k)) (fr_2 k) M := by
  obtain ⟨h1, h2, h3, h4⟩ := h
  have hc : ∀ (i : Nat) (c : zC), (fr_2 k)[i]? = some c → c = z_psn ∨ M[i]? = some c := fun i c hi => by
    rcases fr_2i hi with e | ⟨e1, e2, e3⟩
    · exact Or.inl e
    · exact h4 i c e1 e2 e3
  exact z_C_in (by rw [fr_2l, h1]) (z_cov_sz (by rw [fr_2l, h1]) hc) hc (fr_2k k)
theorem fr_1b {i : Nat} (h : i = 0 ∨ (42 ≤ i ∧ i < 69)) : fr_1[i]? = some z_psn := by
  rcases h with rfl | ⟨h1, h2⟩
  · rfl
  · unfold fr_1
    rw [List.getElem?_append_right (by rw [fr_Pl]; exact h1), fr_Pl, List.getElem?_replicate, if_pos (by omega)]
theorem fr_x {α β : Type} {x : zMn α} {kk : Nat} {S : α → Prop} {f : α → zMn β} {c0 : zC} {M : zM} {Q : β → zM → Prop} (hm : z_Mo x) (hx : z_T x fr_1 fun a P => S a ∧ P.length ≤ 69 + kk ∧ zsz P ≤ zsz fr_1 + 100) (hL : fr_L c0 M) (q : ∀ (k : Nat) (a : α) (M' : zM), k ≤ kk → S a → fr_K c0 k M' → z_T (f a) M' Q) : z_T (z_bd x f) M Q := by
  obtain ⟨r, h1, h2, h3, h4⟩ := hx
  have hg := x.2 fr_1 r h1
  have hC := fr_c1 hL
  refine ht_bd (ht_cov hm hC ⟨r, h1, fun M' hC' hb => ?_⟩)
  refine q (r.2.length - 69) r.1 M' (by omega) h2 ⟨?_, ?_, ?_, ?_⟩
  · rw [← hC'.1]
    have := hg.1
    rw [fr_1l] at this
    omega
  · have e1 := hC'.2.1
    have e2 := hC.2.1
    have e3 := hL.2.1
    omega
  · rw [hb 0 (fr_1b (Or.inl rfl))]; exact hL.2.2.1
  · intro i c hi hi' hz
    rw [hb i (fr_1b (Or.inr ⟨hi, by omega⟩))]
    exact hL.2.2.2 i c hz
theorem fr_y {β : Type} {y : zMn Int32} {S : Int32 → zM → Prop} {k : Nat} {f : Int32 → zMn β} {c0 : zC} {M : zM} {Q : β → zM → Prop} (hm : z_Mo y) (hg : z_Gw 0 0 y) (hy : z_T y (fr_2 k) S) (hk : k ≤ 10) (hK : fr_K c0 k M) (q : ∀ (a : Int32) (P M' : zM) (d : Nat), S a P → z_C M d P M' → M'.length ≤ 100 → zsz M' ≤ 450000 → M'[0]? = some c0 → z_T (f a) M' Q) : z_T (z_bd y f) M Q := by
  obtain ⟨r, h1, h2⟩ := hy
  have hC := fr_c2 hK
  have hG := hg _ r h1
  refine ht_bd (ht_cov hm hC ⟨r, h1, fun M' hC' hb => ?_⟩)
  refine q r.1 r.2 M' _ h2 hC' ?_ ?_ ?_
  · rw [← hC'.1]
    have := hG.1
    rw [fr_2l] at this
    omega
  · have e1 := hC'.2.1
    have e2 := hC.2.1
    have e3 := hK.2.1
    have := hG.2
    omega
  · rw [hb 0 rfl]; exact hK.2.2.1
theorem fr_L2 {c0 : zC} {M : zM} (h : fr_L c0 M) : M[2]? = some (.inr (10, [.ref 7, .ref 14, .ref 16, .ref 33, .ref 39])) := (h.2.2.2 2 _ rfl).resolve_left (fun e => by cases e)
theorem fr_K42 {c0 : zC} {k : Nat} {M : zM} (h : fr_K c0 k M) : M[42]? = some (.inr (11, fr_o 1287)) := (h.2.2.2 42 _ (by decide) (by decide) rfl).resolve_left (fun e => by cases e)
