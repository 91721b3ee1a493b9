/-! THE MEMORY AT THE LAW's LOOP -/
def fr_E : zM := [.inl (0, List.replicate (Int32.toNatClampNeg 180) (.int 0)),
  .inl (0, List.replicate (Int32.toNatClampNeg 60) (.int 0)),
  .inl (0, List.replicate (Int32.toNatClampNeg 60) (.int 0)),
  .inl (0, List.replicate (Int32.toNatClampNeg 60) (.int 0)),
  .inl (0, List.replicate (Int32.toNatClampNeg 60) (.int 0)),
  .inl (0, List.replicate (Int32.toNatClampNeg 16) (.int (-1))),
  .inl (0, List.replicate (Int32.toNatClampNeg 16) (.int 0)),
  .inl (0, List.replicate (Int32.toNatClampNeg 16) (.int 0)),
  .inl (0, List.replicate (Int32.toNatClampNeg 16) (.int 0)),
  .inl (0, List.replicate (Int32.toNatClampNeg 16) (.int 0)),
  z_psn,
  z_psn,
  z_psn,
  z_psn,
  .inl (4, List.replicate (Int32.toNatClampNeg 60) (.int 0)),
  .inl (0, List.replicate (Int32.toNatClampNeg 60) (.int 0)),
  .inl (0, List.replicate (Int32.toNatClampNeg 4) (.int 0)),
  .inl (0, List.replicate (Int32.toNatClampNeg 60) (.int 0)),
  z_psn,
  z_psn,
  z_psn,
  .inl (4, List.replicate (Int32.toNatClampNeg 60) (.int 0)),
  z_psn,
  z_psn,
  .inl (0, List.replicate (Int32.toNatClampNeg 16) (.int 0))]
def fr_Y (n : Int32) : zM := fr_P ++ .inr (11, fr_o n) :: fr_E
def fr_N1 : zM := fr_N.set 48 (.inl (0, fr_S 16 0))
theorem fr_YN : z_covb (fr_Y 0) fr_N1 = true := by decide +kernel
theorem fr_Yz : zsz (fr_Y 1287) = zsz (fr_Y 0) := by decide +kernel
theorem fr_Yl : (fr_Y 1287).length = 68 := by decide +kernel
theorem fr_Yk : z_kdb (fr_Y 1287) = true := by decide +kernel
theorem fr_Pk : z_kdb fr_P = true := by decide +kernel
theorem fr_Nz : zsz fr_N1 ≤ 300000 := by
  have h : fr_N[48]? = some (.inl (0, List.replicate (Int32.toNatClampNeg 16) (.int 0))) := fr_at (i := 6) rfl
  unfold fr_N1
  rw [zsz_set fr_N 48 _ _ h (by decide)]
  have hp : zsz fr_P ≤ 2000 := by decide +kernel
  have e : zsz fr_N = zsz fr_P + (32 + zsz fr_A) := by
    unfold fr_N zsz
    rw [List.map_append, List.sum_append, List.map_cons, List.sum_cons]
    exact congrArg (fun q => (List.map zn fr_P).sum + (q + (List.map zn fr_A).sum)) (show zn (.inr (11, fr_o 0)) = 32 by decide)
  have ha : zsz fr_A ≤ 250000 := by
    unfold fr_A zsz
    simp only [List.map_cons, List.map_nil, List.sum_cons, List.sum_nil, zn, List.length_replicate]
    decide
  omega
theorem fr_J0 : fr_J fr_N1 0 fr_N1 := by
  have go : ∀ {i : Nat} {c : zC}, i ≠ 6 → (.inr (11, fr_o 0) :: fr_A)[i]? = some c → fr_N1[42 + i]? = some c := by
    intro i c hi h
    unfold fr_N1
    rw [z_go (by omega)]
    exact fr_at h
  refine ⟨rfl, rfl, go (i := 0) (by decide) rfl, ⟨_, go (i := 11) (by decide) rfl, ?_⟩, ⟨_, go (i := 12) (by decide) rfl, ?_⟩, ⟨_, go (i := 13) (by decide) rfl, ?_⟩, fun i _ _ _ _ => rfl⟩
  · rw [List.length_replicate]; decide
  · rw [List.length_replicate]; decide
  · rw [List.length_replicate]; decide
theorem fr_N0 : fr_N1[0]? = some z_psn := by decide +kernel
/-- what is known at the loop: the pictures of class and reference, and the script -/
def fr_Z : zM := fr_Y 1287 ++ [.inl (3, [.long 0])]
def fr_L (c0 : zC) (M : zM) : Prop := M.length = 69 ∧ zsz M ≤ 400000 ∧ M[0]? = some c0 ∧ ∀ (i : Nat) (c : zC), fr_Z[i]? = some c → c = z_psn ∨ M[i]? = some c
theorem fr_ctor {L : Nat} {xs : Nat → Int32} (hL : L ≤ 6) {Q : Int32 → zM → Prop} (h : ∀ M, fr_L (.inl (1, (List.range L).map fun j => .int (xs j))) M → z_T (F_L_law_23 z_N (some 0, some 2, some 42, some 68, 0)) M Q) : z_T (F_L_law (some 0)) (zM0 L xs) Q := by
  unfold F_L_law
  refine ht_bd (ht_nw ?_)
  have hz0 : zsz (zM0 L xs ++ [.inr (10, [.null, .null, .null, .null, .null])]) = L + 11 := by
    simp [zsz, zM0, zn, zP]
  have hC0 : z_C (zM0 L xs ++ [.inr (10, [.null, .null, .null, .null, .null])]) L fr_D (zM0 L xs ++ [.inr (10, [.null, .null, .null, .null, .null])]) := by
    refine ⟨rfl, ?_, z_kdb_1 (by decide +kernel), fun i c hi => ⟨fun _ => rfl, fun hn => ?_⟩⟩
    · rw [hz0, show zsz fr_D = 11 by decide +kernel]; omega
    · match i, hi with
      | 0, hi => exact absurd (Option.some.inj hi).symm hn
      | 1, hi => exact hi
      | 2, hi => exact hi
      | i + 3, hi => simp [fr_D] at hi
  generalize hB : (zM0 L xs ++ [.inr (10, [.null, .null, .null, .null, .null])] : zM) = B at hC0 hz0
  have hB0 : B[0]? = some (.inl (1, (List.range L).map fun j => .int (xs j))) := by rw [← hB]; rfl
  show z_T (z_bd (F_X10_init 2) _) B Q
  have h10 := fr_10
  cases hr : (F_X10_init 2).1 fr_D with
  | none => rw [hr] at h10; cases h10
  | some r =>
    rw [hr] at h10
    dsimp only at h10
    rw [Bool.and_eq_true] at h10
    refine ht_bd (ht_cov (m_F_X10_init 2) hC0 ⟨r, hr, fun M2 hC2 hb2 => ?_⟩)
    have h20 : M2[0]? = B[0]? := hb2 0 rfl
    have hz2 : zsz M2 ≤ 20000 + L := by
      have := Nat.le_of_ble_eq_true h10.2
      have := hC2.2.1
      omega
    have hC3 := z_C_weak hC2 h10.1 fr_Pk
    generalize L + (zsz r.2 - zsz fr_P) = d3 at hC3
    refine ht_bd (ht_cov (mo_nwo (by decide)) hC3 (ht_nw fun M3 hC4 hb4 => ?_))
    rw [fr_Pl]
    have h30 : M3[0]? = B[0]? := (hb4 0 rfl).trans h20
    refine ht_bd (ht_cov (m_F_X11_init 42) hC4 (fr_al (fr_212 ((fr_233 fr_J0).mono fun _ P5 hJ M5 hC5 hb5 => ?_))))
    have h50 : M5[0]? = B[0]? := by
      have h1 := hC5.bl (i := 0) (by rw [hJ.2.2.2.2.2.2 0 (by decide) (by decide) (by decide) (by decide)]; exact fr_N0)
      rw [h1]; exact h20
    obtain ⟨c1, c2, c3⟩ := z_covb_1 fr_YN
    have hcov : ∀ (i : Nat) (c : zC), (fr_Y 1287)[i]? = some c → c = z_psn ∨ P5[i]? = some c := by
      intro i c hi
      by_cases e42 : i = 42
      · subst e42
        right
        rw [hJ.2.2.1]
        exact hi
      · have e0 : (fr_Y 0)[i]? = some c := by
          rw [← hi]
          unfold fr_Y
          by_cases hlt : i < 42
          · rw [List.getElem?_append_left (by rw [fr_Pl]; exact hlt), List.getElem?_append_left (by rw [fr_Pl]; exact hlt)]
          · rw [List.getElem?_append_right (by rw [fr_Pl]; omega), List.getElem?_append_right (by rw [fr_Pl]; omega), fr_Pl]
            obtain ⟨j, hj⟩ : ∃ j, i - 42 = j + 1 := ⟨i - 43, by omega⟩
            rw [hj]
            rfl
        by_cases e3 : i = 53 ∨ i = 54 ∨ i = 55
        · left
          rcases e3 with e | e | e
          · subst e; exact (Option.some.inj hi).symm
          · subst e; exact (Option.some.inj hi).symm
          · subst e; exact (Option.some.inj hi).symm
        · rcases c3 i c e0 with e | e
          · exact Or.inl e
          · right
            rw [hJ.2.2.2.2.2.2 i e42 (fun e => e3 (Or.inl e)) (fun e => e3 (Or.inr (Or.inl e))) (fun e => e3 (Or.inr (Or.inr e)))]
            exact e
    have hl5 : P5.length = 68 := by
      rw [hJ.1, ← c1]
      decide +kernel
    have hC6 := z_C_new hC5 (P := fr_Y 1287) (by rw [fr_Yl, hl5]) (by rw [fr_Yz, hJ.2.1]; exact c2) hcov fr_Yk
    have hz5 : zsz M5 ≤ 350000 := by
      have e1 := hC5.2.1
      have e2 := hC4.2.1
      have e3 := hC3.2.1
      have e4 : zsz (fr_P ++ [.inr (11, [.null, .int 0, .null, .null, .null, .null, .int 0, .null, .null, .null, .null, .null, .int 0, .int 0, .null, .null, .int 0, .null, .null, .null, .null, .int 0, .int 0, .null, .null, .null, .null, .null, .null, .null, .null, .null])]) = zsz fr_P + 32 := zsz_push _ _
      have e5 := fr_Nz
      rw [hJ.2.1] at e1
      omega
    generalize d3 + (zsz P5 - zsz (fr_Y 1287)) = d6 at hC6
    refine ht_bd (ht_cov (mo_nwa (by decide)) hC6 (ht_nwa (by decide) (by decide) fun M7 hC7 hb7 => ?_))
    rw [fr_Yl]
    refine h M7 ⟨?_, ?_, ?_, ?_⟩
    · rw [← hC7.1, List.length_append, fr_Yl]; rfl
    · have e1 := hC7.2.1
      have e2 := hC6.2.1
      rw [zsz_push] at e1
      have e3 : zn (.inl (3, List.replicate (Int32.toNatClampNeg 1) (Value.long 0))) = 1 := by decide
      omega
    · rw [hb7 0 rfl, h50]; exact hB0
    · intro i c hi
      by_cases hn : c = z_psn
      · exact Or.inl hn
      · exact Or.inr (hC7.at hi hn)
