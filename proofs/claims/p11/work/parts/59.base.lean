/-! ONE CALL ON FRESH OBJECTS: what class and reference answer, on their own pictures -/
def fr_1 : zM := fr_P ++ List.replicate 27 z_psn
def fr_2 (k : Nat) : zM := List.replicate 42 z_psn ++ .inr (11, fr_o 1287) :: (fr_E ++ List.replicate (k + 1) z_psn)
def g_in (n p : Int32) : Int32 := if p < 0 then 0 else if n ≤ p then 0 else 1
theorem z_rb0 : z_rb 0 = z_ret 0 := by unfold z_rb; exact if_pos (Or.inl rfl)
theorem z_rb1 : z_rb 1 = z_ret 1 := by unfold z_rb; exact if_pos (Or.inr rfl)
theorem g_pg {p n : Int32} : (if p < 0 then z_ret (0 : Int32) else if n ≤ p then z_ret 0 else z_ret 1) = z_ret (g_in n p) := by
  unfold g_in
  split
  · rfl
  · split <;> rfl
theorem e_n10 (p : Int32) : F_X10_isNode p = z_ret (g_in 16 p) := by
  unfold F_X10_isNode F_X10_isNode_14 F_X10_isNode_15
  rw [z_rb0, z_rb1]; exact g_pg
theorem e_l10 (p : Int32) : F_X10_isLabel p = z_ret (g_in 8 p) := by
  unfold F_X10_isLabel F_X10_isLabel_14 F_X10_isLabel_15
  rw [z_rb0, z_rb1]; exact g_pg
theorem e_s10 (p : Int32) : F_X10_isShape p = z_ret (g_in 16 p) := by
  unfold F_X10_isShape F_X10_isShape_14 F_X10_isShape_15
  rw [z_rb0, z_rb1]; exact g_pg
theorem e_n11 (p : Int32) : F_X11_isNode p = z_ret (g_in 16 p) := by
  unfold F_X11_isNode F_X11_isNode_14 F_X11_isNode_15
  rw [z_rb0, z_rb1]; exact g_pg
theorem e_l11 (p : Int32) : F_X11_isLabel p = z_ret (g_in 8 p) := by
  unfold F_X11_isLabel F_X11_isLabel_14 F_X11_isLabel_15
  rw [z_rb0, z_rb1]; exact g_pg
theorem e_s11 (p : Int32) : F_X11_isShape p = z_ret (g_in 16 p) := by
  unfold F_X11_isShape F_X11_isShape_14 F_X11_isShape_15
  rw [z_rb0, z_rb1]; exact g_pg
theorem g_in_ok {N : Nat} (hN : N < 2 ^ 31) {p : Int32} (h : ¬ g_in (Int32.ofNat N) p = 0) : ∃ n : Nat, n < N ∧ p = Int32.ofNat n := by
  unfold g_in at h
  split at h
  · exact absurd rfl h
  · rename_i h0
    split at h
    · exact absurd rfl h
    · rename_i h1
      have hp : 0 ≤ p := Int32.not_lt.mp h0
      have e := (Int32.ofNat_toNatClampNeg p hp).symm
      refine ⟨p.toNatClampNeg, ?_, e⟩
      rw [e] at h1
      have hl := Int32.toNatClampNeg_lt p
      exact Nat.lt_of_not_le fun g => h1 ((n_le hN hl).mpr g)
theorem ht_fx {σ ρ : Type} {body : (σ → zMn ρ) → σ → zMn ρ} {s : σ} {M : zM} {Q : ρ → zM → Prop} (h : z_T (body (z_fix body 1048575) s) M Q) : z_T (z_fix body z_N s) M Q := h
theorem ht_ev {α : Type} {x : zMn α} {P : zM} {v : α} (h : (x.1 P).map (fun r => r.1) = some v) : z_T x P fun a _ => a = v := by
  cases hx : x.1 P with
  | none => rw [hx] at h; cases h
  | some r => rw [hx] at h; exact ⟨r, hx, Option.some.inj h⟩
theorem g_rp {n m : Nat} {v : Value} (h : n < m) (hm : m < 2 ^ 31) : (List.replicate m v)[(Int32.ofNat n).toNatClampNeg]? = some v := by
  rw [n_cl (by omega), List.getElem?_replicate, if_pos h]
theorem n_m4 {n : Nat} : Int32.ofNat n * 4 = Int32.ofNat (n * 4) := (Int32.ofNat_mul n 4).symm
