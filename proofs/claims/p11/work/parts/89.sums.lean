/-- sums of bags -/
theorem g_ds_c {a r : Nat} (h0 : a < 9) (hr : a + 9 * r < 59049) : g_ds (a + 9 * r) = a + g_ds r := by
  rw [g_ds_s hr]
  have e1 : (a + 9 * r) % 9 = a := by omega
  have e2 : (a + 9 * r) / 9 = r := by omega
  rw [e1, e2]
theorem g_ds_ad : ∀ (n a b N : Nat), N = 9 ^ n → n ≤ 5 → a < N → b < N → g_ds a + g_ds b ≤ 8 → a + b < N ∧ g_ds (a + b) = g_ds a + g_ds b := by
  intro n
  induction n with
  | zero =>
    intro a b N hN _ ha hb _
    have : N = 1 := hN
    have e1 : a = 0 := by omega
    have e2 : b = 0 := by omega
    subst e1 e2
    exact ⟨by omega, rfl⟩
  | succ n ih =>
    intro a b N hN hn ha hb h
    have hN9 : N = 9 * 9 ^ n := by rw [hN, Nat.pow_succ, Nat.mul_comm]
    have hle : N ≤ 59049 := by
      rw [hN]
      exact Nat.pow_le_pow_right (by decide) hn
    generalize hp : 9 ^ n = P at hN9
    have sa := g_ds_s (n := a) (by omega)
    have sb := g_ds_s (n := b) (by omega)
    obtain ⟨i1, i2⟩ := ih (a / 9) (b / 9) P hp.symm (by omega) (by omega) (by omega) (by omega)
    have e : a + b = (a % 9 + b % 9) + 9 * (a / 9 + b / 9) := by omega
    refine ⟨by omega, ?_⟩
    rw [e, g_ds_c (by omega) (by omega), i2]
    omega
theorem g_ds_add {a b : Nat} (ha : a < 59049) (hb : b < 59049) (h : g_ds a + g_ds b ≤ 8) : a + b < 59049 ∧ g_ds (a + b) = g_ds a + g_ds b := g_ds_ad 5 a b 59049 (by decide) (by decide) ha hb h
