/-! BITS of numbers below 65536 -/
theorem n_bv {a : Nat} : (Int32.ofNat a).toBitVec = BitVec.ofNat 32 a := rfl
theorem w_or {a b : Nat} : Int32.ofNat a ||| Int32.ofNat b = Int32.ofNat (a ||| b) := by
  apply Int32.toBitVec_inj.mp
  show BitVec.ofNat 32 a ||| BitVec.ofNat 32 b = BitVec.ofNat 32 (a ||| b)
  apply BitVec.eq_of_getLsbD_eq
  intro i hi
  simp [BitVec.getLsbD_ofNat, hi]
theorem w_1t : ∀ t : Fin 16, (1 : Int32) <<< (Int32.ofNat t.1 &&& 31) = Int32.ofNat (2 ^ t.1) := by decide +kernel
theorem w_sh {t : Nat} (ht : t < 16) : (1 : Int32) <<< (Int32.ofNat t &&& 31) = Int32.ofNat (2 ^ t) := w_1t ⟨t, ht⟩
theorem w_m : ∀ t : Fin 16, ((Int32.ofNat t.1 &&& 31).toBitVec.smod 32).toNat = t.1 := by decide +kernel
theorem w_rt {a t : Nat} (ha : a < 65536) (ht : t < 16) : (Int32.ofNat a >>> (Int32.ofNat t &&& 31)) &&& 1 = if a.testBit t then 1 else 0 := by
  apply Int32.toBitVec_inj.mp
  have e : ((Int32.ofNat a >>> (Int32.ofNat t &&& 31)) &&& 1).toBitVec = (BitVec.ofNat 32 a).sshiftRight ((Int32.ofNat t &&& 31).toBitVec.smod 32).toNat &&& 1#32 := rfl
  rw [e, w_m ⟨t, ht⟩]
  apply BitVec.eq_of_getLsbD_eq
  intro i hi
  by_cases h0 : i = 0
  · subst h0
    by_cases hb : a.testBit t = true
    · rw [if_pos hb]
      simp [BitVec.getLsbD_sshiftRight, BitVec.getLsbD_ofNat, hb, show t < 32 by omega]
    · rw [if_neg hb]
      have hb : a.testBit t = false := by simpa using hb
      rw [BitVec.getLsbD_and, BitVec.getLsbD_sshiftRight]
      have hg : (BitVec.ofNat 32 a)[t]'(by omega) = false := by rw [← BitVec.getLsbD_eq_getElem, BitVec.getLsbD_ofNat, hb, Bool.and_false]
      simp [show t < 32 by omega, hg]
  · have h1 : (1#32).getLsbD i = false := by simp [BitVec.getLsbD_one, h0]
    rw [BitVec.getLsbD_and, h1, Bool.and_false]
    split
    · exact h1.symm
    · simp
theorem w_b1 {a t : Nat} (ha : a < 65536) (ht : t < 16) : ((Int32.ofNat a >>> (Int32.ofNat t &&& 31)) &&& 1) = 1 ↔ a.testBit t = true := by
  rw [w_rt ha ht]
  by_cases hb : a.testBit t = true
  · rw [if_pos hb]; exact ⟨fun _ => hb, fun _ => rfl⟩
  · rw [if_neg hb]; exact ⟨fun h => absurd h (by decide), fun h => absurd h hb⟩
theorem w_b0 {a t : Nat} (ha : a < 65536) (ht : t < 16) : ((Int32.ofNat a >>> (Int32.ofNat t &&& 31)) &&& 1) = 0 ↔ a.testBit t = false := by
  rw [w_rt ha ht]
  by_cases hb : a.testBit t = true
  · rw [if_pos hb]; exact ⟨fun h => absurd h (by decide), fun h => by rw [hb] at h; cases h⟩
  · rw [if_neg hb]; exact ⟨fun _ => by simpa using hb, fun _ => rfl⟩
theorem w_clr {a t : Nat} (ht : t < 16) : Int32.ofNat a &&& (((1 : Int32) <<< (Int32.ofNat t &&& 31)) ^^^ (-1)) = Int32.ofNat (a &&& (2 ^ t ^^^ 4294967295)) := by
  rw [w_sh ht]
  apply Int32.toBitVec_inj.mp
  show BitVec.ofNat 32 a &&& (BitVec.ofNat 32 (2 ^ t) ^^^ (-1 : Int32).toBitVec) = _
  have e : (-1 : Int32).toBitVec = BitVec.ofNat 32 4294967295 := rfl
  rw [e, n_bv]
  apply BitVec.eq_of_getLsbD_eq
  intro i hi
  simp only [BitVec.getLsbD_and, BitVec.getLsbD_xor, BitVec.getLsbD_ofNat, Nat.testBit_and, Nat.testBit_xor, hi, decide_true, Bool.true_and]
theorem w_clt {a t : Nat} (ht : t < 16) (hb : a.testBit t = true) : (a &&& (2 ^ t ^^^ 4294967295)) < a := by
  have hle : (a &&& (2 ^ t ^^^ 4294967295)) ≤ a := Nat.and_le_left
  refine Nat.lt_of_le_of_ne hle fun e => ?_
  have := congrArg (fun x => Nat.testBit x t) e
  simp only [Nat.testBit_and, Nat.testBit_xor, hb, Bool.true_and, Nat.testBit_two_pow_self] at this
  have h4 : (4294967295 : Nat).testBit t = true := by
    have : ∀ t : Fin 16, (4294967295 : Nat).testBit t.1 = true := by decide +kernel
    exact this ⟨t, ht⟩
  rw [h4] at this
  simp at this
theorem w_sub {a b : Nat} (h : ∀ i, a.testBit i = true → b.testBit i = true) : a ||| b = b := by
  apply Nat.eq_of_testBit_eq
  intro i
  rw [Nat.testBit_or]
  cases ha : a.testBit i with
  | false => simp
  | true => rw [h i ha]; rfl
theorem w_le {a b : Nat} (h : ∀ i, a.testBit i = true → b.testBit i = true) : a ≤ b := by
  rw [← w_sub h]; exact Nat.left_le_or
theorem w_lt {a b i : Nat} (h : ∀ i, a.testBit i = true → b.testBit i = true) (h1 : a.testBit i = false) (h2 : b.testBit i = true) : a < b := by
  refine Nat.lt_of_le_of_ne (w_le h) fun e => ?_
  rw [e, h2] at h1
  cases h1
theorem w_o16 {a b : Nat} (ha : a < 65536) (hb : b < 65536) : a ||| b < 65536 := Nat.or_lt_two_pow (n := 16) ha hb
theorem w_p16 {t : Nat} (ht : t < 16) : 2 ^ t < 65536 := Nat.pow_lt_pow_right (a := 2) (m := t) (n := 16) (by decide) ht
theorem w_hi {a i : Nat} (ha : a < 65536) (hi : 16 ≤ i) : a.testBit i = false := Nat.testBit_lt_two_pow (Nat.lt_of_lt_of_le (show a < 2 ^ 16 from ha) (Nat.pow_le_pow_right (n := 2) (by decide) hi))
theorem w_full {a : Nat} (ha : a < 65536) (h : ∀ i, i < 16 → a.testBit i = true) : a = 65535 := by
  apply Nat.eq_of_testBit_eq
  intro i
  by_cases hi : i < 16
  · rw [h i hi]
    have : ∀ t : Fin 16, (65535 : Nat).testBit t.1 = true := by decide +kernel
    exact (this ⟨i, hi⟩).symm
  · rw [w_hi ha (by omega), w_hi (by decide) (by omega)]
theorem w_big {a i : Nat} (ha : a < 65536) (h : a.testBit i = true) : i < 16 := by
  refine Nat.lt_of_not_le fun hi => ?_
  rw [w_hi ha hi] at h
  cases h
