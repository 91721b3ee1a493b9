/-! THE SOLVER's GROUPS -/
theorem i_nn {a : Int32} (h : 0 ≤ a.toInt) : a.toInt = a.toBitVec.toNat := by
  have e : a.toInt = a.toBitVec.toInt := rfl
  rw [e] at h ⊢
  rw [BitVec.toInt_eq_toNat_cond] at h ⊢
  split at h
  · rename_i hlt
    rw [if_pos hlt]
  · exfalso
    have := a.toBitVec.isLt
    omega
theorem i_bn {v : BitVec 32} (h : v.toNat < 2147483648) : v.toInt = v.toNat := BitVec.toInt_eq_toNat_of_lt (by omega)
theorem i_andl {a b : Int32} (h : 0 ≤ a.toInt) : 0 ≤ (a &&& b).toInt ∧ (a &&& b).toInt ≤ a.toInt := by
  have ha := i_nn h
  have hl := Int32.toInt_lt a
  have e : (a &&& b).toInt = (a.toBitVec &&& b.toBitVec).toInt := rfl
  have hle : (a.toBitVec &&& b.toBitVec).toNat ≤ a.toBitVec.toNat := by
    rw [BitVec.toNat_and]
    exact Nat.and_le_left
  rw [e, i_bn (by omega)]
  omega
theorem i_or {a b : Int32} (h0 : 0 ≤ a.toInt) (h1 : a.toInt < 65536) (h2 : 0 ≤ b.toInt) (h3 : b.toInt < 65536) : 0 ≤ (a ||| b).toInt ∧ (a ||| b).toInt < 65536 := by
  have ha := i_nn h0
  have hb := i_nn h2
  have e : (a ||| b).toInt = (a.toBitVec ||| b.toBitVec).toInt := rfl
  have hle : (a.toBitVec ||| b.toBitVec).toNat < 2 ^ 16 := by
    rw [BitVec.toNat_or]
    exact Nat.or_lt_two_pow (by omega) (by omega)
  rw [e, i_bn (by omega)]
  omega
theorem i_of {x : Int32} (h : 0 ≤ x.toInt) : x = Int32.ofNat x.toInt.toNat := by
  apply Int32.toInt_inj.mp
  have := Int32.toInt_lt x
  rw [Int32.toInt_ofNat_of_lt (by omega)]
  omega
theorem i_sh0 : ∀ n : Fin 16, 0 ≤ ((1 : Int32) <<< (Int32.ofNat n.1 &&& 31)).toInt ∧ ((1 : Int32) <<< (Int32.ofNat n.1 &&& 31)).toInt < 65536 := by decide +kernel
theorem i_sh {x : Int32} (h0 : 0 ≤ x.toInt) (h1 : x.toInt < 16) : 0 ≤ ((1 : Int32) <<< (x &&& 31)).toInt ∧ ((1 : Int32) <<< (x &&& 31)).toInt < 65536 := by
  have := i_sh0 ⟨x.toInt.toNat, by omega⟩
  dsimp only at this
  rw [← i_of h0] at this
  exact this
theorem i_us {x : Int32} (h : 0 ≤ x.toInt) {c : UInt32} {k : Nat} (hc : c.toNat % 32 = k) : ((x.toUInt32 >>> c).toInt32).toInt = x.toInt / ((2 ^ k : Nat) : Int) := by
  have hx := i_nn h
  have hl := Int32.toInt_lt x
  have e1 : (x.toUInt32 >>> c).toNat = x.toBitVec.toNat / 2 ^ k := by rw [UInt32.toNat_shiftRight, hc, Nat.shiftRight_eq_div_pow]; rfl
  have e2 : ((x.toUInt32 >>> c).toInt32).toInt = (x.toUInt32 >>> c).toBitVec.toInt := rfl
  have e3 : (x.toUInt32 >>> c).toBitVec.toNat = x.toBitVec.toNat / 2 ^ k := e1
  have hle : x.toBitVec.toNat / 2 ^ k ≤ x.toBitVec.toNat := Nat.div_le_self _ _
  rw [e2, i_bn (by omega), e3, hx]
  exact Int.natCast_ediv _ _
theorem i_xa {p : Int32} (h0 : 0 < p.toInt) (h1 : p.toInt < 65536) : 0 ≤ ((p ^^^ (-1)) &&& (p - 1)).toInt ∧ ((p ^^^ (-1)) &&& (p - 1)).toInt < 32768 := by
  have hp := i_nn (a := p) (by omega)
  have e1 : (1 : Int32).toInt = 1 := rfl
  have hq : (p - 1).toInt = p.toInt - 1 := by rw [i_sub (by omega) (by omega), e1]
  have hq' := i_nn (a := p - 1) (by omega)
  have e : ((p ^^^ (-1)) &&& (p - 1)).toInt = ((p.toBitVec ^^^ (-1 : Int32).toBitVec) &&& (p - 1).toBitVec).toInt := rfl
  have hle : ((p.toBitVec ^^^ (-1 : Int32).toBitVec) &&& (p - 1).toBitVec).toNat ≤ (p - 1).toBitVec.toNat := by
    rw [BitVec.toNat_and]
    exact Nat.and_le_right
  have key : ((p.toBitVec ^^^ (-1 : Int32).toBitVec) &&& (p - 1).toBitVec).toNat < 32768 := by
    by_cases hb : p.toBitVec.toNat < 32768
    · omega
    · refine Nat.lt_of_not_le fun hge => ?_
      have t1 : p.toBitVec.toNat.testBit 15 = true := by
        rw [Nat.testBit_eq_decide_div_mod_eq, decide_eq_true_eq]
        omega
      have t2 : ((p.toBitVec ^^^ (-1 : Int32).toBitVec) &&& (p - 1).toBitVec).toNat.testBit 15 = true := by
        rw [Nat.testBit_eq_decide_div_mod_eq, decide_eq_true_eq]
        omega
      have t3 : ((-1 : Int32).toBitVec).toNat.testBit 15 = true := by decide
      rw [BitVec.toNat_and, BitVec.toNat_xor, Nat.testBit_and, Nat.testBit_xor, t1, t3] at t2
      simp at t2
  rw [e, i_bn (by omega)]
  omega
theorem k_ntz {M : zM} {p : Int32} (h0 : 0 ≤ p.toInt) (h1 : p.toInt < 65536) (hp : ¬ p = 0) {Q : Int32 → zM → Prop} (q : ∀ s : Int32, 0 ≤ s.toInt → s.toInt < 16 → Q s M) : z_T (F_J6_numberOfTrailingZeros_0f7a4 p) M Q := by
  have hp : p.toInt ≠ (0 : Int32).toInt := i_ne.mp hp
  have z0 : (0 : Int32).toInt = 0 := rfl
  obtain ⟨a0, a1⟩ := i_xa (p := p) (by omega) h1
  unfold F_J6_numberOfTrailingZeros_0f7a4
  refine ht_bd (ht_ret ?_)
  generalize (p ^^^ (-1)) &&& (p - 1) = x at a0 a1
  refine ht_if (fun hx => ?_) (fun hx => ?_)
  · have hx : (0 : Int32).toInt < x.toInt := i_lt.mp hx
    refine ht_if (fun _ => ?_) (fun h => ?_)
    · have fin : ∀ (x n : Int32), 0 ≤ x.toInt → 0 ≤ n.toInt → n.toInt + x.toInt / 2 < 16 → n.toInt < 16 → z_T (F_J6_numberOfTrailingZeros_0f7a4_74 x n) M Q := by
        intro x n b0 b1 b2 b3
        unfold F_J6_numberOfTrailingZeros_0f7a4_74
        have u := i_us (x := x) b0 (c := (1 : Int32).toUInt32 &&& Int32.toUInt32 31) (k := 1) rfl
        have s := i_add (a := n) (b := ((x : Int32).toUInt32 >>> ((1 : Int32).toUInt32 &&& Int32.toUInt32 31)).toInt32) (by rw [u]; omega) (by rw [u]; omega)
        rw [u] at s
        exact ht_ret (q _ (by rw [s]; omega) (by rw [s]; omega))
      have f62 : ∀ (x n : Int32), 0 ≤ x.toInt → x.toInt ≤ 16 → 0 ≤ n.toInt → n.toInt ≤ 9 ∨ (n.toInt ≤ 13 ∧ x.toInt ≤ 7) → z_T (F_J6_numberOfTrailingZeros_0f7a4_62 x n) M Q := by
        intro x n b0 b1 b2 b3
        unfold F_J6_numberOfTrailingZeros_0f7a4_62
        refine ht_if (fun h => ?_) (fun h => ?_)
        · have h : x.toInt ≤ (4 : Int32).toInt := i_le.mp h
          have e4 : (4 : Int32).toInt = 4 := rfl
          exact fin x n b0 b2 (by omega) (by omega)
        · refine ht_bd (ht_ret ?_)
          have u := i_us (x := x) b0 (c := (2 : Int32).toUInt32 &&& Int32.toUInt32 31) (k := 2) rfl
          have e2 : (2 : Int32).toInt = 2 := rfl
          have s := i_add (a := n) (b := 2) (by omega) (by omega)
          exact fin _ _ (by rw [u]; omega) (by omega) (by rw [u, s]; omega) (by omega)
      have f49 : ∀ (x n : Int32), 0 ≤ x.toInt → x.toInt ≤ 256 → 0 ≤ n.toInt → n.toInt ≤ 5 ∨ (n.toInt ≤ 9 ∧ x.toInt ≤ 127) → z_T (F_J6_numberOfTrailingZeros_0f7a4_49 x n) M Q := by
        intro x n b0 b1 b2 b3
        unfold F_J6_numberOfTrailingZeros_0f7a4_49
        refine ht_if (fun h => ?_) (fun h => ?_)
        · have h : x.toInt ≤ (16 : Int32).toInt := i_le.mp h
          have e4 : (16 : Int32).toInt = 16 := rfl
          exact f62 x n b0 (by omega) b2 (by omega)
        · refine ht_bd (ht_ret ?_)
          have u := i_us (x := x) b0 (c := (4 : Int32).toUInt32 &&& Int32.toUInt32 31) (k := 4) rfl
          have e2 : (4 : Int32).toInt = 4 := rfl
          have s := i_add (a := n) (b := 4) (by omega) (by omega)
          exact f62 _ _ (by rw [u]; omega) (by rw [u]; omega) (by omega) (by rw [u, s]; omega)
      unfold F_J6_numberOfTrailingZeros_0f7a4_34
      refine ht_if (fun h => ?_) (fun h => ?_)
      · have h : x.toInt ≤ (256 : Int32).toInt := i_le.mp h
        have e4 : (256 : Int32).toInt = 256 := rfl
        exact f49 x 1 a0 (by omega) (by decide) (Or.inl (by decide))
      · refine ht_bd (ht_ret ?_)
        have u := i_us (x := x) a0 (c := (8 : Int32).toUInt32 &&& Int32.toUInt32 31) (k := 8) rfl
        exact f49 _ _ (by rw [u]; omega) (by rw [u]; omega) (by decide) (Or.inr ⟨by decide, by rw [u]; omega⟩)
    · exfalso
      have h : (65536 : Int32).toInt < x.toInt := i_nle.mp h
      have e4 : (65536 : Int32).toInt = 65536 := rfl
      omega
  · have hx : x.toInt ≤ (0 : Int32).toInt := i_nlt.mp hx
    have ex : x = 0 := Int32.toInt_inj.mp (by omega)
    subst ex
    exact ht_ret (q _ (by decide) (by decide))
section SG
variable {g : Nat → zC} {D : List Nat} {M : zM}
theorem k_settleGroup (W : WT g D M) (hG : GOK g) {p : Int32} (h0 : 0 ≤ p.toInt) (h1 : p.toInt < 65536) {Q : Unit → zM → Prop} (q : ∀ M', WT g D M' → Q () M') : z_T (F_X9_settleGroup 39 p) M Q := by
  unfold F_X9_settleGroup F_X9_settleGroup_2
  have := i16
  refine ht_fix (body := fun ih s => B_X9_settleGroup_2 39 (fun y0 y1 => ih (y0, y1)) s.1 s.2) (I := fun n st M' => WT g D M' ∧ ∃ x : Int32, st = (p, x) ∧ 0 ≤ x.toInt ∧ x.toInt + n = 16) ?_ z_N 16 _ M (by decide) ⟨W, 0, rfl, by decide, by decide⟩
  intro n st M ih hI hih
  obtain ⟨W, x, rfl, hx, hn⟩ := hI
  unfold B_X9_settleGroup_2 F_X9_settleGroup_24
  dsimp only
  refine ht_if (fun _ => ?_) (fun h => ?_)
  · unfold F_X9_settleGroup_34
    refine ht_fix (body := fun ih s => B_X9_settleGroup_34 39 (fun y0 y1 y2 => ih (y0, y1, y2)) s.1 s.2.1 s.2.2) (I := fun n st M' => WT g D M' ∧ ∃ y x : Int32, st = (p, y, x) ∧ 0 ≤ y.toInt ∧ y.toInt < 65536 ∧ 0 ≤ x.toInt ∧ x.toInt + n = 4112) ?_ z_N 4112 _ M (by decide) ⟨W, p, 0, rfl, h0, h1, by decide, by decide⟩
    intro n st M ih hI hih
    obtain ⟨W, y, x, rfl, hy0, hy1, hx, hn⟩ := hI
    unfold B_X9_settleGroup_34 F_X9_settleGroup_146
    dsimp only
    refine ht_if (fun _ => ht_ret (q _ W)) (fun h => ?_)
    have h : x.toInt < (4112 : Int32).toInt := i_nle.mp h
    have e4 : (4112 : Int32).toInt = 4112 := rfl
    have e1 := i_s (a := x) (by omega)
    refine ht_if (fun _ => ht_ret (q _ W)) (fun hy => ?_)
    refine ht_bd (k_ntz hy0 hy1 hy fun s hs0 hs1 => ?_)
    refine ht_bd (ht_ret ?_)
    have ya := i_andl (b := y - 1) hy0
    obtain ⟨l, r, hh, hM, -⟩ := W.sol
    obtain ⟨c, hc, hkk⟩ := W.ar (a := 41) (t := 41) rfl rfl
    refine ht_bd (ht_ga hM (x := some 16) rfl ?_)
    refine ht_bd (k_sh W hs0 hs1 fun b hb => ?_)
    refine ht_bd (ht_ga hM (x := some 41) rfl ?_)
    refine ht_bd (ri_li hc hkk hs0 hs1 fun v1 _ => ?_)
    refine ht_bd (ht_ga hM (x := some 41) rfl ?_)
    refine ht_bd (ri_li hc hkk hs0 hs1 fun v2 _ => ?_)
    obtain ⟨k1, x1, y1, e', u1, w1, z1, hS, -⟩ := W.shape hb
    refine ht_bd (ht_gi hS rfl ?_)
    -- what follows
    have go : ∀ (M2 : zM) (v3 : Int32), WT g D M2 → z_T (F_X9_settleGroup_115 39 (fun y0 y1 y2 => ih (y0, y1, y2)) p (y &&& (y - 1)) x s v1 (some 41) s v2 v3) M2 Q := by
      intro M2 v3 W2
      unfold F_X9_settleGroup_115 F_X9_settleGroup_140
      refine ht_bd (ri_si W2 (a := 41) (t := 41) rfl rfl (by decide) hs0 hs1 trivial fun M3 W3 _ => ?_)
      obtain ⟨l, r, hh, hM3, -⟩ := W3.sol
      obtain ⟨c3, hc3, hkk3⟩ := W3.ar (a := 41) (t := 41) rfl rfl
      refine ht_bd (ht_ga hM3 (x := some 41) rfl ?_)
      refine ht_bd (ri_li hc3 hkk3 hs0 hs1 fun v4 _ => ?_)
      refine ht_if (fun _ => hih (n - 1) _ _ (by omega) ⟨W3, _, x + 1, rfl, by omega, by omega, by omega, by omega⟩) (fun _ => ?_)
      refine ht_bd (ht_rc hM3 ?_)
      refine ht_bd (k_those W3 fun t => ?_)
      refine ht_bd (ht_ret ?_)
      have pa := i_andl (b := t) h0
      have po := i_or (a := y &&& (y - 1)) (b := p &&& t) (by omega) (by omega) (by omega) (by omega)
      exact hih (n - 1) _ _ (by omega) ⟨W3, _, x + 1, rfl, po.1, po.2, by omega, by omega⟩
    refine ht_if (fun _ => ?_) (fun _ => ?_)
    · refine ht_bd (ht_ga hM (x := some 33) rfl ?_)
      refine ht_bd (ht_ga hM (x := some 41) rfl ?_)
      obtain ⟨nm, hMm, -⟩ := W.mat
      refine ht_bd (ht_rc hMm ?_)
      exact ht_bd (k_matching W hG hb fun v M2 W2 => go M2 v W2)
    · refine ht_bd (ht_rc hM ?_)
      exact ht_bd (k_combined W hb fun v => go M v W)
  · have h : x.toInt < (16 : Int32).toInt := i_nle.mp h
    have e1 := i_s (a := x) (by omega)
    refine ht_if (fun _ => hih (n - 1) _ _ (by omega) ⟨W, x + 1, rfl, by omega, by omega⟩) (fun _ => ?_)
    obtain ⟨l, r, hh, hM, -⟩ := W.sol
    refine ht_bd (ht_ga hM (x := some 41) rfl ?_)
    refine ht_bd (ri_si W (a := 41) (t := 41) rfl rfl (by decide) hx (by omega) trivial fun M1 W1 _ => ?_)
    exact hih (n - 1) _ _ (by omega) ⟨W1, x + 1, rfl, by omega, by omega⟩
theorem k_bc {p : Int32} {Q : Int32 → zM → Prop} (q : ∀ x, Q x M) : z_T (F_J6_bitCount_0f7a4 p) M Q := by
  unfold F_J6_bitCount_0f7a4
  exact ht_bd (ht_ret (ht_bd (ht_ret (ht_bd (ht_ret (ht_bd (ht_ret (ht_bd (ht_ret (ht_ret (q _)))))))))))
theorem k_settled (W : WT g D M) (hG : GOK g) {Q : Int32 → zM → Prop} (q : ∀ x M', WT g D M' → Q x M') : z_T (F_X9_settled 39) M Q := by
  unfold F_X9_settled
  rw [z_rb0, z_rb1]
  obtain ⟨l, r, hh, hM, -⟩ := W.sol
  refine ht_bd (ht_rc hM ?_)
  refine ht_bd (k_leastWrong W fun x M1 W1 => ?_)
  refine ht_if (fun _ => ?_) (fun _ => ht_ret (q _ _ W1))
  obtain ⟨l1, r1, h1, hM1, hr1, hh1⟩ := W1.sol
  refine ht_bd (ht_gi hM1 rfl ?_)
  refine ht_if (fun _ => ht_ret (q _ _ W1)) (fun _ => ?_)
  refine ht_bd (ht_pf (by decide) hM1 (by simp) ?_)
  have W2 := W1.set (a := 39) (t := 39) (c' := .inr (9, [.ref 16, .ref 33, .ref 40, .ref 41, .int l1, .int r1, .int 0])) rfl ⟨l1, r1, 0, rfl, hr1, by decide, by decide⟩
  show z_T _ (M1.set 39 (.inr (9, [.ref 16, .ref 33, .ref 40, .ref 41, .int l1, .int r1, .int 0]))) Q
  generalize M1.set 39 _ = M2 at W2
  unfold F_X9_settled_25
  have e16 := i16
  refine ht_fix (body := fun ih s => B_X9_settled_25 39 (fun y0 => ih y0) s) (I := fun n x M' => WT g D M' ∧ 0 ≤ x.toInt ∧ x.toInt + n = 17) ?_ z_N 16 _ M2 (by decide) ⟨W2, by decide, by decide⟩
  intro n x M ih hI hih
  obtain ⟨W, hx, hn⟩ := hI
  unfold B_X9_settled_25
  rw [z_rb1]
  refine ht_if (fun _ => ht_ret (q _ _ W)) (fun h => ?_)
  have h : x.toInt ≤ (16 : Int32).toInt := i_nlt.mp h
  have e1 := i_s (a := x) (by omega)
  unfold F_X9_settled_35
  refine ht_fix (body := fun ih2 s => B_X9_settled_35 39 (fun y0 => ih y0) (fun y0 y1 y2 => ih2 (y0, y1, y2)) s.1 s.2.1 s.2.2) (I := fun k st M' => WT g D M' ∧ ∃ z y : Int32, st = (x, z, y) ∧ 0 ≤ z.toInt ∧ z.toInt < 65536 ∧ 0 ≤ y.toInt ∧ y.toInt + k = 16) ?_ z_N 16 _ M (by decide) ⟨W, 0, 0, rfl, by decide, by decide, by decide, by decide⟩
  intro k st M ih2 hI2 hih2
  obtain ⟨W, z, y, rfl, hz0, hz1, hy, hk⟩ := hI2
  unfold B_X9_settled_35 F_X9_settled_66
  dsimp only
  obtain ⟨l, r, hh, hM, -⟩ := W.sol
  refine ht_if (fun _ => ?_) (fun h2 => ?_)
  · refine ht_bd (ht_rc hM ?_)
    refine ht_bd (k_settleGroup W hG hz0 hz1 fun M3 W3 => ?_)
    exact hih (n - 1) _ _ (by omega) ⟨W3, by omega, by omega⟩
  · have h2 : y.toInt < (16 : Int32).toInt := i_nle.mp h2
    have e2 := i_s (a := y) (by omega)
    obtain ⟨c, hc, hkk⟩ := W.ar (a := 40) (t := 40) rfl rfl
    refine ht_bd (ht_ga hM (x := some 40) rfl ?_)
    refine ht_bd (ri_li hc hkk hy (by omega) fun v _ => ?_)
    refine ht_bd (k_bc fun b => ?_)
    have sh := i_sh hy (by omega)
    refine ht_if (fun _ => ?_) (fun _ => ?_)
    · refine ht_bd (ht_ret ?_)
      have po := i_or hz0 hz1 sh.1 sh.2
      exact hih2 (k - 1) _ _ (by omega) ⟨W, _, y + 1, rfl, po.1, po.2, by omega, by omega⟩
    · refine ht_bd (ht_ret ?_)
      have po := i_or (b := 0) hz0 hz1 (by decide) (by decide)
      exact hih2 (k - 1) _ _ (by omega) ⟨W, _, y + 1, rfl, po.1, po.2, by omega, by omega⟩
end SG
