/-! THE CLASS's CALLS, BUT FOR expression AND arc: they answer, and the memory stays typed -/
section CA
variable {g : Nat → zC} {D : List Nat} {M : zM}
theorem WT.top (W : WT g D M) : M[2]? = some (.inr (10, [.ref 7, .ref 14, .ref 16, .ref 33, .ref 39])) := by
  obtain ⟨c, hc, hk⟩ := W.get (a := 2) (t := 2) rfl
  rw [hc]; exact congrArg some hk
theorem g_in_i {N : Nat} (hN : N < 2147483648) {p : Int32} (h : ¬ g_in (Int32.ofNat N) p = 0) : 0 ≤ p.toInt ∧ p.toInt < N := by
  obtain ⟨n, hn, rfl⟩ := g_in_ok (N := N) (by omega) h
  rw [n_ti (by omega)]
  omega
theorem c_has (W : WT g D M) (hG : GOK g) {p0 p1 : Int32} {Q : Int32 → zM → Prop} (q : ∀ x M', WT g D M' → Q x M') : z_T (F_X10_has 2 p0 p1) M Q := by
  unfold F_X10_has F_X10_has_14 F_X10_has_44
  rw [e_n10, e_s10]
  refine ht_bd (ht_ret (ht_if (fun _ => ht_ret (q _ _ W)) (fun h0 => ?_)))
  refine ht_bd (ht_ret (ht_if (fun _ => ht_ret (q _ _ W)) (fun h1 => ?_)))
  have h1 := g_in_i (N := 16) (by decide) h1
  refine ht_bd (ht_ga W.top (x := some 39) rfl ?_)
  obtain ⟨l, r, hh, hM, -⟩ := W.sol
  refine ht_bd (ht_rc hM ?_)
  refine ht_bd (k_settled W hG fun x M1 W1 => ?_)
  refine ht_if (fun _ => ht_ret (q _ _ W1)) (fun _ => ?_)
  obtain ⟨l1, r1, hh1, hM1, -⟩ := W1.sol
  refine ht_bd (ht_ga W1.top (x := some 39) rfl ?_)
  refine ht_bd (ht_ga hM1 (x := some 41) rfl ?_)
  obtain ⟨c, hc, hkk⟩ := W1.ar (a := 41) (t := 41) rfl rfl
  refine ht_bd (ri_li hc hkk h1.1 h1.2 fun v _ => ?_)
  exact ht_ret (q _ _ W1)
theorem c_nodes (W : WT g D M) (hG : GOK g) {p0 : Int32} {Q : Int32 → zM → Prop} (q : ∀ x M', WT g D M' → Q x M') : z_T (F_X10_nodes 2 p0) M Q := by
  unfold F_X10_nodes F_X10_nodes_33
  rw [e_s10]
  refine ht_bd (ht_ret (ht_if (fun _ => ht_ret (q _ _ W)) (fun h1 => ?_)))
  have h1 := g_in_i (N := 16) (by decide) h1
  refine ht_bd (ht_ga W.top (x := some 39) rfl ?_)
  obtain ⟨l, r, hh, hM, -⟩ := W.sol
  refine ht_bd (ht_rc hM ?_)
  refine ht_bd (k_settled W hG fun x M1 W1 => ?_)
  refine ht_if (fun _ => ht_ret (q _ _ W1)) (fun _ => ?_)
  obtain ⟨l1, r1, hh1, hM1, -⟩ := W1.sol
  refine ht_bd (ht_ga W1.top (x := some 39) rfl ?_)
  refine ht_bd (ht_ga hM1 (x := some 41) rfl ?_)
  obtain ⟨c, hc, hkk⟩ := W1.ar (a := 41) (t := 41) rfl rfl
  refine ht_bd (ri_li hc hkk h1.1 h1.2 fun v _ => ?_)
  exact ht_ret (q _ _ W1)
theorem c_wrong (W : WT g D M) {Q : Int32 → zM → Prop} (q : ∀ x M', WT g D M' → Q x M') : z_T (F_X10_wrong 2) M Q := by
  unfold F_X10_wrong
  refine ht_bd (ht_ga W.top (x := some 39) rfl ?_)
  obtain ⟨l, r, hh, hM, -⟩ := W.sol
  refine ht_bd (ht_rc hM ?_)
  refine ht_bd (k_leastWrong W fun x M1 W1 => ?_)
  exact ht_ret (q _ _ W1)
theorem k_isBare (W : WT g D M) {p : Int32} {Q : Int32 → zM → Prop} (q : ∀ x, (¬ x = 0 → 0 ≤ p.toInt ∧ p.toInt < 16) → Q x M) : z_T (F_X10_isBare 2 p) M Q := by
  unfold F_X10_isBare F_X10_isBare_23 F_X10_isBare_24
  rw [e_s10, z_rb0, z_rb1]
  refine ht_bd (ht_ret (ht_if (fun _ => ht_ret (q _ (fun h => absurd rfl h))) (fun h1 => ?_)))
  have h1 := g_in_i (N := 16) (by decide) h1
  refine ht_bd (ht_ga W.top (x := some 16) rfl ?_)
  refine ht_bd (k_sh W h1.1 h1.2 fun b hb => ?_)
  obtain ⟨k1, x1, y1, e', u1, w1, z1, hS, -⟩ := W.shape hb
  refine ht_bd (ht_gi hS rfl ?_)
  exact ht_if (fun _ => ht_ret (q _ (fun _ => h1))) (fun _ => ht_ret (q _ (fun h => absurd rfl h)))
theorem c_loose (W : WT g D M) (hG : GOK g) {p0 p1 : Int32} {Q : Int32 → zM → Prop} (q : ∀ x M', WT g D M' → Q x M') : z_T (F_X10_loose 2 p0 p1) M Q := by
  unfold F_X10_loose F_X10_loose_15 F_X10_loose_53
  rw [e_n10]
  refine ht_bd (ht_ret (ht_if (fun _ => ht_ret (q _ _ W)) (fun h0 => ?_)))
  have h0 := g_in_i (N := 16) (by decide) h0
  refine ht_bd (ht_rc W.top ?_)
  refine ht_bd (k_isBare W fun x hx => ?_)
  refine ht_if (fun _ => ht_ret (q _ _ W)) (fun h1 => ?_)
  have h1 := hx h1
  refine ht_bd (ht_ga W.top (x := some 39) rfl ?_)
  obtain ⟨l, r, hh, hM, -⟩ := W.sol
  refine ht_bd (ht_rc hM ?_)
  refine ht_bd (k_settled W hG fun x M1 W1 => ?_)
  refine ht_if (fun _ => ht_ret (q _ _ W1)) (fun _ => ?_)
  obtain ⟨l1, r1, hh1, hM1, -⟩ := W1.sol
  refine ht_bd (ht_ga W1.top (x := some 33) rfl ?_)
  refine ht_bd (ht_ga W1.top (x := some 16) rfl ?_)
  refine ht_bd (k_sh W1 h1.1 h1.2 fun b hb => ?_)
  refine ht_bd (ht_ga W1.top (x := some 39) rfl ?_)
  refine ht_bd (ht_ga hM1 (x := some 41) rfl ?_)
  obtain ⟨nm, hMm, -⟩ := W1.mat
  refine ht_bd (ht_rc hMm ?_)
  refine ht_bd (k_loose W1 hG hb h0.1 h0.2 fun v M2 W2 => ?_)
  exact ht_ret (q _ _ W2)
theorem c_ways (W : WT g D M) (hG : GOK g) {p0 p1 : Int32} {Q : Int32 → zM → Prop} (q : ∀ x M', WT g D M' → Q x M') : z_T (F_X10_ways 2 p0 p1) M Q := by
  unfold F_X10_ways F_X10_ways_15 F_X10_ways_53
  rw [e_n10]
  refine ht_bd (ht_ret (ht_if (fun _ => ht_ret (q _ _ W)) (fun h0 => ?_)))
  have h0 := g_in_i (N := 16) (by decide) h0
  refine ht_bd (ht_rc W.top ?_)
  refine ht_bd (k_isBare W fun x hx => ?_)
  refine ht_if (fun _ => ht_ret (q _ _ W)) (fun h1 => ?_)
  have h1 := hx h1
  refine ht_bd (ht_ga W.top (x := some 39) rfl ?_)
  obtain ⟨l, r, hh, hM, -⟩ := W.sol
  refine ht_bd (ht_rc hM ?_)
  refine ht_bd (k_settled W hG fun x M1 W1 => ?_)
  refine ht_if (fun _ => ht_ret (q _ _ W1)) (fun _ => ?_)
  obtain ⟨l1, r1, hh1, hM1, -⟩ := W1.sol
  refine ht_bd (ht_ga W1.top (x := some 33) rfl ?_)
  refine ht_bd (ht_ga W1.top (x := some 16) rfl ?_)
  refine ht_bd (k_sh W1 h1.1 h1.2 fun b hb => ?_)
  refine ht_bd (ht_ga W1.top (x := some 39) rfl ?_)
  refine ht_bd (ht_ga hM1 (x := some 41) rfl ?_)
  obtain ⟨nm, hMm, -⟩ := W1.mat
  refine ht_bd (ht_rc hMm ?_)
  refine ht_bd (k_ways W1 hG hb h0.1 h0.2 fun v M2 W2 => ?_)
  exact ht_ret (q _ _ W2)
end CA
