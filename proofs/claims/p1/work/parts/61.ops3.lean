/-! has, nodes, wrong -/
def a_has (p0 p1 : Int32) : Int32 := if g_in 16 p0 = 0 then -1 else if g_in 16 p1 = 0 then -1 else 0
theorem g_sh0 : ∀ n : Fin 16, ((0 : Int32) >>> (Int32.ofNat n.1 &&& 31)) &&& 1 = 0 := by decide +kernel
theorem x_has (p0 p1 : Int32) : z_T (F_X10_has 2 p0 p1) fr_1 fun x _ => x = a_has p0 p1 := by
  unfold F_X10_has F_X10_has_14 F_X10_has_44
  rw [e_n10, e_s10]
  refine ht_bd (ht_ret (ht_if (fun h0 => ht_ret (by unfold a_has; rw [if_pos h0])) (fun h0 => ?_)))
  refine ht_bd (ht_ret (ht_if (fun h1 => ht_ret (by unfold a_has; rw [if_neg h0, if_pos h1])) (fun h1 => ?_)))
  have ha : a_has p0 p1 = 0 := by unfold a_has; rw [if_neg h0, if_neg h1]
  rw [ha]
  obtain ⟨n, hn, rfl⟩ := g_in_ok (N := 16) (by decide) h0
  obtain ⟨m, hm, rfl⟩ := g_in_ok (N := 16) (by decide) h1
  refine ht_bd (ht_ga rfl (x := some 39) rfl ?_)
  refine ht_bd (ht_rc rfl ?_)
  refine ht_bd ⟨_, x_se, ?_⟩
  dsimp only
  rw [if_neg (by decide)]
  refine ht_bd (ht_ga rfl (x := some 39) rfl ?_)
  refine ht_bd (ht_ga rfl (x := some 41) rfl ?_)
  refine ht_bd (ht_li (x := 0) rfl (by decide) (n_nn (by omega)) (g_rp hm (by decide)) ?_)
  exact ht_ret (g_sh0 ⟨n, hn⟩)
def a_nodes (p0 : Int32) : Int32 := if g_in 16 p0 = 0 then -1 else 0
theorem x_nodes (p0 : Int32) : z_T (F_X10_nodes 2 p0) fr_1 fun x _ => x = a_nodes p0 := by
  unfold F_X10_nodes F_X10_nodes_33
  rw [e_s10]
  refine ht_bd (ht_ret (ht_if (fun h0 => ht_ret (by unfold a_nodes; rw [if_pos h0])) (fun h0 => ?_)))
  have ha : a_nodes p0 = 0 := by unfold a_nodes; rw [if_neg h0]
  rw [ha]
  obtain ⟨n, hn, rfl⟩ := g_in_ok (N := 16) (by decide) h0
  refine ht_bd (ht_ga rfl (x := some 39) rfl ?_)
  refine ht_bd (ht_rc rfl ?_)
  refine ht_bd ⟨_, x_se, ?_⟩
  dsimp only
  rw [if_neg (by decide)]
  refine ht_bd (ht_ga rfl (x := some 39) rfl ?_)
  refine ht_bd (ht_ga rfl (x := some 41) rfl ?_)
  refine ht_bd (ht_li (x := 0) rfl (by decide) (n_nn (by omega)) (g_rp hn (by decide)) ?_)
  exact ht_ret rfl
theorem x_wrong : z_T (F_X10_wrong 2) fr_1 fun x _ => x = -1 := by
  unfold F_X10_wrong
  refine ht_bd (ht_ga rfl (x := some 39) rfl ?_)
  refine ht_bd (ht_rc rfl ?_)
  refine ht_call (ht_ev x_lw) (fun a M e => ?_)
  exact ht_ret e
theorem y_has (p0 p1 : Int32) : z_T (F_X11_has 42 p0 p1) (fr_2 0) fun x _ => x = a_has p0 p1 := by
  unfold F_X11_has F_X11_has_19 F_X11_has_47
  rw [e_n11, e_s11]
  refine ht_bd (ht_pf (by decide) rfl (by decide) ?_)
  refine ht_bd (ht_ret (ht_if (fun h0 => ht_ret (by unfold a_has; rw [if_pos h0])) (fun h0 => ?_)))
  refine ht_bd (ht_ret (ht_if (fun h1 => ht_ret (by unfold a_has; rw [if_neg h0, if_pos h1])) (fun h1 => ?_)))
  have ha : a_has p0 p1 = 0 := by unfold a_has; rw [if_neg h0, if_neg h1]
  rw [ha]
  obtain ⟨n, hn, rfl⟩ := g_in_ok (N := 16) (by decide) h0
  obtain ⟨m, hm, rfl⟩ := g_in_ok (N := 16) (by decide) h1
  refine ht_bd (ht_rc rfl ?_)
  refine ht_bd ⟨_, y_re, ?_⟩
  dsimp only
  refine ht_bd (ht_gi rfl (x := -1) rfl ?_)
  rw [if_pos (by decide)]
  refine ht_bd (ht_ga rfl (x := some 52) rfl ?_)
  refine ht_bd (ht_li (x := 0) rfl (by decide) (n_nn (by omega)) (g_rp hm (by decide)) ?_)
  exact ht_ret (g_sh0 ⟨n, hn⟩)
theorem y_nodes (p0 : Int32) : z_T (F_X11_nodes 42 p0) (fr_2 0) fun x _ => x = a_nodes p0 := by
  unfold F_X11_nodes F_X11_nodes_36
  rw [e_s11]
  refine ht_bd (ht_pf (by decide) rfl (by decide) ?_)
  refine ht_bd (ht_ret (ht_if (fun h0 => ht_ret (by unfold a_nodes; rw [if_pos h0])) (fun h0 => ?_)))
  have ha : a_nodes p0 = 0 := by unfold a_nodes; rw [if_neg h0]
  rw [ha]
  obtain ⟨n, hn, rfl⟩ := g_in_ok (N := 16) (by decide) h0
  refine ht_bd (ht_rc rfl ?_)
  refine ht_bd ⟨_, y_re, ?_⟩
  dsimp only
  refine ht_bd (ht_gi rfl (x := -1) rfl ?_)
  rw [if_pos (by decide)]
  refine ht_bd (ht_ga rfl (x := some 52) rfl ?_)
  refine ht_bd (ht_li (x := 0) rfl (by decide) (n_nn (by omega)) (g_rp hn (by decide)) ?_)
  exact ht_ret rfl
theorem y_wrong : z_T (F_X11_wrong 42) (fr_2 0) fun x _ => x = -1 := by
  unfold F_X11_wrong
  refine ht_bd (ht_pf (by decide) rfl (by decide) ?_)
  refine ht_bd (ht_rc rfl ?_)
  refine ht_bd ⟨_, y_re, ?_⟩
  dsimp only
  refine ht_bd (ht_gi rfl (x := -1) rfl ?_)
  exact ht_ret rfl
/-! loose, ways: no shape is BARE -/
theorem x_ib {p1 : Int32} {Q : Int32 → zM → Prop} (q : Q 0 fr_1) : z_T (F_X10_isBare 2 p1) fr_1 Q := by
  unfold F_X10_isBare F_X10_isBare_23 F_X10_isBare_24
  rw [e_s10, z_rb0]
  refine ht_bd (ht_ret (ht_if (fun h0 => ht_ret q) (fun h0 => ?_)))
  obtain ⟨n, hn, rfl⟩ := g_in_ok (N := 16) (by decide) h0
  refine ht_bd (ht_ga rfl (x := some 16) rfl ?_)
  refine ht_bd (x_la hn ?_)
  refine ht_bd (ht_gi (x_sh0 ⟨n, hn⟩) (x := -1) rfl ?_)
  rw [if_neg (by decide)]
  exact ht_ret q
theorem x_loose (p0 p1 : Int32) : z_T (F_X10_loose 2 p0 p1) fr_1 fun x _ => x = -1 := by
  unfold F_X10_loose F_X10_loose_15
  rw [e_n10]
  refine ht_bd (ht_ret (ht_if (fun h0 => ht_ret rfl) (fun h0 => ?_)))
  refine ht_bd (ht_rc rfl ?_)
  refine ht_bd (x_ib ?_)
  rw [if_pos rfl]
  exact ht_ret rfl
theorem x_ways (p0 p1 : Int32) : z_T (F_X10_ways 2 p0 p1) fr_1 fun x _ => x = -1 := by
  unfold F_X10_ways F_X10_ways_15
  rw [e_n10]
  refine ht_bd (ht_ret (ht_if (fun h0 => ht_ret rfl) (fun h0 => ?_)))
  refine ht_bd (ht_rc rfl ?_)
  refine ht_bd (x_ib ?_)
  rw [if_pos rfl]
  exact ht_ret rfl
theorem y_ib {M : zM} {p1 : Int32} {fs : List Value} {Q : Int32 → zM → Prop} (h : M[42]? = some (.inr (11, fs))) (h7 : fs[7]? = some (.ref 48)) (h48 : M[48]? = some (.inl (0, List.replicate (Int32.toNatClampNeg 16) (.int (-1))))) (q : Q 0 M) : z_T (F_X11_isBare 42 p1) M Q := by
  unfold F_X11_isBare
  rw [e_s11]
  unfold F_X11_isBare_20 F_X11_isBare_21
  rw [z_rb0]
  refine ht_bd (ht_ret (ht_if (fun h0 => ht_ret q) (fun h0 => ?_)))
  obtain ⟨n, hn, rfl⟩ := g_in_ok (N := 16) (by decide) h0
  refine ht_bd (ht_ga h (x := some 48) h7 ?_)
  refine ht_bd (ht_li (x := -1) h48 (by decide) (n_nn (by omega)) (g_rp hn (by decide)) ?_)
  rw [if_neg (by decide)]
  exact ht_ret q
theorem y_loose (k : Nat) (p0 p1 : Int32) : z_T (F_X11_loose 42 p0 p1) (fr_2 k) fun x _ => x = -1 := by
  unfold F_X11_loose F_X11_loose_20
  rw [e_n11]
  refine ht_bd (ht_pf (by decide) rfl (by decide) ?_)
  refine ht_bd (ht_ret (ht_if (fun h0 => ht_ret rfl) (fun h0 => ?_)))
  refine ht_bd (ht_rc rfl ?_)
  refine ht_bd (y_ib rfl rfl rfl ?_)
  rw [if_pos rfl]
  exact ht_ret rfl
theorem y_ways (k : Nat) (p0 p1 : Int32) : z_T (F_X11_ways 42 p0 p1) (fr_2 k) fun x _ => x = -1 := by
  unfold F_X11_ways F_X11_ways_20
  rw [e_n11]
  refine ht_bd (ht_pf (by decide) rfl (by decide) ?_)
  refine ht_bd (ht_ret (ht_if (fun h0 => ht_ret rfl) (fun h0 => ?_)))
  refine ht_bd (ht_rc rfl ?_)
  refine ht_bd (y_ib rfl rfl rfl ?_)
  rw [if_pos rfl]
  exact ht_ret rfl
/-! other: the class throws, the reference says that it does -/
theorem y_other (k : Nat) (p0 p1 p2 : Int32) : z_T (F_X11_other 42 p0 p1 p2) (fr_2 k) fun _ P => ∃ fs, P[42]? = some (.inr (11, fs)) ∧ fs[22]? = some (.int 1) := by
  unfold F_X11_other
  refine ht_fix (body := fun ih s => B_X11_other_6 42 (fun y0 y1 y2 y3 y4 => ih (y0, y1, y2, y3, y4)) s.1 s.2.1 s.2.2.1 s.2.2.2.1 s.2.2.2.2) (I := fun n s P => P = fr_2 k ∧ ∃ x : Nat, s = (p0, p1, p2, 0, Int32.ofNat x) ∧ n + x = 128) ?_ z_N 128 _ (fr_2 k) (by decide) ⟨rfl, 0, rfl, rfl⟩
  intro n s P ih hI hih
  obtain ⟨rfl, x, rfl, hx⟩ := hI
  unfold B_X11_other_6 F_X11_other_97 F_X11_other_98 F_X11_other_118
  refine ht_if (fun h => ?_) (fun h => ?_)
  · have hthr : z_T (z_bd (z_pf (some 42) 11 22 (.int 1)) fun _ => z_bd (z_gi (some 42) 11 22) fun x11 => if x11 = 0 then (z_bd (z_ga (some 42) 11 23) fun r13 => z_bd (z_li r13 p2) fun x14 => z_ret x14) else (z_ret 0)) (fr_2 k) fun (_ : Int32) P => ∃ fs, P[42]? = some (.inr (11, fs)) ∧ fs[22]? = some (.int 1) := by
      refine ht_bd (ht_pf (by decide) rfl (by decide) ?_)
      refine ht_bd (ht_gi rfl (x := 1) rfl ?_)
      rw [if_neg (by decide)]
      exact ht_ret ⟨_, rfl, rfl⟩
    refine ht_if (fun _ => hthr) (fun h1 => ?_)
    dsimp only
    rw [if_pos (Int32.not_lt.mp h1)]
    exact hthr
  · have h' : ¬ 128 ≤ x := fun g => h ((n_le (a := 128) (by decide) (by omega)).mpr g)
    unfold F_X11_other_51 F_X11_other_76
    have hgo : z_T (ih (p0, p1, p2, 0, Int32.ofNat x + 1)) (fr_2 k) fun (_ : Int32) P => ∃ fs, P[42]? = some (.inr (11, fs)) ∧ fs[22]? = some (.int 1) := by
      rw [n_s]
      exact hih (n - 1) _ _ (by omega) ⟨rfl, x + 1, rfl, by omega⟩
    refine ht_if (fun _ => ?_) (fun _ => ?_)
    · refine ht_bd (ht_rc rfl ?_)
      refine ht_bd (y_fi0 rfl rfl ?_)
      rw [if_neg (by decide)]
      exact hgo
    · refine ht_bd (ht_rc rfl ?_)
      refine ht_bd (y_fi0 rfl rfl ?_)
      rw [if_neg (by decide)]
      exact hgo
