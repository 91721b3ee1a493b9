/-! BAG TABLES -/
def isT (e : Nat) : Prop := e = 3 ∨ e = 34
section TB
variable {g : Nat → zC} {D : List Nat} {M : zM} {e : Nat}
theorem tT0 (h : isT e) : (gB ++ D)[e]? = some e := by rcases h with rfl | rfl <;> rfl
theorem tT1 (h : isT e) : (gB ++ D)[e + 1]? = some (e + 1) := by rcases h with rfl | rfl <;> rfl
theorem tT2 (h : isT e) : (gB ++ D)[e + 2]? = some (e + 2) := by rcases h with rfl | rfl <;> rfl
theorem tT3 (h : isT e) : (gB ++ D)[e + 3]? = some (e + 3) := by rcases h with rfl | rfl <;> rfl
theorem okT0 (h : isT e) : okc g D e = pTab e := by rcases h with rfl | rfl <;> rfl
theorem okT1 (h : isT e) : okc g D (e + 1) = pI 3125 (rg 0 525) := by rcases h with rfl | rfl <;> rfl
theorem okT2 (h : isT e) : okc g D (e + 2) = pI 525 (fun v => (v &&& 16383).toInt < 3125) := by rcases h with rfl | rfl <;> rfl
theorem okT3 (h : isT e) : okc g D (e + 3) = pI 525 (fun _ => True) := by rcases h with rfl | rfl <;> rfl
theorem isT2 (h : isT e) : z_g0 ≤ e := by rcases h with rfl | rfl <;> decide
theorem isTa (h : isT e) {k : Nat} : 2 ≤ e + k := Nat.le_trans (isT2 h) (Nat.le_add_right _ _)
theorem WT.tab (W : WT g D M) (h : isT e) : ∃ n : Int32, M[e]? = some (.inr (2, [.ref (e + 1), .ref (e + 2), .ref (e + 3), .int n])) ∧ rg 0 525 n := by
  obtain ⟨c, hc, hk⟩ := W.get (tT0 h)
  rw [okT0 h] at hk
  obtain ⟨n, rfl, hn⟩ := hk
  exact ⟨n, hc, hn⟩
theorem WT.ar (W : WT g D M) {a t n : Nat} {p : Int32 → Prop} (h : (gB ++ D)[a]? = some t) (ht : okc g D t = pI n p) : ∃ c, M[a]? = some c ∧ pI n p c := by
  obtain ⟨c, hc, hk⟩ := W.get h
  rw [ht] at hk
  exact ⟨c, hc, hk⟩
/-- a write into an int[] that keeps what is known of other cells -/
theorem ri_sk {n t : Nat} {p : Int32 → Prop} {a : Nat} {i x : Int32} {Q : Unit → zM → Prop} (W : WT g D M) (hg : (gB ++ D)[a]? = some t) (ht : okc g D t = pI n p) (ha : 2 ≤ a) (h0 : 0 ≤ i.toInt) (h1 : i.toInt < n) (hx : p x) (q : ∀ M', WT g D M' → (∀ b, b ≠ a → M'[b]? = M[b]?) → Q () M') : z_T (z_si (some a) i x) M Q := by
  obtain ⟨c, hc, hk⟩ := W.get hg
  rw [ht] at hk
  obtain ⟨vs, rfl, hl, hv⟩ := hk
  have hi : i.toNatClampNeg < vs.length := by show i.toInt.toNat < _; omega
  refine ht_si ha hc (fun e => by have := Int32.lt_iff_toInt_lt.mp e; have e0 : (0 : Int32).toInt = 0 := rfl; omega) (by rw [List.length_map]; exact hi) ?_
  refine q _ (W.set hg ?_) (fun b hb => z_go (fun e => hb e.symm))
  rw [ht]
  exact pI_set hl hv hx
theorem k_clear (W : WT g D M) (he : isT e) {Q : Unit → zM → Prop} (q : ∀ M', WT g D M' → Q () M') : z_T (F_X2_clear e) M Q := by
  unfold F_X2_clear F_X2_clear_2
  refine ht_fix (body := fun ih s => B_X2_clear_2 e (fun y0 => ih y0) s) (I := fun n s M' => WT g D M' ∧ 0 ≤ s.toInt ∧ s.toInt + n = 525) ?_ z_N 525 0 M (by decide) ⟨W, by decide, by decide⟩
  intro n s M ih hI hih
  obtain ⟨W, h0, hn⟩ := hI
  unfold B_X2_clear_2
  obtain ⟨m, hM, hm⟩ := W.tab he
  refine ht_bd (ht_gi hM rfl ?_)
  refine ht_if (fun h => ?_) (fun h => ?_)
  · refine ht_bd (ht_pf (isT2 he) hM (by simp) ?_)
    exact ht_ret (q _ (W.set (tT0 he) (by rw [okT0 he]; exact ⟨0, rfl, by decide, by decide⟩)))
  · have h := i_nle.mp h
    have hm2 := hm.2
    refine ht_bd (ht_ga hM (x := some (e + 1)) rfl ?_)
    refine ht_bd (ht_ga hM (x := some (e + 2)) rfl ?_)
    obtain ⟨c, hc, hk⟩ := W.ar (tT2 he) (okT2 he)
    refine ht_bd (ri_li hc hk h0 (by omega) fun x hx => ?_)
    have ha : 0 ≤ (x &&& 16383).toInt ∧ (x &&& 16383).toInt ≤ (16383 : Nat) := i_and (m := 16383) (by decide)
    refine ht_bd (ri_si W (tT1 he) (okT1 he) (isTa he) ha.1 hx ⟨by decide, by decide⟩ fun M' W' _ => ?_)
    have e1 := i_s (a := s) (by omega)
    exact hih (n - 1) _ _ (by omega) ⟨W', by omega, by omega⟩
theorem k_spotOf (W : WT g D M) (he : isT e) {b : Int32} {Q : Int32 → zM → Prop} (q : ∀ x, rg (-1) 524 x → Q x M) : z_T (F_X2_spotOf e b) M Q := by
  unfold F_X2_spotOf F_X2_spotOf_25
  obtain ⟨m, hM, hm⟩ := W.tab he
  refine ht_bd (ht_ret ?_)
  have ha : 0 ≤ (b &&& 16383).toInt ∧ (b &&& 16383).toInt ≤ (16383 : Nat) := i_and (m := 16383) (by decide)
  refine ht_if (fun h => ?_) (fun _ => ht_ret (q _ ⟨by decide, by decide⟩))
  have h := i_lt.mp h
  refine ht_bd (ht_ga hM (x := some (e + 1)) rfl ?_)
  obtain ⟨c, hc, hk⟩ := W.ar (tT1 he) (okT1 he)
  refine ht_bd (ri_li hc hk ha.1 h fun x hx => ?_)
  have h1 : (1 : Int32).toInt = 1 := rfl
  have e1 : (x - 1).toInt = x.toInt - 1 := i_sub (by have := hx.1; omega) (by have := hx.2; omega)
  exact ht_ret (q _ ⟨by have := hx.1; omega, by have := hx.2; omega⟩)
theorem k_en74 (W : WT g D M) (he : isT e) {x : Int32} (h0 : 0 ≤ x.toInt) (h1 : x.toInt < 3125) {Q : Int32 → zM → Prop} (q : ∀ y, rg (-1) 524 y → Q y M) : z_T (F_X2_enter_74 e x) M Q := by
  unfold F_X2_enter_74
  obtain ⟨m, hM, hm⟩ := W.tab he
  refine ht_bd (ht_ga hM (x := some (e + 1)) rfl ?_)
  obtain ⟨c, hc, hk⟩ := W.ar (tT1 he) (okT1 he)
  refine ht_bd (ri_li hc hk h0 h1 fun y hy => ?_)
  have h1 : (1 : Int32).toInt = 1 := rfl
  have e1 : (y - 1).toInt = y.toInt - 1 := i_sub (by have := hy.1; omega) (by have := hy.2; omega)
  exact ht_ret (q _ ⟨by have := hy.1; omega, by have := hy.2; omega⟩)
theorem k_enter (W : WT g D M) (he : isT e) {b : Int32} {Q : Int32 → zM → Prop} (q : ∀ x M', WT g D M' → rg (-1) 524 x → Q x M') : z_T (F_X2_enter e b) M Q := by
  unfold F_X2_enter
  obtain ⟨m, hM, hm⟩ := W.tab he
  refine ht_bd (ht_ret ?_)
  have ha : 0 ≤ (b &&& 16383).toInt ∧ (b &&& 16383).toInt ≤ (16383 : Nat) := i_and (m := 16383) (by decide)
  refine ht_if (fun h => ?_) (fun _ => ht_ret (q _ _ W ⟨by decide, by decide⟩))
  have h : (b &&& 16383).toInt < 3125 := i_lt.mp h
  refine ht_bd (ht_ga hM (x := some (e + 1)) rfl ?_)
  obtain ⟨c, hc, hk⟩ := W.ar (tT1 he) (okT1 he)
  refine ht_bd (ri_li hc hk ha.1 h fun y hy => ?_)
  refine ht_if (fun _ => ?_) (fun _ => k_en74 W he ha.1 h fun y hy => q _ _ W hy)
  refine ht_bd (ht_gi hM rfl ?_)
  refine ht_if (fun _ => k_en74 W he ha.1 h fun y hy => q _ _ W hy) (fun h5 => ?_)
  have h5 : m.toInt < 525 := i_nle.mp h5
  have hm0 := hm.1
  refine ht_bd (ht_ga hM (x := some (e + 2)) rfl ?_)
  refine ht_bd (ht_gi hM rfl ?_)
  refine ht_bd (ri_sk W (tT2 he) (okT2 he) (isTa he) hm0 h5 h fun M1 W1 f1 => ?_)
  have hM1 : M1[e]? = _ := (f1 e (by omega)).trans hM
  refine ht_bd (ht_ga hM1 (x := some (e + 3)) rfl ?_)
  refine ht_bd (ht_gi hM1 rfl ?_)
  refine ht_bd (ri_sk W1 (tT3 he) (okT3 he) (isTa he) hm0 h5 trivial fun M2 W2 f2 => ?_)
  have hM2 : M2[e]? = _ := (f2 e (by omega)).trans hM1
  refine ht_bd (ht_gi hM2 rfl ?_)
  refine ht_bd (ht_pf (isT2 he) hM2 (by simp) ?_)
  have e1 := i_s (a := m) (by omega)
  have W3 := W2.set (c' := .inr (2, [.ref (e + 1), .ref (e + 2), .ref (e + 3), .int (m + 1)])) (tT0 he) (by rw [okT0 he]; exact ⟨_, rfl, by omega, by omega⟩)
  have hM3 := z_gs (c' := .inr (2, [.ref (e + 1), .ref (e + 2), .ref (e + 3), .int (m + 1)])) hM2
  refine ht_bd (ht_ga hM3 (x := some (e + 1)) rfl ?_)
  refine ht_bd (ht_gi hM3 (x := m + 1) rfl ?_)
  refine ht_bd (ri_sk W3 (tT1 he) (okT1 he) (isTa he) ha.1 h ⟨by omega, by omega⟩ fun M4 W4 f4 => ?_)
  exact k_en74 W4 he ha.1 h fun y hy => q _ _ W4 hy
theorem k_addTo (W : WT g D M) (he : isT e) {b v : Int32} {Q : Unit → zM → Prop} (q : ∀ M', WT g D M' → Q () M') : z_T (F_X2_addTo e b v) M Q := by
  unfold F_X2_addTo F_X2_addTo_20
  obtain ⟨m, hM, hm⟩ := W.tab he
  refine ht_bd (ht_rc hM ?_)
  refine ht_bd (k_enter W he fun x M1 W1 hx => ?_)
  refine ht_if (fun _ => ht_ret (q _ W1)) (fun h => ?_)
  have h := i_nlt.mp h
  have h0 : (0 : Int32).toInt = 0 := rfl
  have hx2 := hx.2
  obtain ⟨m1, hM1, -⟩ := W1.tab he
  refine ht_bd (ht_ga hM1 (x := some (e + 3)) rfl ?_)
  obtain ⟨c, hc, hk⟩ := W1.ar (tT3 he) (okT3 he)
  refine ht_bd (ri_li hc hk (by omega) (by omega) fun y _ => ?_)
  refine ht_bd (ri_si W1 (tT3 he) (okT3 he) (isTa he) (by omega) (by omega) trivial fun M2 W2 _ => ?_)
  exact ht_ret (q _ W2)
theorem k_markIn (W : WT g D M) (he : isT e) {b v : Int32} {Q : Unit → zM → Prop} (q : ∀ M', WT g D M' → Q () M') : z_T (F_X2_markIn e b v) M Q := by
  unfold F_X2_markIn F_X2_markIn_20
  obtain ⟨m, hM, hm⟩ := W.tab he
  refine ht_bd (ht_rc hM ?_)
  refine ht_bd (k_enter W he fun x M1 W1 hx => ?_)
  refine ht_if (fun _ => ht_ret (q _ W1)) (fun h => ?_)
  have h := i_nlt.mp h
  have h0 : (0 : Int32).toInt = 0 := rfl
  have hx2 := hx.2
  obtain ⟨m1, hM1, -⟩ := W1.tab he
  refine ht_bd (ht_ga hM1 (x := some (e + 3)) rfl ?_)
  obtain ⟨c, hc, hk⟩ := W1.ar (tT3 he) (okT3 he)
  refine ht_bd (ri_li hc hk (by omega) (by omega) fun y _ => ?_)
  refine ht_bd (ri_si W1 (tT3 he) (okT3 he) (isTa he) (by omega) (by omega) trivial fun M2 W2 _ => ?_)
  exact ht_ret (q _ W2)
/-! powers -/
theorem WT.pw (W : WT g D M) : M[1]? = some (.inl (2, zP)) := by
  obtain ⟨c, hc, hk⟩ := W.get (a := 1) (t := 1) rfl
  rw [hc]; exact congrArg some hk
theorem k_indexesOf (W : WT g D M) {p : Int32} {Q : Int32 → zM → Prop} (q : ∀ x, rg 0 3125 x → Q x M) : z_T (F_X1_indexesOf p) M Q := by
  unfold F_X1_indexesOf F_X1_indexesOf_20 F_X1_indexesOf_23
  refine ht_if (fun _ => ht_ret (q _ ⟨by decide, by decide⟩)) (fun h => ?_)
  refine ht_bd (ht_len W.pw ?_)
  refine ht_if (fun _ => ht_ret (q _ ⟨by decide, by decide⟩)) (fun h6 => ?_)
  have h6 : p.toInt < 6 := i_nle.mp h6
  have h0 : 0 ≤ p.toInt := i_nlt.mp h
  have hi : p.toNatClampNeg < 6 := by show p.toInt.toNat < 6; omega
  have hv : ∀ k : Nat, k < 6 → ∃ x, zP[k]? = some (.int x) ∧ rg 0 3125 x := fun k hk => by
    match k, hk with
    | 0, _ => exact ⟨_, rfl, by decide, by decide⟩
    | 1, _ => exact ⟨_, rfl, by decide, by decide⟩
    | 2, _ => exact ⟨_, rfl, by decide, by decide⟩
    | 3, _ => exact ⟨_, rfl, by decide, by decide⟩
    | 4, _ => exact ⟨_, rfl, by decide, by decide⟩
    | 5, _ => exact ⟨_, rfl, by decide, by decide⟩
  obtain ⟨x, hx, hr⟩ := hv _ hi
  refine ht_bd (ht_li W.pw (by decide) h hx ?_)
  exact ht_ret (q _ hr)
theorem k_ofOne (W : WT g D M) {p o : Int32} {Q : Int32 → zM → Prop} (q : ∀ x, Q x M) : z_T (F_X1_ofOne p o) M Q := by
  unfold F_X1_ofOne F_X1_ofOne_16
  refine ht_bd (k_indexesOf W fun x _ => ?_)
  exact ht_if (fun _ => ht_ret (q _)) (fun _ => ht_ret (q _))
end TB
