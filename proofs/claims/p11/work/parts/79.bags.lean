/-! SETS OF BAGS -/
section FR
variable {g : Nat → zC} {D : List Nat} {M : zM} {e : Nat}
/-- only the table's four cells change -/
def fT (e : Nat) (M M' : zM) : Prop := ∀ i, (i < e ∨ e + 3 < i) → M'[i]? = M[i]?
theorem fT.tr {A B C : zM} (h : fT e A B) (k : fT e B C) : fT e A C := fun i hi => (k i hi).trans (h i hi)
theorem fT.rf : fT e M M := fun _ _ => rfl
theorem fT.st {a : Nat} {M' : zM} (h : ∀ b, b ≠ a → M'[b]? = M[b]?) (h1 : e ≤ a) (h2 : a ≤ e + 3) : fT e M M' := fun i hi => h i (by omega)
theorem fT.se {a : Nat} {c' : zC} (h1 : e ≤ a) (h2 : a ≤ e + 3) : fT e M (M.set a c') := fun i hi => z_go (by omega)
theorem f_clear (W : WT g D M) (he : isT e) {Q : Unit → zM → Prop} (q : ∀ M', WT g D M' → fT e M M' → Q () M') : z_T (F_X2_clear e) M Q := by
  unfold F_X2_clear F_X2_clear_2
  refine ht_fix (body := fun ih s => B_X2_clear_2 e (fun y0 => ih y0) s) (I := fun n s M' => WT g D M' ∧ fT e M M' ∧ 0 ≤ s.toInt ∧ s.toInt + n = 525) ?_ z_N 525 0 M (by decide) ⟨W, fT.rf, by decide, by decide⟩
  intro n s M2 ih hI hih
  obtain ⟨W, f, h0, hn⟩ := hI
  unfold B_X2_clear_2
  obtain ⟨m, hM, hm⟩ := W.tab he
  refine ht_bd (ht_gi hM rfl ?_)
  refine ht_if (fun h => ?_) (fun h => ?_)
  · refine ht_bd (ht_pf (isT2 he) hM (by simp) ?_)
    exact ht_ret (q _ (W.set (tT0 he) (by rw [okT0 he]; exact ⟨0, rfl, by decide, by decide⟩)) (f.tr (fT.se (by omega) (by omega))))
  · have h := i_nle.mp h
    have hm2 := hm.2
    refine ht_bd (ht_ga hM (x := some (e + 1)) rfl ?_)
    refine ht_bd (ht_ga hM (x := some (e + 2)) rfl ?_)
    obtain ⟨c, hc, hk⟩ := W.ar (tT2 he) (okT2 he)
    refine ht_bd (ri_li hc hk h0 (by omega) fun x hx => ?_)
    have ha : 0 ≤ (x &&& 16383).toInt ∧ (x &&& 16383).toInt ≤ (16383 : Nat) := i_and (m := 16383) (by decide)
    refine ht_bd (ri_sk W (tT1 he) (okT1 he) (isTa he) ha.1 hx ⟨by decide, by decide⟩ fun M' W' f' => ?_)
    have e1 := i_s (a := s) (by omega)
    exact hih (n - 1) _ _ (by omega) ⟨W', f.tr (fT.st f' (by omega) (by omega)), by omega, by omega⟩
theorem f_enter (W : WT g D M) (he : isT e) {b : Int32} {Q : Int32 → zM → Prop} (q : ∀ x M', WT g D M' → fT e M M' → rg (-1) 524 x → Q x M') : z_T (F_X2_enter e b) M Q := by
  unfold F_X2_enter
  obtain ⟨m, hM, hm⟩ := W.tab he
  refine ht_bd (ht_ret ?_)
  have ha : 0 ≤ (b &&& 16383).toInt ∧ (b &&& 16383).toInt ≤ (16383 : Nat) := i_and (m := 16383) (by decide)
  refine ht_if (fun h => ?_) (fun _ => ht_ret (q _ _ W fT.rf ⟨by decide, by decide⟩))
  have h : (b &&& 16383).toInt < 3125 := i_lt.mp h
  refine ht_bd (ht_ga hM (x := some (e + 1)) rfl ?_)
  obtain ⟨c, hc, hk⟩ := W.ar (tT1 he) (okT1 he)
  refine ht_bd (ri_li hc hk ha.1 h fun y hy => ?_)
  refine ht_if (fun _ => ?_) (fun _ => k_en74 W he ha.1 h fun y hy => q _ _ W fT.rf hy)
  refine ht_bd (ht_gi hM rfl ?_)
  refine ht_if (fun _ => k_en74 W he ha.1 h fun y hy => q _ _ W fT.rf hy) (fun h5 => ?_)
  have h5 : m.toInt < 525 := i_nle.mp h5
  have hm0 := hm.1
  refine ht_bd (ht_ga hM (x := some (e + 2)) rfl ?_)
  refine ht_bd (ht_gi hM rfl ?_)
  refine ht_bd (ri_sk W (tT2 he) (okT2 he) (isTa he) hm0 h5 h fun M1 W1 f1 => ?_)
  have hM1 : M1[e]? = _ := (f1 e (by omega)).trans hM
  refine ht_bd (ht_ga hM1 (x := some (e + 3)) rfl ?_)
  refine ht_bd (ht_gi hM1 rfl ?_)
  refine ht_bd (ri_sk W1 (tT3 he) (okT3 he) (isTa he) hm0 h5 trivial fun M2 W2 f2 => ?_)
  have hM2 : M2[e]? = _ := (f2 e (by omega)).trans hM1
  refine ht_bd (ht_gi hM2 rfl ?_)
  refine ht_bd (ht_pf (isT2 he) hM2 (by simp) ?_)
  have e1 := i_s (a := m) (by omega)
  have W3 := W2.set (c' := .inr (2, [.ref (e + 1), .ref (e + 2), .ref (e + 3), .int (m + 1)])) (tT0 he) (by rw [okT0 he]; exact ⟨_, rfl, by omega, by omega⟩)
  have hM3 := z_gs (c' := .inr (2, [.ref (e + 1), .ref (e + 2), .ref (e + 3), .int (m + 1)])) hM2
  refine ht_bd (ht_ga hM3 (x := some (e + 1)) rfl ?_)
  refine ht_bd (ht_gi hM3 (x := m + 1) rfl ?_)
  refine ht_bd (ri_sk W3 (tT1 he) (okT1 he) (isTa he) ha.1 h ⟨by omega, by omega⟩ fun M4 W4 f4 => ?_)
  have F : fT e M M4 := (((fT.st f1 (by omega) (by omega)).tr (fT.st f2 (by omega) (by omega))).tr (fT.se (by omega) (by omega))).tr (fT.st f4 (by omega) (by omega))
  exact k_en74 W4 he ha.1 h fun y hy => q _ _ W4 F hy
theorem f_markIn (W : WT g D M) (he : isT e) {b v : Int32} {Q : Unit → zM → Prop} (q : ∀ M', WT g D M' → fT e M M' → Q () M') : z_T (F_X2_markIn e b v) M Q := by
  unfold F_X2_markIn F_X2_markIn_20
  obtain ⟨m, hM, hm⟩ := W.tab he
  refine ht_bd (ht_rc hM ?_)
  refine ht_bd (f_enter W he fun x M1 W1 f1 hx => ?_)
  refine ht_if (fun _ => ht_ret (q _ W1 f1)) (fun h => ?_)
  have h := i_nlt.mp h
  have h0 : (0 : Int32).toInt = 0 := rfl
  have hx2 := hx.2
  obtain ⟨m1, hM1, -⟩ := W1.tab he
  refine ht_bd (ht_ga hM1 (x := some (e + 3)) rfl ?_)
  obtain ⟨c, hc, hk⟩ := W1.ar (tT3 he) (okT3 he)
  refine ht_bd (ri_li hc hk (by omega) (by omega) fun y _ => ?_)
  refine ht_bd (ri_sk W1 (tT3 he) (okT3 he) (isTa he) (by omega) (by omega) trivial fun M2 W2 f2 => ?_)
  exact ht_ret (q _ W2 (f1.tr (fT.st f2 (by omega) (by omega))))
end FR
section BG
variable {g : Nat → zC} {D : List Nat} {M : zM}
theorem k_fits {p : Int32} {Q : Int32 → zM → Prop} (q : ∀ x, Q x M) : z_T (F_X1_fits p) M Q := by
  unfold F_X1_fits F_X1_fits_15
  rw [z_rb0, z_rb1]
  exact ht_if (fun _ => ht_ret (q _)) (fun _ => ht_ret (q _))
theorem k_moved (W : WT g D M) {a b : Nat} (ha : (gB ++ D)[a]? = some 101) (hb : (gB ++ D)[b]? = some 101) {p : Int32} {Q : Int32 → zM → Prop} (q : ∀ x, Q x M) : z_T (F_X1_moved p (some a) (some b)) M Q := by
  unfold F_X1_moved F_X1_moved_14
  refine ht_bd (ht_ret ?_)
  refine ht_bd (ht_ret ?_)
  obtain ⟨ps, hP, hl, hps⟩ := W.places ha
  refine ht_fix (body := fun ih s => B_X1_moved_14 (fun y0 y1 y2 y3 y4 => ih (y0, y1, y2, y3, y4)) s.1 s.2.1 s.2.2.1 s.2.2.2.1 s.2.2.2.2) (I := fun n st M' => M' = M ∧ ∃ u v x : Int32, st = (some a, some b, u, v, x) ∧ 0 ≤ x.toInt ∧ x.toInt + n = 5) ?_ z_N 5 _ M (by decide) ⟨rfl, _, _, 0, rfl, by decide, by decide⟩
  intro n st M' ih hI hih
  obtain ⟨rfl, u, v, x, rfl, hx, hn⟩ := hI
  unfold B_X1_moved_14
  dsimp only
  refine ht_bd (ht_len hP ?_)
  rw [List.length_map]
  have el := n_ti (n := ps.length) (by omega)
  refine ht_if (fun _ => ht_ret (q _)) (fun h => ?_)
  have h : x.toInt < (Int32.ofNat ps.length).toInt := i_nle.mp h
  have e1 := i_s (a := x) (by omega)
  refine ht_bd (rp_la (by decide) hP hx (by omega) fun c hc => ?_)
  obtain ⟨n1, o, l, s, hB, -⟩ := W.place (hps c hc)
  refine ht_bd (ht_gi hB rfl ?_)
  refine ht_bd (k_slotOf W hb fun y _ => ?_)
  refine ht_bd (k_indexesOf W fun z _ => ?_)
  refine ht_bd (ht_ret ?_)
  refine ht_bd (ht_ret ?_)
  exact hih (n - 1) _ _ (by omega) ⟨rfl, _, _, x + 1, rfl, by omega, by omega⟩
theorem WX.of (W : WX g D M) {M' : zM} (W' : WT g D M') (h : M'.length = M.length) : WX g D M' := ⟨W', W.2.trans h.symm⟩
/-- the table's end: its bags, copied -/
theorem k_out (W : WX g D M) {Q : Option Nat → zM → Prop} (q : ∀ (a : Nat) (D' : List Nat) (M' : zM), WX g D' M' → D'.length = D.length + 1 → (gB ++ D')[a]? = some 102 → (∀ b t : Nat, (gB ++ D)[b]? = some t → (gB ++ D')[b]? = some t) → Q (some a) M') : z_T (z_bd (z_ga (some 14) 4 1) fun r5 => z_bd (z_ga r5 2 1) fun r6 => z_bd (z_ga (some 14) 4 1) fun r7 => z_bd (z_gi r7 2 3) fun x8 => z_bd (F_J7_copyOf_59c91 r6 x8) fun r9 => z_ret r9) M Q := by
  obtain ⟨n, hn, -⟩ := W.c14
  obtain ⟨m, hT, hm⟩ := W.1.tab (e := 3) (Or.inl rfl)
  refine ht_bd (ht_ga hn (x := some 3) rfl ?_)
  refine ht_bd (ht_ga hT (x := some 5) rfl ?_)
  refine ht_bd (ht_ga hn (x := some 3) rfl ?_)
  refine ht_bd (ht_gi hT rfl ?_)
  refine ht_bd (k_copyOf W hm fun M1 W1 => ?_)
  exact ht_ret (q _ _ _ W1 (by simp) W.tn (fun b t h => gB_ext h))
/-- a program that keeps types keeps the length, if it makes nothing -/
theorem k_len {α : Type} {x : zMn α} {Q : α → zM → Prop} (hg : z_Gw 0 0 x) (h : z_T x M fun a M' => M'.length = M.length → Q a M') : z_T x M Q := by
  obtain ⟨r, h1, h2⟩ := h
  have := hg M r h1
  have h3 := x.2 M r h1
  exact ⟨r, h1, h2 (by have := h3.1; omega)⟩
theorem tag_hi {a t : Nat} (ht : 100 ≤ t) (h : (gB ++ D)[a]? = some t) : 69 ≤ a := by
  refine Nat.le_of_not_lt fun hl => ?_
  have hg : gB.length = 69 := by decide +kernel
  rw [List.getElem?_append_left (by omega)] at h
  have h' : ∀ i : Fin 69, ∃ t, gB[i.1]? = some t ∧ t < 100 := fun i => ⟨gB[i.1]'(by rw [hg]; exact i.2), List.getElem?_eq_getElem _, by
    have : ∀ t ∈ gB, t < 100 := by decide +kernel
    exact this _ (List.getElem_mem _)⟩
  obtain ⟨t', h1, h2⟩ := h' ⟨a, hl⟩
  dsimp only at h1
  rw [h1] at h
  cases h
  omega
theorem fT.hi {M' : zM} (f : fT 3 M M') {a t : Nat} (ht : 100 ≤ t) (h : (gB ++ D)[a]? = some t) : M'[a]? = M[a]? := f a (by have := tag_hi ht h; omega)
theorem kx_clear (W : WX g D M) {Q : Unit → zM → Prop} (q : ∀ M', WX g D M' → fT 3 M M' → Q () M') : z_T (F_X2_clear 3) M Q := k_len (w_F_X2_clear 3) (f_clear W.1 (Or.inl rfl) fun M' W' f hl => q M' (W.of W' hl) f)
theorem kx_enter (W : WX g D M) {b : Int32} {Q : Int32 → zM → Prop} (q : ∀ x M', WX g D M' → fT 3 M M' → Q x M') : z_T (F_X2_enter 3 b) M Q := k_len (w_F_X2_enter 3 b) (f_enter W.1 (Or.inl rfl) fun x M' W' f _ hl => q x M' (W.of W' hl) f)
theorem kx_markIn (W : WX g D M) {b v : Int32} {Q : Unit → zM → Prop} (q : ∀ M', WX g D M' → fT 3 M M' → Q () M') : z_T (F_X2_markIn 3 b v) M Q := k_len (w_F_X2_markIn 3 b v) (f_markIn W.1 (Or.inl rfl) fun M' W' f hl => q M' (W.of W' hl) f)
theorem k_together (W : WX g D M) {a b : Nat} (ha : (gB ++ D)[a]? = some 102) (hb : (gB ++ D)[b]? = some 102) {Q : Option Nat → zM → Prop} (q : ∀ (a : Nat) (D' : List Nat) (M' : zM), WX g D' M' → D'.length = D.length + 1 → (gB ++ D')[a]? = some 102 → (∀ b t : Nat, (gB ++ D)[b]? = some t → (gB ++ D')[b]? = some t) → Q (some a) M') : z_T (F_X4_together 14 (some a) (some b)) M Q := by
  unfold F_X4_together
  obtain ⟨n, hn, -⟩ := W.c14
  obtain ⟨m, hT, hm⟩ := W.1.tab (e := 3) (Or.inl rfl)
  obtain ⟨vs, hA, hl⟩ := W.1.bags ha
  obtain ⟨ws, hB, hlb⟩ := W.1.bags hb
  have el := n_ti (n := vs.length) (by omega)
  have elb := n_ti (n := ws.length) (by omega)
  refine ht_bd (ht_ga hn (x := some 3) rfl ?_)
  refine ht_bd (ht_rc hT ?_)
  refine ht_bd (kx_clear W fun M1 W1 f1 => ?_)
  unfold F_X4_together_9
  refine ht_fix (body := fun ih s => B_X4_together_9 14 (fun y0 y1 y2 => ih (y0, y1, y2)) s.1 s.2.1 s.2.2) (I := fun n st M' => WX g D M' ∧ fT 3 M M' ∧ ∃ x : Int32, st = (some a, some b, x) ∧ 0 ≤ x.toInt ∧ x.toInt + n = 525) ?_ z_N 525 _ M1 (by decide) ⟨W1, f1, 0, rfl, by decide, by decide⟩
  intro n st M2 ih hI hih
  obtain ⟨W, f, x, rfl, hx, hn⟩ := hI
  unfold B_X4_together_9
  dsimp only
  refine ht_bd (ht_len ((f.hi (by decide) ha).trans hA) ?_)
  rw [List.length_map]
  refine ht_if (fun _ => k_out W q) (fun h => ?_)
  have h : x.toInt < (Int32.ofNat vs.length).toInt := i_nle.mp h
  have e1 := i_s (a := x) (by omega)
  unfold F_X4_together_18
  refine ht_fix (body := fun ih2 s => B_X4_together_18 14 (fun y0 y1 y2 => ih (y0, y1, y2)) (fun y0 y1 y2 y3 => ih2 (y0, y1, y2, y3)) s.1 s.2.1 s.2.2.1 s.2.2.2) (I := fun k st M' => WX g D M' ∧ fT 3 M M' ∧ ∃ y : Int32, st = (some a, some b, x, y) ∧ 0 ≤ y.toInt ∧ y.toInt + k = 525) ?_ z_N 525 _ M2 (by decide) ⟨W, f, 0, rfl, by decide, by decide⟩
  intro k st M3 ih2 hI2 hih2
  obtain ⟨W, f, y, rfl, hy, hk⟩ := hI2
  unfold B_X4_together_18 F_X4_together_55
  dsimp only
  have hA3 := (f.hi (by decide) ha).trans hA
  have hB3 := (f.hi (by decide) hb).trans hB
  refine ht_bd (ht_len hB3 ?_)
  rw [List.length_map]
  refine ht_if (fun _ => hih (n - 1) _ _ (by omega) ⟨W, f, x + 1, rfl, by omega, by omega⟩) (fun h2 => ?_)
  have h2 : y.toInt < (Int32.ofNat ws.length).toInt := i_nle.mp h2
  have e2 := i_s (a := y) (by omega)
  refine ht_bd (rb_li hA3 hx (by omega) fun u => ?_)
  refine ht_bd (rb_li hB3 hy (by omega) fun v => ?_)
  refine ht_bd (k_fits fun t => ?_)
  refine ht_if (fun _ => hih2 (k - 1) _ _ (by omega) ⟨W, f, y + 1, rfl, by omega, by omega⟩) (fun _ => ?_)
  obtain ⟨n4, hn4, -⟩ := W.c14
  obtain ⟨m4, hT4, -⟩ := W.1.tab (e := 3) (Or.inl rfl)
  refine ht_bd (ht_ga hn4 (x := some 3) rfl ?_)
  refine ht_bd (rb_li hA3 hx (by omega) fun u => ?_)
  refine ht_bd (rb_li hB3 hy (by omega) fun v => ?_)
  refine ht_bd (ht_rc hT4 ?_)
  refine ht_bd (kx_enter W fun z M4 W4 f4 => ?_)
  exact hih2 (k - 1) _ _ (by omega) ⟨W4, f.tr f4, y + 1, rfl, by omega, by omega⟩
theorem k_eitherOf (W : WX g D M) {a b : Nat} (ha : (gB ++ D)[a]? = some 102) (hb : (gB ++ D)[b]? = some 102) {Q : Option Nat → zM → Prop} (q : ∀ (a : Nat) (D' : List Nat) (M' : zM), WX g D' M' → D'.length = D.length + 1 → (gB ++ D')[a]? = some 102 → (∀ b t : Nat, (gB ++ D)[b]? = some t → (gB ++ D')[b]? = some t) → Q (some a) M') : z_T (F_X4_eitherOf 14 (some a) (some b)) M Q := by
  unfold F_X4_eitherOf
  obtain ⟨n, hn, -⟩ := W.c14
  obtain ⟨m, hT, hm⟩ := W.1.tab (e := 3) (Or.inl rfl)
  obtain ⟨vs, hA, hl⟩ := W.1.bags ha
  obtain ⟨ws, hB, hlb⟩ := W.1.bags hb
  have el := n_ti (n := vs.length) (by omega)
  have elb := n_ti (n := ws.length) (by omega)
  refine ht_bd (ht_ga hn (x := some 3) rfl ?_)
  refine ht_bd (ht_rc hT ?_)
  refine ht_bd (kx_clear W fun M1 W1 f1 => ?_)
  unfold F_X4_eitherOf_9
  refine ht_fix (body := fun ih s => B_X4_eitherOf_9 14 (fun y0 y1 y2 => ih (y0, y1, y2)) s.1 s.2.1 s.2.2) (I := fun n st M' => WX g D M' ∧ fT 3 M M' ∧ ∃ x : Int32, st = (some a, some b, x) ∧ 0 ≤ x.toInt ∧ x.toInt + n = 525) ?_ z_N 525 _ M1 (by decide) ⟨W1, f1, 0, rfl, by decide, by decide⟩
  intro n st M2 ih hI hih
  obtain ⟨W, f, x, rfl, hx, hn⟩ := hI
  unfold B_X4_eitherOf_9
  dsimp only
  have hA2 := (f.hi (by decide) ha).trans hA
  refine ht_bd (ht_len hA2 ?_)
  rw [List.length_map]
  refine ht_if (fun _ => ?_) (fun h => ?_)
  · unfold F_X4_eitherOf_34
    refine ht_fix (body := fun ih s => B_X4_eitherOf_34 14 (fun y0 y1 => ih (y0, y1)) s.1 s.2) (I := fun k st M' => WX g D M' ∧ fT 3 M M' ∧ ∃ y : Int32, st = (some b, y) ∧ 0 ≤ y.toInt ∧ y.toInt + k = 525) ?_ z_N 525 _ M2 (by decide) ⟨W, f, 0, rfl, by decide, by decide⟩
    intro k st M3 ih2 hI2 hih2
    obtain ⟨W, f, y, rfl, hy, hk⟩ := hI2
    unfold B_X4_eitherOf_34
    dsimp only
    have hB3 := (f.hi (by decide) hb).trans hB
    refine ht_bd (ht_len hB3 ?_)
    rw [List.length_map]
    refine ht_if (fun _ => k_out W q) (fun h2 => ?_)
    have h2 : y.toInt < (Int32.ofNat ws.length).toInt := i_nle.mp h2
    have e2 := i_s (a := y) (by omega)
    obtain ⟨n4, hn4, -⟩ := W.c14
    obtain ⟨m4, hT4, -⟩ := W.1.tab (e := 3) (Or.inl rfl)
    refine ht_bd (ht_ga hn4 (x := some 3) rfl ?_)
    refine ht_bd (rb_li hB3 hy (by omega) fun v => ?_)
    refine ht_bd (ht_rc hT4 ?_)
    refine ht_bd (kx_enter W fun z M4 W4 f4 => ?_)
    exact hih2 (k - 1) _ _ (by omega) ⟨W4, f.tr f4, y + 1, rfl, by omega, by omega⟩
  · have h : x.toInt < (Int32.ofNat vs.length).toInt := i_nle.mp h
    have e1 := i_s (a := x) (by omega)
    obtain ⟨n4, hn4, -⟩ := W.c14
    obtain ⟨m4, hT4, -⟩ := W.1.tab (e := 3) (Or.inl rfl)
    refine ht_bd (ht_ga hn4 (x := some 3) rfl ?_)
    refine ht_bd (rb_li hA2 hx (by omega) fun v => ?_)
    refine ht_bd (ht_rc hT4 ?_)
    refine ht_bd (kx_enter W fun z M4 W4 f4 => ?_)
    exact hih (n - 1) _ _ (by omega) ⟨W4, f.tr f4, x + 1, rfl, by omega, by omega⟩
theorem k_holdsEmpty (W : WX g D M) {a : Nat} (ha : (gB ++ D)[a]? = some 102) {Q : Int32 → zM → Prop} (q : ∀ x, Q x M) : z_T (F_X4_holdsEmpty (some a)) M Q := by
  obtain ⟨vs, hA, hl⟩ := W.1.bags ha
  have el := n_ti (n := vs.length) (by omega)
  unfold F_X4_holdsEmpty F_X4_holdsEmpty_2
  refine ht_fix (body := fun ih s => B_X4_holdsEmpty_2 (fun y0 y1 => ih (y0, y1)) s.1 s.2) (I := fun n st M' => M' = M ∧ ∃ x : Int32, st = (some a, x) ∧ 0 ≤ x.toInt ∧ x.toInt + n = 525) ?_ z_N 525 _ M (by decide) ⟨rfl, 0, rfl, by decide, by decide⟩
  intro n st M2 ih hI hih
  obtain ⟨rfl, x, rfl, hx, hn⟩ := hI
  unfold B_X4_holdsEmpty_2
  dsimp only
  rw [z_rb0, z_rb1]
  refine ht_bd (ht_len hA ?_)
  rw [List.length_map]
  refine ht_if (fun _ => ht_ret (q _)) (fun h => ?_)
  have h : x.toInt < (Int32.ofNat vs.length).toInt := i_nle.mp h
  have e1 := i_s (a := x) (by omega)
  refine ht_bd (rb_li hA hx (by omega) fun v => ?_)
  exact ht_if (fun _ => ht_ret (q _)) (fun _ => hih (n - 1) _ _ (by omega) ⟨rfl, x + 1, rfl, by omega, by omega⟩)
theorem k_countParts (W : WX g D M) {a : Nat} (ha : (gB ++ D)[a]? = some 103) {Q : Unit → zM → Prop} (q : ∀ M', WX g D M' → fT 3 M M' → Q () M') : z_T (F_X4_countParts 14 (some a)) M Q := by
  unfold F_X4_countParts
  obtain ⟨n, hn, -⟩ := W.c14
  obtain ⟨m, hT, hm⟩ := W.1.tab (e := 3) (Or.inl rfl)
  obtain ⟨w, pl, bg, o, i, r, hE, -, hpl, hbg⟩ := W.1.expr ha
  obtain ⟨ps, hP, hpl5, -⟩ := W.1.places hpl
  obtain ⟨vs, hA, hl⟩ := W.1.bags hbg
  have el := n_ti (n := vs.length) (by omega)
  refine ht_bd (ht_ga hn (x := some 3) rfl ?_)
  refine ht_bd (ht_rc hT ?_)
  refine ht_bd (kx_clear W fun M1 W1 f1 => ?_)
  obtain ⟨n1, hn1, -⟩ := W1.c14
  obtain ⟨m1, hT1, -⟩ := W1.1.tab (e := 3) (Or.inl rfl)
  refine ht_bd (ht_ga hn1 (x := some 3) rfl ?_)
  refine ht_bd (ht_rc hT1 ?_)
  refine ht_bd (kx_markIn W1 fun M2 W2 f2 => ?_)
  have f2 := f1.tr f2
  refine ht_bd (ht_ga ((f2.hi (by decide) ha).trans hE) (x := some pl) rfl ?_)
  refine ht_bd (ht_len ((f2.hi (by decide) hpl).trans hP) ?_)
  refine ht_bd (k_indexesOf W2.1 fun z hz => ?_)
  have hz2 := hz.2
  unfold F_X4_countParts_27
  refine ht_fix (body := fun ih s => B_X4_countParts_27 14 (fun y0 y1 y2 => ih (y0, y1, y2)) s.1 s.2.1 s.2.2) (I := fun n st M' => WX g D M' ∧ fT 3 M M' ∧ ∃ x : Int32, st = (some a, z, x) ∧ 0 ≤ x.toInt ∧ x.toInt + n = 3125) ?_ z_N 3125 _ M2 (by decide) ⟨W2, f2, 0, rfl, by decide, by decide⟩
  intro n st M3 ih hI hih
  obtain ⟨W, f, x, rfl, hx, hn⟩ := hI
  unfold B_X4_countParts_27
  dsimp only
  refine ht_if (fun _ => ht_ret (q _ W f)) (fun h => ?_)
  have h : x.toInt < z.toInt := i_nle.mp h
  have e1 := i_s (a := x) (by omega)
  obtain ⟨n3, hn3, -⟩ := W.c14
  obtain ⟨m3, hT3, -⟩ := W.1.tab (e := 3) (Or.inl rfl)
  refine ht_bd (ht_ga hn3 (x := some 3) rfl ?_)
  refine ht_bd (ht_rc hT3 ?_)
  refine ht_bd (k_spotOf W.1 (Or.inl rfl) fun s hs => ?_)
  have hs2 := hs.2
  unfold F_X4_countParts_45
  refine ht_fix (body := fun ih2 s => B_X4_countParts_45 14 (fun y0 y1 y2 => ih (y0, y1, y2)) (fun y0 y1 y2 y3 y4 => ih2 (y0, y1, y2, y3, y4)) s.1 s.2.1 s.2.2.1 s.2.2.2.1 s.2.2.2.2) (I := fun k st M' => WX g D M' ∧ fT 3 M M' ∧ ∃ y : Int32, st = (some a, z, x, s, y) ∧ 0 ≤ y.toInt ∧ y.toInt + k = 525) ?_ z_N 525 _ M3 (by decide) ⟨W, f, 0, rfl, by decide, by decide⟩
  intro k st M4 ih2 hI2 hih2
  obtain ⟨W, f, y, rfl, hy, hk⟩ := hI2
  unfold B_X4_countParts_45 F_X4_countParts_125 F_X4_countParts_119
  dsimp only
  refine ht_if (fun _ => hih (n - 1) _ _ (by omega) ⟨W, f, x + 1, rfl, by omega, by omega⟩) (fun hs0 => ?_)
  have hs0 : (0 : Int32).toInt ≤ s.toInt := i_nlt.mp hs0
  have := i0
  have hE4 := (f.hi (by decide) ha).trans hE
  have hA4 := (f.hi (by decide) hbg).trans hA
  refine ht_bd (ht_ga hE4 (x := some bg) rfl ?_)
  refine ht_bd (ht_len hA4 ?_)
  rw [List.length_map]
  refine ht_if (fun _ => hih (n - 1) _ _ (by omega) ⟨W, f, x + 1, rfl, by omega, by omega⟩) (fun h2 => ?_)
  have h2 : y.toInt < (Int32.ofNat vs.length).toInt := i_nle.mp h2
  have e2 := i_s (a := y) (by omega)
  have nx : ∀ M5, WX g D M5 → fT 3 M M5 → z_T (ih2 (some a, z, x, s, y + 1)) M5 Q := fun M5 W5 f5 => hih2 (k - 1) _ _ (by omega) ⟨W5, f5, y + 1, rfl, by omega, by omega⟩
  obtain ⟨n4, hn4, -⟩ := W.c14
  obtain ⟨m4, hT4, -⟩ := W.1.tab (e := 3) (Or.inl rfl)
  obtain ⟨c5, hc5, hk5⟩ := W.1.ar (a := 5) (t := 5) rfl rfl
  obtain ⟨c6, hc6, hk6⟩ := W.1.ar (a := 6) (t := 6) rfl rfl
  refine ht_bd (ht_ga hn4 (x := some 3) rfl ?_)
  refine ht_bd (ht_ga hT4 (x := some 5) rfl ?_)
  refine ht_bd (ri_li hc5 hk5 (by omega) (by omega) fun u _ => ?_)
  refine ht_bd (ht_ga hE4 (x := some bg) rfl ?_)
  refine ht_bd (rb_li hA4 hy (by omega) fun v => ?_)
  refine ht_bd (ht_ret ?_)
  refine ht_bd (ht_ga hE4 (x := some bg) rfl ?_)
  refine ht_bd (rb_li hA4 hy (by omega) fun v2 => ?_)
  refine ht_if (fun _ => nx _ W f) (fun _ => ?_)
  refine ht_bd (k_fits fun t => ?_)
  refine ht_if (fun _ => nx _ W f) (fun _ => ?_)
  refine ht_bd (ht_ga hn4 (x := some 3) rfl ?_)
  refine ht_bd (ht_ga hn4 (x := some 3) rfl ?_)
  refine ht_bd (ht_ga hT4 (x := some 6) rfl ?_)
  refine ht_bd (ri_li hc6 hk6 (by omega) (by omega) fun w2 _ => ?_)
  refine ht_bd (ht_rc hT4 ?_)
  refine ht_bd (kx_markIn W fun M5 W5 f5 => ?_)
  exact nx _ W5 (f.tr f5)
end BG
