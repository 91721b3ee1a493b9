/-! PLACES AND THE MATCHER -/
def GOK (g : Nat → zC) : Prop := (∃ s : Int32, g 7 = .inr (5, [.ref 8, .ref 11, .int s])) ∧ g 8 = .inr (1, [.ref 9, .ref 10]) ∧ g 11 = .inr (1, [.ref 12, .ref 13]) ∧ pI 64 (fun _ => True) (g 9) ∧ pI 16 (rg 0 4) (g 10) ∧ pI 64 (fun _ => True) (g 12) ∧ pI 16 (rg 0 4) (g 13)
theorem n_ti {n : Nat} (h : n < 2147483648) : (Int32.ofNat n).toInt = n := Int32.toInt_ofNat_of_lt h
section MT
variable {g : Nat → zC} {D : List Nat} {M : zM}
theorem WT.expr (W : WT g D M) {a : Nat} (h : (gB ++ D)[a]? = some 103) : ∃ (w : Int32) (pl bg : Nat) (o i r : Int32), M[a]? = some (.inr (3, [.int w, .ref pl, .ref bg, .int o, .int i, .int r])) ∧ rg 0 1 w ∧ (gB ++ D)[pl]? = some 101 ∧ (gB ++ D)[bg]? = some 102 := by
  obtain ⟨c, hc, w, pl, bg, o, i, r, rfl, hk⟩ := W.get h
  exact ⟨w, pl, bg, o, i, r, hc, hk⟩
theorem WT.places (W : WT g D M) {a : Nat} (h : (gB ++ D)[a]? = some 101) : ∃ ps : List Nat, M[a]? = some (.inl (15, ps.map .ref)) ∧ ps.length ≤ 5 ∧ ∀ b ∈ ps, (gB ++ D)[b]? = some 100 := by
  obtain ⟨c, hc, ps, rfl, hk⟩ := W.get h
  exact ⟨ps, hc, hk⟩
theorem WT.place (W : WT g D M) {a : Nat} (h : (gB ++ D)[a]? = some 100) : ∃ n o l s : Int32, M[a]? = some (.inr (7, [.int n, .int o, .int l, .int s])) ∧ rg 0 1 o ∧ rg 0 7 l ∧ rg (-1) 15 s := by
  obtain ⟨c, hc, n, o, l, s, rfl, hk⟩ := W.get h
  exact ⟨n, o, l, s, hc, hk⟩
theorem WT.bags (W : WT g D M) {a : Nat} (h : (gB ++ D)[a]? = some 102) : ∃ vs : List Int32, M[a]? = some (.inl (0, vs.map .int)) ∧ vs.length ≤ 525 := by
  obtain ⟨c, hc, vs, rfl, hk⟩ := W.get h
  exact ⟨vs, hc, hk⟩
theorem WT.shape (W : WT g D M) {a : Nat} (h : (gB ++ D)[a]? = some 17) : ∃ (k x y : Int32) (e : Option Nat) (u w z : Int32), M[a]? = some (.inr (8, [.int k, .int x, .int y, va_rf e, .int u, .int w, .int z])) ∧ rg 0 1 w ∧ (k = 1 ∨ k = 2 ∨ k = 3 → rg 0 15 x) ∧ (k = 1 ∨ k = 2 → rg 0 15 y) ∧ ∀ a, e = some a → (gB ++ D)[a]? = some 103 := by
  obtain ⟨c, hc, k, x, y, e, u, w, z, rfl, hk⟩ := W.get h
  exact ⟨k, x, y, e, u, w, z, hc, hk⟩
theorem WT.mat (W : WT g D M) : ∃ n : Int32, M[33]? = some (.inr (6, [.ref 7, .ref 3, .ref 34, .ref 38, .int n])) ∧ rg 0 8 n := by
  obtain ⟨c, hc, n, rfl, hn⟩ := W.get (a := 33) (t := 33) rfl
  exact ⟨n, hc, hn⟩
theorem WT.sol (W : WT g D M) : ∃ l r h : Int32, M[39]? = some (.inr (9, [.ref 16, .ref 33, .ref 40, .ref 41, .int l, .int r, .int h])) ∧ rg 0 1 r ∧ rg 0 1 h := by
  obtain ⟨c, hc, l, r, h, rfl, hn⟩ := W.get (a := 39) (t := 39) rfl
  exact ⟨l, r, h, hc, hn⟩
theorem WT.g7 (W : WT g D M) : M[7]? = some (g 7) := by
  obtain ⟨c, hc, hk⟩ := W.get (a := 7) (t := 7) rfl
  rw [hc]; exact congrArg some hk
theorem WT.g8 (W : WT g D M) : M[8]? = some (g 8) := by
  obtain ⟨c, hc, hk⟩ := W.get (a := 8) (t := 8) rfl
  rw [hc]; exact congrArg some hk
theorem WT.g9 (W : WT g D M) : M[9]? = some (g 9) := by
  obtain ⟨c, hc, hk⟩ := W.get (a := 9) (t := 9) rfl
  rw [hc]; exact congrArg some hk
theorem WT.g10 (W : WT g D M) : M[10]? = some (g 10) := by
  obtain ⟨c, hc, hk⟩ := W.get (a := 10) (t := 10) rfl
  rw [hc]; exact congrArg some hk
theorem WT.g11 (W : WT g D M) : M[11]? = some (g 11) := by
  obtain ⟨c, hc, hk⟩ := W.get (a := 11) (t := 11) rfl
  rw [hc]; exact congrArg some hk
theorem WT.g12 (W : WT g D M) : M[12]? = some (g 12) := by
  obtain ⟨c, hc, hk⟩ := W.get (a := 12) (t := 12) rfl
  rw [hc]; exact congrArg some hk
theorem WT.g13 (W : WT g D M) : M[13]? = some (g 13) := by
  obtain ⟨c, hc, hk⟩ := W.get (a := 13) (t := 13) rfl
  rw [hc]; exact congrArg some hk
theorem rp_la {a k : Nat} {ps : List Nat} {i : Int32} {Q : Option Nat → zM → Prop} (hk : 8 ≤ k) (hc : M[a]? = some (.inl (k, ps.map .ref))) (h0 : 0 ≤ i.toInt) (h1 : i.toInt < ps.length) (q : ∀ b ∈ ps, Q (some b) M) : z_T (z_la (some a) i) M Q := by
  have hi : i.toNatClampNeg < ps.length := by show i.toInt.toNat < _; omega
  refine ht_la hc hk (fun e => by have := Int32.lt_iff_toInt_lt.mp e; have e0 : (0 : Int32).toInt = 0 := rfl; omega) (x := some ps[i.toNatClampNeg]) ?_ (q _ (List.getElem_mem hi))
  rw [List.getElem?_map, List.getElem?_eq_getElem hi]
  rfl
theorem rb_li {a : Nat} {vs : List Int32} {i : Int32} {Q : Int32 → zM → Prop} (hc : M[a]? = some (.inl (0, vs.map .int))) (h0 : 0 ≤ i.toInt) (h1 : i.toInt < vs.length) (q : ∀ x, Q x M) : z_T (z_li (some a) i) M Q := ri_li hc (n := vs.length) (p := fun _ => True) ⟨vs, rfl, rfl, fun _ _ => trivial⟩ h0 h1 fun x _ => q x
theorem i0 : (0 : Int32).toInt = 0 := rfl
theorem i1 : (1 : Int32).toInt = 1 := rfl
theorem im1 : (-1 : Int32).toInt = -1 := rfl
theorem i16 : (16 : Int32).toInt = 16 := rfl
theorem k_takes (W : WT g D M) {a : Nat} (ha : (gB ++ D)[a]? = some 100) {p0 p1 p2 : Int32} {Q : Int32 → zM → Prop} (q : ∀ x, Q x M) : z_T (F_X7_takes a p0 p1 p2 (some 41)) M Q := by
  unfold F_X7_takes F_X7_takes_42 F_X7_takes_38 F_X7_takes_43
  rw [z_rb0, z_rb1]
  obtain ⟨n, o, l, s, hM, ho, hl, hs⟩ := W.place ha
  refine ht_bd (ht_gi hM rfl ?_)
  refine ht_if (fun _ => ?_) (fun _ => ht_ret (q _))
  refine ht_bd (ht_gi hM rfl ?_)
  refine ht_if (fun _ => ?_) (fun _ => ht_ret (q _))
  refine ht_bd (ht_gi hM rfl ?_)
  refine ht_if (fun _ => ht_ret (q _)) (fun h => ?_)
  have h := i_ne.mp h
  have := im1
  have hs1 := hs.1
  have hs2 := hs.2
  refine ht_bd (ht_gi hM rfl ?_)
  obtain ⟨c, hc, hk⟩ := W.ar (a := 41) (t := 41) rfl rfl
  refine ht_bd (ri_li hc hk (by omega) (by omega) fun x _ => ?_)
  exact ht_if (fun _ => ht_ret (q _)) (fun _ => ht_ret (q _))
theorem k_slotOf (W : WT g D M) {a : Nat} (ha : (gB ++ D)[a]? = some 101) {p : Int32} {Q : Int32 → zM → Prop} (q : ∀ x, rg (-1) 4 x → Q x M) : z_T (F_X7_slotOf (some a) p) M Q := by
  obtain ⟨ps, hM, hl, hp⟩ := W.places ha
  unfold F_X7_slotOf F_X7_slotOf_2
  refine ht_fix (body := fun ih s => B_X7_slotOf_2 (fun y0 y1 y2 => ih (y0, y1, y2)) s.1 s.2.1 s.2.2) (I := fun n s M' => M' = M ∧ ∃ x : Int32, s = (some a, p, x) ∧ 0 ≤ x.toInt ∧ x.toInt + n = 5) ?_ z_N 5 _ M (by decide) ⟨rfl, 0, rfl, by decide, by decide⟩
  intro n s M' ih hI hih
  obtain ⟨rfl, x, rfl, h0, hn⟩ := hI
  unfold B_X7_slotOf_2
  dsimp only
  refine ht_bd (ht_len hM ?_)
  rw [List.length_map]
  have e := n_ti (n := ps.length) (by omega)
  refine ht_if (fun _ => ht_ret (q _ ⟨by decide, by decide⟩)) (fun h => ?_)
  have h := i_nle.mp h
  refine ht_bd (rp_la (by decide) hM h0 (by omega) fun b hb => ?_)
  obtain ⟨n1, o, l, s, hB, -⟩ := W.place (hp b hb)
  refine ht_bd (ht_gi hB rfl ?_)
  refine ht_if (fun _ => ht_ret (q _ ⟨by omega, by omega⟩)) (fun _ => ?_)
  have e1 := i_s (a := x) (by omega)
  exact hih (n - 1) _ _ (by omega) ⟨rfl, x + 1, rfl, by omega, by omega⟩
theorem k_takers (W : WT g D M) {a : Nat} (ha : (gB ++ D)[a]? = some 101) {p1 p2 : Int32} {Q : Int32 → zM → Prop} (q : ∀ x, Q x M) : z_T (F_X6_takers (some a) p1 p2 (some 41)) M Q := by
  obtain ⟨ps, hM, hl, hp⟩ := W.places ha
  unfold F_X6_takers F_X6_takers_6
  refine ht_fix (body := fun ih s => B_X6_takers_6 (fun y0 y1 y2 y3 y4 y5 => ih (y0, y1, y2, y3, y4, y5)) s.1 s.2.1 s.2.2.1 s.2.2.2.1 s.2.2.2.2.1 s.2.2.2.2.2) (I := fun n s M' => M' = M ∧ ∃ z x : Int32, s = (some a, p1, p2, some 41, z, x) ∧ 0 ≤ x.toInt ∧ x.toInt + n = 5) ?_ z_N 5 _ M (by decide) ⟨rfl, 0, 0, rfl, by decide, by decide⟩
  intro n s M' ih hI hih
  obtain ⟨rfl, z, x, rfl, h0, hn⟩ := hI
  unfold B_X6_takers_6 F_X6_takers_42 F_X5_labelOf F_X5_otherOf
  dsimp only
  refine ht_bd (ht_len hM ?_)
  rw [List.length_map]
  have e := n_ti (n := ps.length) (by omega)
  refine ht_if (fun _ => ht_ret (q _)) (fun h => ?_)
  have h := i_nle.mp h
  refine ht_bd (rp_la (by decide) hM h0 (by omega) fun b hb => ?_)
  refine ht_bd (ht_ret ?_)
  refine ht_bd (ht_ret ?_)
  obtain ⟨n1, o, l, s, hB, -⟩ := W.place (hp b hb)
  refine ht_bd (ht_rc hB ?_)
  refine ht_bd (k_takes W (hp b hb) fun y => ?_)
  have e1 := i_s (a := x) (by omega)
  refine ht_if (fun _ => ?_) (fun _ => ?_)
  · exact hih (n - 1) _ _ (by omega) ⟨rfl, z, x + 1, rfl, by omega, by omega⟩
  · refine ht_bd (ht_ret ?_)
    exact hih (n - 1) _ _ (by omega) ⟨rfl, _, x + 1, rfl, by omega, by omega⟩
theorem k_addC (W : WT g D M) {p : Int32} {Q : Unit → zM → Prop} (q : ∀ M', WT g D M' → Q () M') : z_T (F_X6_addConcerned 33 p) M Q := by
  unfold F_X6_addConcerned F_X6_addConcerned_32
  obtain ⟨n, hM, hn⟩ := W.mat
  refine ht_bd (ht_gi hM rfl ?_)
  refine ht_bd (ht_ga hM (x := some 38) rfl ?_)
  obtain ⟨c, hc, vs, rfl, hl, -⟩ := W.ar (a := 38) (t := 38) rfl rfl
  refine ht_bd (ht_len hc ?_)
  rw [List.length_map, hl]
  refine ht_if (fun _ => ht_ret (q _ W)) (fun h => ?_)
  have h : n.toInt < 8 := i_nle.mp h
  have h0 := hn.1
  refine ht_bd (ht_ga hM (x := some 38) rfl ?_)
  refine ht_bd (ht_gi hM rfl ?_)
  refine ht_bd (ri_sk W (a := 38) (t := 38) rfl rfl (by decide) h0 h trivial fun M1 W1 f1 => ?_)
  have hM1 : M1[33]? = _ := (f1 33 (by decide)).trans hM
  refine ht_bd (ht_gi hM1 rfl ?_)
  refine ht_bd (ht_pf (by decide) hM1 (by simp) ?_)
  have e1 := i_s (a := n) (by omega)
  exact ht_ret (q _ (W1.set (a := 33) (t := 33) rfl ⟨n + 1, rfl, by omega, by omega⟩))
/-- rows of arcs -/
theorem k_count (W : WT g D M) (hG : GOK g) {a : Nat} (ha : a = 8 ∨ a = 11) {p : Int32} (h0 : 0 ≤ p.toInt) (h1 : p.toInt < 16) {Q : Int32 → zM → Prop} (q : ∀ x, rg 0 4 x → Q x M) : z_T (F_X0_count a p) M Q := by
  unfold F_X0_count
  obtain ⟨-, g8, g11, -, g10, -, g13⟩ := hG
  rcases ha with rfl | rfl
  · refine ht_bd (ht_ga (by rw [W.g8, g8]) (x := some 10) rfl ?_)
    refine ht_bd (ri_li W.g10 g10 h0 h1 fun x hx => ?_)
    exact ht_ret (q x hx)
  · refine ht_bd (ht_ga (by rw [W.g11, g11]) (x := some 13) rfl ?_)
    refine ht_bd (ri_li W.g13 g13 h0 h1 fun x hx => ?_)
    exact ht_ret (q x hx)
theorem k_key (W : WT g D M) (hG : GOK g) {a : Nat} (ha : a = 8 ∨ a = 11) {p i : Int32} (h0 : 0 ≤ p.toInt) (h1 : p.toInt < 16) (h2 : 0 ≤ i.toInt) (h3 : i.toInt < 4) {Q : Int32 → zM → Prop} (q : ∀ x, Q x M) : z_T (F_X0_key a p i) M Q := by
  unfold F_X0_key
  obtain ⟨-, g8, g11, g9, -, g12, -⟩ := hG
  have e4 : (4 : Int32).toInt = 4 := rfl
  have e1 : (p * 4).toInt = p.toInt * 4 := by rw [Int32.toInt_mul, e4, Int.bmod_eq_of_le (by omega) (by omega)]
  have e2 : (p * 4 + i).toInt = p.toInt * 4 + i.toInt := by rw [i_add (by omega) (by omega), e1]
  rcases ha with rfl | rfl
  · refine ht_bd (ht_ga (by rw [W.g8, g8]) (x := some 9) rfl ?_)
    refine ht_bd (ri_li W.g9 g9 (by omega) (by omega) fun x _ => ?_)
    exact ht_ret (q x)
  · refine ht_bd (ht_ga (by rw [W.g11, g11]) (x := some 12) rfl ?_)
    refine ht_bd (ri_li W.g12 g12 (by omega) (by omega) fun x _ => ?_)
    exact ht_ret (q x)
theorem k_gather (W : WT g D M) (hG : GOK g) {s : Nat} (hs : (gB ++ D)[s]? = some 17) {p : Int32} (h0 : 0 ≤ p.toInt) (h1 : p.toInt < 16) {Q : Unit → zM → Prop} (q : ∀ M', WT g D M' → Q () M') : z_T (F_X6_gather 33 p (some s) (some 41)) M Q := by
  unfold F_X6_gather
  obtain ⟨s7, g7⟩ := hG.1
  obtain ⟨n, hM, hn⟩ := W.mat
  refine ht_bd (ht_pf (by decide) hM (by simp) ?_)
  have W := W.set (a := 33) (t := 33) (c' := .inr (6, [.ref 7, .ref 3, .ref 34, .ref 38, .int 0])) rfl ⟨0, rfl, by decide, by decide⟩
  show z_T _ (M.set 33 (.inr (6, [.ref 7, .ref 3, .ref 34, .ref 38, .int 0]))) Q
  generalize M.set 33 _ = M1 at W
  obtain ⟨k, x, y, e, u, w, z, hS, -, -, -, he⟩ := W.shape hs
  refine ht_bd (ht_ga hS (x := e) rfl ?_)
  refine ht_if (fun _ => ht_ret (q _ W)) (fun hne => ?_)
  obtain ⟨e, rfl⟩ := Option.ne_none_iff_exists'.mp hne
  have he := he e rfl
  unfold F_X6_gather_20
  refine ht_fix (body := fun ih s => B_X6_gather_20 33 (fun y0 y1 y2 y3 y4 => ih (y0, y1, y2, y3, y4)) s.1 s.2.1 s.2.2.1 s.2.2.2.1 s.2.2.2.2) (I := fun n st M' => WT g D M' ∧ ∃ x : Int32, st = (p, some s, some 41, some e, x) ∧ 0 ≤ x.toInt ∧ x.toInt + n = 4) ?_ z_N 4 _ M1 (by decide) ⟨W, 0, rfl, by decide, by decide⟩
  intro n st M ih hI hih
  obtain ⟨W, x, rfl, hx, hn⟩ := hI
  unfold B_X6_gather_20
  dsimp only
  obtain ⟨nc, hM, -⟩ := W.mat
  refine ht_bd (ht_ga hM (x := some 7) rfl ?_)
  refine ht_bd (ht_ga (by rw [W.g7, g7]) (x := some 8) rfl ?_)
  refine ht_bd (ht_rc (by rw [W.g8, hG.2.1]) ?_)
  refine ht_bd (k_count W hG (Or.inl rfl) h0 h1 fun c hc => ?_)
  have hc2 := hc.2
  refine ht_if (fun _ => ?_) (fun h => ?_)
  · -- the arcs that come in
    unfold F_X6_gather_124
    refine ht_fix (body := fun ih s => B_X6_gather_124 33 (fun y0 y1 y2 y3 => ih (y0, y1, y2, y3)) s.1 s.2.1 s.2.2.1 s.2.2.2) (I := fun n st M' => WT g D M' ∧ ∃ x : Int32, st = (p, some 41, some e, x) ∧ 0 ≤ x.toInt ∧ x.toInt + n = 4) ?_ z_N 4 _ M (by decide) ⟨W, 0, rfl, by decide, by decide⟩
    intro n st M ih hI hih
    obtain ⟨W, x, rfl, hx, hn⟩ := hI
    unfold B_X6_gather_124 F_X6_gather_187 F_X5_labelOf
    dsimp only
    obtain ⟨nc, hM, -⟩ := W.mat
    refine ht_bd (ht_ga hM (x := some 7) rfl ?_)
    refine ht_bd (ht_ga (by rw [W.g7, g7]) (x := some 11) rfl ?_)
    refine ht_bd (ht_rc (by rw [W.g11, hG.2.2.1]) ?_)
    refine ht_bd (k_count W hG (Or.inr rfl) h0 h1 fun c hc => ?_)
    have hc2 := hc.2
    refine ht_if (fun _ => ht_ret (q _ W)) (fun h => ?_)
    have h := i_nle.mp h
    refine ht_bd (ht_ga hM (x := some 7) rfl ?_)
    refine ht_bd (ht_ga (by rw [W.g7, g7]) (x := some 11) rfl ?_)
    refine ht_bd (ht_rc (by rw [W.g11, hG.2.2.1]) ?_)
    refine ht_bd (k_key W hG (Or.inr rfl) h0 h1 hx (by omega) fun key => ?_)
    obtain ⟨w1, pl, bg, o1, i1, r1, hE, -, hpl, hbg⟩ := W.expr he
    refine ht_bd (ht_gi hE rfl ?_)
    refine ht_bd (ht_ret ?_)
    have e1 := i_s (a := x) (by omega)
    refine ht_if (fun _ => hih (n - 1) _ _ (by omega) ⟨W, x + 1, rfl, by omega, by omega⟩) (fun _ => ?_)
    refine ht_bd (ht_ga hE (x := some pl) rfl ?_)
    refine ht_bd (k_takers W hpl fun t => ?_)
    refine ht_bd (ht_rc hM ?_)
    refine ht_bd (k_addC W fun M2 W2 => ?_)
    exact hih (n - 1) _ _ (by omega) ⟨W2, x + 1, rfl, by omega, by omega⟩
  · have h := i_nle.mp h
    unfold F_X6_gather_78 F_X6_gather_94 F_X6_gather_115 F_X5_labelOf
    refine ht_bd (ht_ga hM (x := some 7) rfl ?_)
    refine ht_bd (ht_ga (by rw [W.g7, g7]) (x := some 8) rfl ?_)
    refine ht_bd (ht_rc (by rw [W.g8, hG.2.1]) ?_)
    refine ht_bd (k_key W hG (Or.inl rfl) h0 h1 hx (by omega) fun key => ?_)
    refine ht_bd (ht_ret ?_)
    refine ht_bd (ht_ret ?_)
    obtain ⟨k, x1, y1, e', u1, w1, z1, hS, -⟩ := W.shape hs
    obtain ⟨w2, pl, bg, o1, i1, r1, hE, -, hpl, hbg⟩ := W.expr he
    have e1 := i_s (a := x) (by omega)
    have go : ∀ v : Int32, z_T (z_bd (z_ga (some e) 3 1) fun r20 => z_bd (F_X6_takers r20 1 key (some 41)) fun x21 => z_bd (z_rc (some 33) 6) fun b22 => z_bd (F_X6_addConcerned b22 (v ||| x21)) fun _ => ih (p, some s, some 41, some e, x + 1)) M Q := by
      intro v
      refine ht_bd (ht_ga hE (x := some pl) rfl ?_)
      refine ht_bd (k_takers W hpl fun t => ?_)
      refine ht_bd (ht_rc hM ?_)
      refine ht_bd (k_addC W fun M2 W2 => ?_)
      exact hih (n - 1) _ _ (by omega) ⟨W2, x + 1, rfl, by omega, by omega⟩
    refine ht_bd (ht_gi hS rfl ?_)
    have go2 : z_T (z_bd (z_gi (some s) 8 4) fun x18 => if (x18 &&& (1 : Int32) <<< (key / 16 &&& 31)) = 0 then (z_bd (z_ga (some e) 3 1) fun r20 => z_bd (F_X6_takers r20 1 key (some 41)) fun x21 => z_bd (z_rc (some 33) 6) fun b22 => z_bd (F_X6_addConcerned b22 (0 ||| x21)) fun _ => ih (p, some s, some 41, some e, x + 1)) else (z_bd (z_ga (some e) 3 1) fun r20 => z_bd (F_X6_takers r20 1 key (some 41)) fun x21 => z_bd (z_rc (some 33) 6) fun b22 => z_bd (F_X6_addConcerned b22 (32 ||| x21)) fun _ => ih (p, some s, some 41, some e, x + 1))) M Q := by
      refine ht_bd (ht_gi hS rfl ?_)
      exact ht_if (fun _ => go 0) (fun _ => go 32)
    refine ht_if (fun _ => ?_) (fun _ => go2)
    refine ht_bd (ht_gi hE rfl ?_)
    exact ht_if (fun _ => hih (n - 1) _ _ (by omega) ⟨W, x + 1, rfl, by omega, by omega⟩) (fun _ => go2)
end MT
