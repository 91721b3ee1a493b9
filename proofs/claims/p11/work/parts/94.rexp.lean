/-! THE REFERENCE's expression -/
theorem okr_h {h h' : Nat → zC} {i : Nat} (e : h' i = h i) : okr h' i = okr h i := by
  unfold okr
  rw [e]
def h_new (h : Nat → zC) (c44 c45 c46 c47 : zC) : Nat → zC := fun i => if i = 44 then c44 else if i = 45 then c45 else if i = 46 then c46 else if i = 47 then c47 else h i
section RX
variable {h : Nat → zC} {o : List Value} {M : zM}
theorem RT.exs (R : RT h o M) {o' : List Value} {c44 c45 c46 c47 : zC} : RT (h_new h c44 c45 c46 c47) o' (((((M.set 44 c44).set 45 c45).set 46 c46).set 47 c47).set 42 (.inr (11, o'))) := by
  have l : ∀ i, 43 ≤ i → i ≤ 67 → i < M.length := fun i h1 h2 => by
    obtain ⟨c, hc, -⟩ := R.2 i h1 h2
    exact (List.getElem?_eq_some_iff.mp hc).1
  have l42 : 42 < M.length := (List.getElem?_eq_some_iff.mp R.1).1
  refine ⟨List.getElem?_set_self (by simp; omega), fun i h1 h2 => ?_⟩
  by_cases e4 : i = 44
  · subst e4
    exact ⟨c44, by rw [z_go (by decide), z_go (by decide), z_go (by decide), z_go (by decide)]; exact List.getElem?_set_self (l 44 h1 h2), rfl⟩
  by_cases e5 : i = 45
  · subst e5
    exact ⟨c45, by rw [z_go (by decide), z_go (by decide), z_go (by decide)]; exact List.getElem?_set_self (by simp; exact l 45 h1 h2), rfl⟩
  by_cases e6 : i = 46
  · subst e6
    exact ⟨c46, by rw [z_go (by decide), z_go (by decide)]; exact List.getElem?_set_self (by simp; exact l 46 h1 h2), rfl⟩
  by_cases e7 : i = 47
  · subst e7
    exact ⟨c47, by rw [z_go (by decide)]; exact List.getElem?_set_self (by simp; exact l 47 h1 h2), rfl⟩
  obtain ⟨c, hc, hk⟩ := R.2 i h1 h2
  refine ⟨c, by rw [z_go (by omega), z_go (fun e => e7 e.symm), z_go (fun e => e6 e.symm), z_go (fun e => e5 e.symm), z_go (fun e => e4 e.symm)]; exact hc, ?_⟩
  rw [okr_h (h := h) (by unfold h_new; rw [if_neg e4, if_neg e5, if_neg e6, if_neg e7])]
  exact hk
variable {nA kn wr pc th : Int32} {ks as bs cs : List Int32} {n : Nat}
/-- what a good expression leaves -/
def EXN (h h' : Nat → zC) (ks as bs cs : List Int32) (n : Nat) (x a b c : Int32) : Prop := h' = h_new h (.inl (0, (ks.set n x).map .int)) (.inl (0, (as.set n a).map .int)) (.inl (0, (bs.set n b).map .int)) (.inl (0, (cs.set n c).map .int)) ∧ EXH h' (ks.set n x) (as.set n a) (bs.set n b) (n + 1)
theorem t_135 (R : RT h (rob nA (Int32.ofNat n) kn wr pc 0) M) (hE : EXH h ks as bs n) (h47 : h 47 = .inl (0, cs.map .int)) (hcl : cs.length = 60) {p0 p1 p2 p3 : Int32} (hx : rg 0 5 p0) (h1 : 2 ≤ p0.toInt → p0.toInt ≤ 4 → 0 ≤ p1.toInt ∧ p1.toInt < n) (h2 : 2 ≤ p0.toInt → p0.toInt ≤ 3 → 0 ≤ p2.toInt ∧ p2.toInt < n) (h3 : p0.toInt ≤ 1 → rg (-1) 15 p2) {Q : Int32 → zM → Prop} (qf : n = 60 → Q (-2) M) (q : ∀ (h' : Nat → zC) (M' : zM), n < 60 → EXN h h' ks as bs cs n p0 p1 p2 p3 → RT h' (rob nA (Int32.ofNat (n + 1)) kn wr pc 0) M' → Q (Int32.ofNat n) M') : z_T (F_X11_expression_135 42 p0 p1 p2 p3 1) M Q := by
  obtain ⟨b1, b2, b3, H⟩ := hE
  obtain ⟨l1, l2, l3, l4, -⟩ := id H
  have e44 := R.ex (i := 44) (by decide) (by decide) rfl
  have e45 := R.ex (i := 45) (by decide) (by decide) rfl
  have e46 := R.ex (i := 46) (by decide) (by decide) rfl
  have e47 := R.ex (i := 47) (by decide) (by decide) rfl
  rw [b1] at e44
  rw [b2] at e45
  rw [b3] at e46
  rw [h47] at e47
  unfold F_X11_expression_135
  rw [if_neg (by decide)]
  refine ht_bd (ht_gi R.1 (x := Int32.ofNat n) rfl ?_)
  refine ht_if (fun h60 => ?_) (fun h60 => ?_)
  · exact ht_ret (qf ((n_e (b := 60) (by omega) (by decide)).mp h60))
  have hn : n < 60 := by
    have : ¬ n = 60 := fun e => h60 ((n_e (b := 60) (by omega) (by decide)).mpr e)
    omega
  refine ht_bd (ht_ga R.1 (x := some 44) rfl ?_)
  refine ht_bd (ht_gi R.1 (x := Int32.ofNat n) rfl ?_)
  refine ht_bd (va_si (by decide) e44 rfl (by omega) (by omega) ?_)
  have o1 : ∀ c1 : zC, (M.set 44 c1)[42]? = some (.inr (11, rob nA (Int32.ofNat n) kn wr pc 0)) := fun c1 => by rw [z_go (by decide)]; exact R.1
  refine ht_bd (ht_ga (o1 _) (x := some 45) rfl ?_)
  refine ht_bd (ht_gi (o1 _) (x := Int32.ofNat n) rfl ?_)
  refine ht_bd (va_si (vs := as) (by decide) (by rw [z_go (by decide)]; exact e45) rfl (by omega) (by omega) ?_)
  have o2 : ∀ c1 c2 : zC, ((M.set 44 c1).set 45 c2)[42]? = some (.inr (11, rob nA (Int32.ofNat n) kn wr pc 0)) := fun c1 c2 => by rw [z_go (by decide)]; exact o1 c1
  refine ht_bd (ht_ga (o2 _ _) (x := some 46) rfl ?_)
  refine ht_bd (ht_gi (o2 _ _) (x := Int32.ofNat n) rfl ?_)
  refine ht_bd (va_si (vs := bs) (by decide) (by rw [z_go (by decide), z_go (by decide)]; exact e46) rfl (by omega) (by omega) ?_)
  have o3 : ∀ c1 c2 c3 : zC, (((M.set 44 c1).set 45 c2).set 46 c3)[42]? = some (.inr (11, rob nA (Int32.ofNat n) kn wr pc 0)) := fun c1 c2 c3 => by rw [z_go (by decide)]; exact o2 c1 c2
  refine ht_bd (ht_ga (o3 _ _ _) (x := some 47) rfl ?_)
  refine ht_bd (ht_gi (o3 _ _ _) (x := Int32.ofNat n) rfl ?_)
  refine ht_bd (va_si (vs := cs) (by decide) (by rw [z_go (by decide), z_go (by decide), z_go (by decide)]; exact e47) rfl (by omega) (by omega) ?_)
  have o4 : ∀ c1 c2 c3 c4 : zC, ((((M.set 44 c1).set 45 c2).set 46 c3).set 47 c4)[42]? = some (.inr (11, rob nA (Int32.ofNat n) kn wr pc 0)) := fun c1 c2 c3 c4 => by rw [z_go (by decide)]; exact o3 c1 c2 c3
  refine ht_bd (ht_gi (o4 _ _ _ _) (x := Int32.ofNat n) rfl ?_)
  rw [n_s]
  refine ht_bd (ht_pf (by decide) (o4 _ _ _ _) (by simp [rob]) ?_)
  refine ht_bd (ht_gi (z_gs (o4 _ _ _ _)) (x := Int32.ofNat (n + 1)) rfl ?_)
  rw [n_1 (by omega), Nat.add_sub_cancel]
  exact ht_ret (q _ _ hn ⟨rfl, rfl, rfl, rfl, H.add hn hx h1 h2 h3⟩ R.exs)
theorem t_isE (hn : n ≤ 60) (R : RT h (rob nA (Int32.ofNat n) kn wr pc th) M) {p : Int32} {Q : Int32 → zM → Prop} (q : ∀ x, (¬ x = 0 → 0 ≤ p.toInt ∧ p.toInt < n) → Q x M) : z_T (F_X11_isExpression 42 p) M Q := by
  unfold F_X11_isExpression F_X11_isExpression_16 F_X11_isExpression_17
  rw [z_rb0, z_rb1]
  refine ht_if (fun _ => ht_ret (q _ (fun h => absurd rfl h))) (fun h0 => ?_)
  refine ht_bd (ht_gi R.1 (x := Int32.ofNat n) rfl ?_)
  refine ht_if (fun _ => ht_ret (q _ (fun h => absurd rfl h))) (fun h1 => ?_)
  have h0 : (0 : Int32).toInt ≤ p.toInt := i_nlt.mp h0
  have h1 : p.toInt < (Int32.ofNat n).toInt := i_nle.mp h1
  have e := n_ti (n := n) (by omega)
  have z0 := i0
  exact ht_ret (q _ (fun _ => ⟨by omega, by omega⟩))
theorem t_expr (R : RT h (rob nA (Int32.ofNat n) kn wr pc th) M) (hE : EXH h ks as bs n) (h47 : h 47 = .inl (0, cs.map .int)) (hcl : cs.length = 60) {p0 p1 p2 p3 : Int32} {Q : Int32 → zM → Prop} (q0 : ∀ (x : Int32) (M' : zM), RT h (rob nA (Int32.ofNat n) kn wr pc 0) M' → Q x M') (q : ∀ (h' : Nat → zC) (M' : zM), n < 60 → EXN h h' ks as bs cs n p0 p1 p2 p3 → RT h' (rob nA (Int32.ofNat (n + 1)) kn wr pc 0) M' → Q (Int32.ofNat n) M') : z_T (F_X11_expression 42 p0 p1 p2 p3) M Q := by
  have hn := hE.2.2.2.2.2.2.1
  unfold F_X11_expression
  refine ht_bd (ht_pf (by decide) R.1 (by simp [rob]) ?_)
  have R1 := R.ob (o' := rob nA (Int32.ofNat n) kn wr pc 0)
  show z_T _ (M.set 42 (.inr (11, rob nA (Int32.ofNat n) kn wr pc 0))) Q
  generalize M.set 42 (.inr (11, rob nA (Int32.ofNat n) kn wr pc 0)) = N at R1 ⊢
  have bad : z_T (F_X11_expression_135 42 p0 p1 p2 p3 0) N Q := by
    unfold F_X11_expression_135
    rw [if_pos rfl]
    exact ht_ret (q0 _ _ R1)
  have t0 := i0
  have t1 := i1
  have t2 : (2 : Int32).toInt = 2 := rfl
  have t3 : (3 : Int32).toInt = 3 := rfl
  have t4 : (4 : Int32).toInt = 4 := rfl
  have t5 : (5 : Int32).toInt = 5 := rfl
  have place : p0.toInt = 0 ∨ p0.toInt = 1 → z_T (z_bd (F_X11_isLabel p1) fun x2 => if x2 = 0 then (F_X11_expression_63 42 p0 p1 p2 p3) else (if p2 = ((-1)) then (F_X11_expression_59 42 p0 p1 p2 p3) else (z_bd (F_X11_isShape p2) fun x5 => if x5 = 0 then (F_X11_expression_63 42 p0 p1 p2 p3) else (F_X11_expression_59 42 p0 p1 p2 p3)))) N Q := by
    intro hp
    unfold F_X11_expression_63 F_X11_expression_59 F_X11_expression_64
    rw [e_l11, e_s11]
    have good : rg (-1) 15 p2 → z_T (F_X11_expression_135 42 p0 p1 p2 p3 1) N Q := fun hb => t_135 R1 hE h47 hcl ⟨by omega, by omega⟩ (fun a _ => by omega) (fun a _ => by omega) (fun _ => hb) (fun _ => q0 _ _ R1) q
    refine ht_bd (ht_ret (ht_if (fun _ => bad) (fun _ => ?_)))
    refine ht_if (fun e => good (by rw [e]; exact ⟨by decide, by decide⟩)) (fun _ => ?_)
    refine ht_bd (ht_ret (ht_if (fun _ => bad) (fun hs => ?_)))
    have hs := g_in_i (N := 16) (by decide) hs
    exact good ⟨by omega, by omega⟩
  refine ht_if (fun e => place (Or.inl (by rw [e]; rfl))) (fun _ => ?_)
  refine ht_if (fun e => place (Or.inr (by rw [e]; rfl))) (fun _ => ?_)
  unfold F_X11_expression_89 F_X11_expression_90 F_X11_expression_117 F_X11_expression_118 F_X11_expression_133
  have pair : p0.toInt = 2 ∨ p0.toInt = 3 → z_T (z_bd (z_rc (some 42) 11) fun b15 => z_bd (F_X11_isExpression b15 p1) fun x14 => if x14 = 0 then (F_X11_expression_135 42 p0 p1 p2 p3 0) else (z_bd (z_rc (some 42) 11) fun b18 => z_bd (F_X11_isExpression b18 p2) fun x17 => if x17 = 0 then (F_X11_expression_135 42 p0 p1 p2 p3 0) else (F_X11_expression_135 42 p0 p1 p2 p3 1))) N Q := by
    intro hp
    refine ht_bd (ht_rc R1.1 ?_)
    refine ht_bd (t_isE hn R1 fun x hx => ?_)
    refine ht_if (fun _ => bad) (fun ex => ?_)
    refine ht_bd (ht_rc R1.1 ?_)
    refine ht_bd (t_isE hn R1 fun y hy => ?_)
    refine ht_if (fun _ => bad) (fun ey => ?_)
    exact t_135 R1 hE h47 hcl ⟨by omega, by omega⟩ (fun _ _ => hx ex) (fun _ _ => hy ey) (fun a => by omega) (fun _ => q0 _ _ R1) q
  refine ht_if (fun e => pair (Or.inl (by rw [e]; rfl))) (fun _ => ?_)
  refine ht_if (fun e => pair (Or.inr (by rw [e]; rfl))) (fun _ => ?_)
  refine ht_if (fun e => ?_) (fun _ => ?_)
  · have hp : p0.toInt = 4 := by rw [e]; rfl
    refine ht_bd (ht_rc R1.1 ?_)
    refine ht_bd (t_isE hn R1 fun x hx => ?_)
    refine ht_if (fun _ => bad) (fun ex => ?_)
    refine ht_if (fun _ => bad) (fun _ => ?_)
    refine ht_if (fun _ => bad) (fun _ => ?_)
    exact t_135 R1 hE h47 hcl ⟨by omega, by omega⟩ (fun _ _ => hx ex) (fun _ a => by omega) (fun a => by omega) (fun _ => q0 _ _ R1) q
  refine ht_if (fun e => ?_) (fun _ => bad)
  have hp : p0.toInt = 5 := by rw [e]; rfl
  exact t_135 R1 hE h47 hcl ⟨by omega, by omega⟩ (fun _ a => by omega) (fun _ a => by omega) (fun a => by omega) (fun _ => q0 _ _ R1) q
end RX
