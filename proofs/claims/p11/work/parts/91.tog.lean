/-! THE REFERENCE's SUMS OF ROWS -/
def TBH (h : Nat → zC) (p q r : List Value) : Prop := h 53 = .inl (0, q) ∧ h 54 = .inl (0, r) ∧ h 55 = .inl (0, p) ∧ TBJ 59049 p q r
theorem t_ix {p q r : List Value} (hT : TBJ 59049 p q r) {i : Int32} (h0 : 0 ≤ i.toInt) (h1 : i.toInt < 1287) : ∃ x, x < 59049 ∧ g_ds x ≤ 8 ∧ q[i.toNatClampNeg]? = some (.int (Int32.ofNat x)) ∧ r[i.toNatClampNeg]? = some (.int (Int32.ofNat (g_ds x))) := by
  have := hT.1
  rw [g_cnt_all] at this
  exact this _ (show i.toInt.toNat < 1287 by omega)
theorem t_pb {p q r : List Value} (hT : TBJ 59049 p q r) {a b : Nat} (ha : a < 59049) (hb : b < 59049) (h : g_ds a + g_ds b ≤ 8) : a + b < 59049 ∧ ∃ j, j < 1287 ∧ p[a + b]? = some (.int (Int32.ofNat j)) := by
  obtain ⟨h1, h2⟩ := g_ds_add ha hb h
  have := hT.2
  rw [g_cnt_all] at this
  exact ⟨h1, this _ h1 (by omega)⟩
theorem i1287 : (1287 : Int32).toInt = 1287 := rfl
section TG
variable {h : Nat → zC} {nA nE kn wr pc th : Int32} {M : zM} {p q r : List Value}
theorem t_together (R : RT h (rob nA nE kn wr pc th) M) (hT : TBH h p q r) {a b t : Int32} (ha : rg 0 76700 a) (hb : rg 0 76700 b) (ht : rg 0 76700 t) {Q : Unit → zM → Prop} (k : ∀ M', RT h (rob nA nE kn wr pc th) M' → (∀ c, c ≠ 56 → M'[c]? = M[c]?) → Q () M') : z_T (F_X11_together 42 a b t) M Q := by
  have c1 := i1287
  have ha1 := ha.1
  have ha2 := ha.2
  have hb1 := hb.1
  have hb2 := hb.2
  have ht1 := ht.1
  have ht2 := ht.2
  unfold F_X11_together F_X11_together_3
  refine ht_fix (body := fun ih s => B_X11_together_3 42 (fun y0 y1 y2 y3 => ih (y0, y1, y2, y3)) s.1 s.2.1 s.2.2.1 s.2.2.2) (I := fun n st M' => RT h (rob nA nE kn wr pc th) M' ∧ (∀ c, c ≠ 56 → M'[c]? = M[c]?) ∧ ∃ x : Int32, st = (a, b, t, x) ∧ 0 ≤ x.toInt ∧ x.toInt + n = 1287) ?_ z_N 1287 _ M (by decide) ⟨R, fun _ _ => rfl, 0, rfl, by decide, by decide⟩
  intro n st M1 ih hI hih
  obtain ⟨R1, f1, x, rfl, hx, hn⟩ := hI
  unfold B_X11_together_3
  dsimp only
  refine ht_bd (ht_gi R1.1 (x := 1287) rfl ?_)
  refine ht_if (fun _ => ht_ret (k _ R1 f1)) (fun h1 => ?_)
  have h1 : x.toInt < (1287 : Int32).toInt := i_nle.mp h1
  have e1 := i_s (a := x) (by omega)
  unfold F_X11_together_15
  refine ht_fix (body := fun ih2 s => B_X11_together_15 42 (fun y0 y1 y2 y3 => ih (y0, y1, y2, y3)) (fun y0 y1 y2 y3 y4 => ih2 (y0, y1, y2, y3, y4)) s.1 s.2.1 s.2.2.1 s.2.2.2.1 s.2.2.2.2) (I := fun m st M' => RT h (rob nA nE kn wr pc th) M' ∧ (∀ c, c ≠ 56 → M'[c]? = M[c]?) ∧ ∃ y : Int32, st = (a, b, t, x, y) ∧ 0 ≤ y.toInt ∧ y.toInt + m = 1287) ?_ z_N 1287 _ M1 (by decide) ⟨R1, f1, 0, rfl, by decide, by decide⟩
  intro m st M2 ih2 hI2 hih2
  obtain ⟨R2, f2, y, rfl, hy, hm⟩ := hI2
  unfold B_X11_together_15 F_X11_together_102 F_X11_together_96
  dsimp only
  have out : z_T (ih (a, b, t, x + 1)) M2 Q := hih (n - 1) _ _ (by omega) ⟨R2, f2, x + 1, rfl, by omega, by omega⟩
  refine ht_bd (ht_gi R2.1 (x := 1287) rfl ?_)
  refine ht_if (fun _ => out) (fun h2 => ?_)
  have h2 : y.toInt < (1287 : Int32).toInt := i_nle.mp h2
  have e2 := i_s (a := y) (by omega)
  have nx : ∀ M3, RT h (rob nA nE kn wr pc th) M3 → (∀ c, c ≠ 56 → M3[c]? = M[c]?) → z_T (ih2 (a, b, t, x, y + 1)) M3 Q := fun M3 R3 f3 => hih2 (m - 1) _ _ (by omega) ⟨R3, f3, y + 1, rfl, by omega, by omega⟩
  have s1 := i_add (a := a) (b := x) (by omega) (by omega)
  have s2 := i_add (a := b) (b := y) (by omega) (by omega)
  refine ht_bd (ht_ga R2.1 (x := some 56) rfl ?_)
  refine ht_bd (tr_lb R2 (i := 56) (by decide) (by decide) rfl (by omega) (by omega) fun v _ => ?_)
  refine ht_if (fun _ => out) (fun _ => ?_)
  refine ht_bd (ht_ga R2.1 (x := some 56) rfl ?_)
  refine ht_bd (tr_lb R2 (i := 56) (by decide) (by decide) rfl (by omega) (by omega) fun v _ => ?_)
  refine ht_if (fun _ => nx _ R2 f2) (fun _ => ?_)
  obtain ⟨b1, b2, b3, hJ⟩ := hT
  have e53 := R2.ex (i := 53) (by decide) (by decide) rfl
  have e54 := R2.ex (i := 54) (by decide) (by decide) rfl
  have e55 := R2.ex (i := 55) (by decide) (by decide) rfl
  rw [b1] at e53
  rw [b2] at e54
  rw [b3] at e55
  obtain ⟨u, u1, u2, u3, u4⟩ := t_ix hJ hx (by omega)
  obtain ⟨w, w1, w2, w3, w4⟩ := t_ix hJ hy (by omega)
  refine ht_bd (ht_ga R2.1 (x := some 54) rfl ?_)
  refine ht_bd (ht_li e54 (by decide) (nlt0 hx) u4 ?_)
  refine ht_bd (ht_ga R2.1 (x := some 54) rfl ?_)
  refine ht_bd (ht_li e54 (by decide) (nlt0 hy) w4 ?_)
  rw [n_p]
  refine ht_if (fun _ => nx _ R2 f2) (fun h9 => ?_)
  have h9 : ¬ 9 ≤ g_ds u + g_ds w := fun e => h9 ((n_le (a := 9) (by decide) (by omega)).mpr e)
  obtain ⟨l1, j, j1, j2⟩ := t_pb hJ u1 w1 (by omega)
  refine ht_bd (ht_ga R2.1 (x := some 56) rfl ?_)
  refine ht_bd (ht_ga R2.1 (x := some 55) rfl ?_)
  refine ht_bd (ht_ga R2.1 (x := some 53) rfl ?_)
  refine ht_bd (ht_li e53 (by decide) (nlt0 hx) u3 ?_)
  refine ht_bd (ht_ga R2.1 (x := some 53) rfl ?_)
  refine ht_bd (ht_li e53 (by decide) (nlt0 hy) w3 ?_)
  rw [n_p]
  refine ht_bd (ht_li e55 (by decide) (n_nn (by omega)) (by rw [n_cl (by omega)]; exact j2) ?_)
  have ej := n_ti (n := j) (by omega)
  have s3 := i_add (a := t) (b := Int32.ofNat j) (by omega) (by omega)
  refine ht_bd (tr_sb R2 (i := 56) (by decide) (by decide) rfl (by omega) (by omega) (Or.inr rfl) fun M3 R3 f3 => ?_)
  exact nx M3 R3 (fun c hc => (f3 c hc).trans (f2 c hc))
end TG
