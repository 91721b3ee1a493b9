/-! THE REFERENCE's repeat, row, least -/
def fR (M M' : zM) : Prop := ∀ c : Nat, c ≠ 56 → c ≠ 61 → c ≠ 62 → M'[c]? = M[c]?
theorem fR.t6 {A B C : zM} (f : fR A B) (k : ∀ c, c ≠ 56 → C[c]? = B[c]?) : fR A C := fun c h1 h2 h3 => (k c h1).trans (f c h1 h2 h3)
theorem fR.t61 {A B C : zM} (f : fR A B) (k : ∀ c, c ≠ 61 → C[c]? = B[c]?) : fR A C := fun c h1 h2 h3 => (k c h2).trans (f c h1 h2 h3)
theorem fR.t62 {A B C : zM} (f : fR A B) (k : ∀ c, c ≠ 62 → C[c]? = B[c]?) : fR A C := fun c h1 h2 h3 => (k c h3).trans (f c h1 h2 h3)
section RE
variable {h : Nat → zC} {nA nE kn wr pc th : Int32} {M : zM} {p q r : List Value}
theorem t_repeat (R : RT h (rob nA nE kn wr pc th) M) (hT : TBH h p q r) {a t lo hi : Int32} (ha : rg 0 76700 a) (ht : rg 0 76700 t) (hh : hi.toInt ≤ 9) {Q : Unit → zM → Prop} (k : ∀ M', RT h (rob nA nE kn wr pc th) M' → fR M M' → Q () M') : z_T (F_X11_repeat 42 a t lo hi) M Q := by
  have c1 := i1287
  have ha1 := ha.1
  have ha2 := ha.2
  have ht1 := ht.1
  have ht2 := ht.2
  -- the turns
  have turns : ∀ M1, RT h (rob nA nE kn wr pc th) M1 → fR M M1 → z_T (F_X11_repeat_38 42 z_N (a, t, lo, hi, 0)) M1 Q := by
    intro M1 R1 f1
    unfold F_X11_repeat_38
    refine ht_fix (body := fun ih s => B_X11_repeat_38 42 (fun y0 y1 y2 y3 y4 => ih (y0, y1, y2, y3, y4)) s.1 s.2.1 s.2.2.1 s.2.2.2.1 s.2.2.2.2) (I := fun n st M' => RT h (rob nA nE kn wr pc th) M' ∧ fR M M' ∧ ∃ x : Int32, st = (a, t, lo, hi, x) ∧ 0 ≤ x.toInt ∧ x.toInt + n = 10) ?_ z_N 10 _ M1 (by decide) ⟨R1, f1, 0, rfl, by decide, by decide⟩
    intro n st M2 ih hI hih
    obtain ⟨R2, f2, x, rfl, hx, hn⟩ := hI
    unfold B_X11_repeat_38
    dsimp only
    refine ht_if (fun _ => ht_ret (k _ R2 f2)) (fun h1 => ?_)
    have h1 : x.toInt ≤ hi.toInt := i_nlt.mp h1
    have e1 := i_s (a := x) (by omega)
    -- the last loop: next becomes now
    have l238 : ∀ M3, RT h (rob nA nE kn wr pc th) M3 → fR M M3 → z_T (F_X11_repeat_238 42 (fun y0 y1 y2 y3 y4 => ih (y0, y1, y2, y3, y4)) z_N (a, t, lo, hi, x, 0)) M3 Q := by
      intro M3 R3 f3
      unfold F_X11_repeat_238
      refine ht_fix (body := fun ih2 s => B_X11_repeat_238 42 (fun y0 y1 y2 y3 y4 => ih (y0, y1, y2, y3, y4)) (fun y0 y1 y2 y3 y4 y5 => ih2 (y0, y1, y2, y3, y4, y5)) s.1 s.2.1 s.2.2.1 s.2.2.2.1 s.2.2.2.2.1 s.2.2.2.2.2) (I := fun m st M' => RT h (rob nA nE kn wr pc th) M' ∧ fR M M' ∧ ∃ y : Int32, st = (a, t, lo, hi, x, y) ∧ 0 ≤ y.toInt ∧ y.toInt + m = 1287) ?_ z_N 1287 _ M3 (by decide) ⟨R3, f3, 0, rfl, by decide, by decide⟩
      intro m st M4 ih2 hI2 hih2
      obtain ⟨R4, f4, y, rfl, hy, hm⟩ := hI2
      unfold B_X11_repeat_238
      dsimp only
      refine ht_bd (ht_gi R4.1 (x := 1287) rfl ?_)
      refine ht_if (fun _ => hih (n - 1) _ _ (by omega) ⟨R4, f4, x + 1, rfl, by omega, by omega⟩) (fun h2 => ?_)
      have h2 : y.toInt < (1287 : Int32).toInt := i_nle.mp h2
      have e2 := i_s (a := y) (by omega)
      refine ht_bd (ht_ga R4.1 (x := some 61) rfl ?_)
      refine ht_bd (ht_ga R4.1 (x := some 62) rfl ?_)
      refine ht_bd (tr_lb R4 (i := 62) (by decide) (by decide) rfl hy (by omega) fun v hv => ?_)
      refine ht_bd (tr_sb R4 (i := 61) (by decide) (by decide) rfl hy (by omega) hv fun M5 R5 f5 => ?_)
      exact hih2 (m - 1) _ _ (by omega) ⟨R5, f4.t61 f5, y + 1, rfl, by omega, by omega⟩
    -- the sums
    have l134 : ∀ M3, RT h (rob nA nE kn wr pc th) M3 → fR M M3 → z_T (F_X11_repeat_134 42 (fun y0 y1 y2 y3 y4 => ih (y0, y1, y2, y3, y4)) z_N (a, t, lo, hi, x, 0)) M3 Q := by
      intro M3 R3 f3
      unfold F_X11_repeat_134
      refine ht_fix (body := fun ih2 s => B_X11_repeat_134 42 (fun y0 y1 y2 y3 y4 => ih (y0, y1, y2, y3, y4)) (fun y0 y1 y2 y3 y4 y5 => ih2 (y0, y1, y2, y3, y4, y5)) s.1 s.2.1 s.2.2.1 s.2.2.2.1 s.2.2.2.2.1 s.2.2.2.2.2) (I := fun m st M' => RT h (rob nA nE kn wr pc th) M' ∧ fR M M' ∧ ∃ y : Int32, st = (a, t, lo, hi, x, y) ∧ 0 ≤ y.toInt ∧ y.toInt + m = 1287) ?_ z_N 1287 _ M3 (by decide) ⟨R3, f3, 0, rfl, by decide, by decide⟩
      intro m st M4 ih2 hI2 hih2
      obtain ⟨R4, f4, y, rfl, hy, hm⟩ := hI2
      unfold B_X11_repeat_134
      dsimp only
      refine ht_bd (ht_gi R4.1 (x := 1287) rfl ?_)
      refine ht_if (fun _ => l238 M4 R4 f4) (fun h2 => ?_)
      have h2 : y.toInt < (1287 : Int32).toInt := i_nle.mp h2
      have e2 := i_s (a := y) (by omega)
      unfold F_X11_repeat_146
      refine ht_fix (body := fun ih3 s => B_X11_repeat_146 42 (fun y0 y1 y2 y3 y4 => ih (y0, y1, y2, y3, y4)) (fun y0 y1 y2 y3 y4 y5 => ih2 (y0, y1, y2, y3, y4, y5)) (fun y0 y1 y2 y3 y4 y5 y6 => ih3 (y0, y1, y2, y3, y4, y5, y6)) s.1 s.2.1 s.2.2.1 s.2.2.2.1 s.2.2.2.2.1 s.2.2.2.2.2.1 s.2.2.2.2.2.2) (I := fun l st M' => RT h (rob nA nE kn wr pc th) M' ∧ fR M M' ∧ ∃ z : Int32, st = (a, t, lo, hi, x, y, z) ∧ 0 ≤ z.toInt ∧ z.toInt + l = 1287) ?_ z_N 1287 _ M4 (by decide) ⟨R4, f4, 0, rfl, by decide, by decide⟩
      intro l st M5 ih3 hI3 hih3
      obtain ⟨R5, f5, z, rfl, hz, hl⟩ := hI3
      unfold B_X11_repeat_146 F_X11_repeat_229 F_X11_repeat_223
      dsimp only
      have out : z_T (ih2 (a, t, lo, hi, x, y + 1)) M5 Q := hih2 (m - 1) _ _ (by omega) ⟨R5, f5, y + 1, rfl, by omega, by omega⟩
      refine ht_bd (ht_gi R5.1 (x := 1287) rfl ?_)
      refine ht_if (fun _ => out) (fun h3 => ?_)
      have h3 : z.toInt < (1287 : Int32).toInt := i_nle.mp h3
      have e3 := i_s (a := z) (by omega)
      have nx : ∀ M6, RT h (rob nA nE kn wr pc th) M6 → fR M M6 → z_T (ih3 (a, t, lo, hi, x, y, z + 1)) M6 Q := fun M6 R6 f6 => hih3 (l - 1) _ _ (by omega) ⟨R6, f6, z + 1, rfl, by omega, by omega⟩
      have s1 := i_add (a := a) (b := z) (by omega) (by omega)
      refine ht_bd (ht_ga R5.1 (x := some 61) rfl ?_)
      refine ht_bd (tr_lb R5 (i := 61) (by decide) (by decide) rfl hy (by omega) fun v _ => ?_)
      refine ht_if (fun _ => out) (fun _ => ?_)
      refine ht_bd (ht_ga R5.1 (x := some 56) rfl ?_)
      refine ht_bd (tr_lb R5 (i := 56) (by decide) (by decide) rfl (by omega) (by omega) fun v _ => ?_)
      refine ht_if (fun _ => nx _ R5 f5) (fun _ => ?_)
      obtain ⟨b1, b2, b3, hJ⟩ := hT
      have e53 := R5.ex (i := 53) (by decide) (by decide) rfl
      have e54 := R5.ex (i := 54) (by decide) (by decide) rfl
      have e55 := R5.ex (i := 55) (by decide) (by decide) rfl
      rw [b1] at e53
      rw [b2] at e54
      rw [b3] at e55
      obtain ⟨u, u1, u2, u3, u4⟩ := t_ix hJ hy (by omega)
      obtain ⟨w, w1, w2, w3, w4⟩ := t_ix hJ hz (by omega)
      refine ht_bd (ht_ga R5.1 (x := some 54) rfl ?_)
      refine ht_bd (ht_li e54 (by decide) (nlt0 hy) u4 ?_)
      refine ht_bd (ht_ga R5.1 (x := some 54) rfl ?_)
      refine ht_bd (ht_li e54 (by decide) (nlt0 hz) w4 ?_)
      rw [n_p]
      refine ht_if (fun _ => nx _ R5 f5) (fun h9 => ?_)
      have h9 : ¬ 9 ≤ g_ds u + g_ds w := fun e => h9 ((n_le (a := 9) (by decide) (by omega)).mpr e)
      obtain ⟨l1, j, j1, j2⟩ := t_pb hJ u1 w1 (by omega)
      refine ht_bd (ht_ga R5.1 (x := some 62) rfl ?_)
      refine ht_bd (ht_ga R5.1 (x := some 55) rfl ?_)
      refine ht_bd (ht_ga R5.1 (x := some 53) rfl ?_)
      refine ht_bd (ht_li e53 (by decide) (nlt0 hy) u3 ?_)
      refine ht_bd (ht_ga R5.1 (x := some 53) rfl ?_)
      refine ht_bd (ht_li e53 (by decide) (nlt0 hz) w3 ?_)
      rw [n_p]
      refine ht_bd (ht_li e55 (by decide) (n_nn (by omega)) (by rw [n_cl (by omega)]; exact j2) ?_)
      have ej := n_ti (n := j) (by omega)
      refine ht_bd (tr_sb R5 (i := 62) (by decide) (by decide) rfl (by omega) (by omega) (Or.inr rfl) fun M6 R6 f6 => ?_)
      exact nx M6 R6 (f5.t62 f6)
    -- next is emptied
    have l105 : ∀ M3, RT h (rob nA nE kn wr pc th) M3 → fR M M3 → z_T (F_X11_repeat_105 42 (fun y0 y1 y2 y3 y4 => ih (y0, y1, y2, y3, y4)) a t lo hi x) M3 Q := by
      intro M3 R3 f3
      unfold F_X11_repeat_105 F_X11_repeat_108
      refine ht_fix (body := fun ih2 s => B_X11_repeat_108 42 (fun y0 y1 y2 y3 y4 => ih (y0, y1, y2, y3, y4)) (fun y0 y1 y2 y3 y4 y5 => ih2 (y0, y1, y2, y3, y4, y5)) s.1 s.2.1 s.2.2.1 s.2.2.2.1 s.2.2.2.2.1 s.2.2.2.2.2) (I := fun m st M' => RT h (rob nA nE kn wr pc th) M' ∧ fR M M' ∧ ∃ y : Int32, st = (a, t, lo, hi, x, y) ∧ 0 ≤ y.toInt ∧ y.toInt + m = 1287) ?_ z_N 1287 _ M3 (by decide) ⟨R3, f3, 0, rfl, by decide, by decide⟩
      intro m st M4 ih2 hI2 hih2
      obtain ⟨R4, f4, y, rfl, hy, hm⟩ := hI2
      unfold B_X11_repeat_108
      dsimp only
      refine ht_bd (ht_gi R4.1 (x := 1287) rfl ?_)
      refine ht_if (fun _ => l134 M4 R4 f4) (fun h2 => ?_)
      have h2 : y.toInt < (1287 : Int32).toInt := i_nle.mp h2
      have e2 := i_s (a := y) (by omega)
      refine ht_bd (ht_ga R4.1 (x := some 62) rfl ?_)
      refine ht_bd (tr_sb R4 (i := 62) (by decide) (by decide) rfl hy (by omega) (Or.inl rfl) fun M5 R5 f5 => ?_)
      exact hih2 (m - 1) _ _ (by omega) ⟨R5, f4.t62 f5, y + 1, rfl, by omega, by omega⟩
    unfold F_X11_repeat_48
    refine ht_fix (body := fun ih2 s => B_X11_repeat_48 42 (fun y0 y1 y2 y3 y4 => ih (y0, y1, y2, y3, y4)) (fun y0 y1 y2 y3 y4 y5 => ih2 (y0, y1, y2, y3, y4, y5)) s.1 s.2.1 s.2.2.1 s.2.2.2.1 s.2.2.2.2.1 s.2.2.2.2.2) (I := fun m st M' => RT h (rob nA nE kn wr pc th) M' ∧ fR M M' ∧ ∃ y : Int32, st = (a, t, lo, hi, x, y) ∧ 0 ≤ y.toInt ∧ y.toInt + m = 1287) ?_ z_N 1287 _ M2 (by decide) ⟨R2, f2, 0, rfl, by decide, by decide⟩
    intro m st M4 ih2 hI2 hih2
    obtain ⟨R4, f4, y, rfl, hy, hm⟩ := hI2
    unfold B_X11_repeat_48 F_X11_repeat_93 F_X11_repeat_98
    dsimp only
    refine ht_bd (ht_gi R4.1 (x := 1287) rfl ?_)
    refine ht_if (fun _ => l105 M4 R4 f4) (fun h2 => ?_)
    have h2 : y.toInt < (1287 : Int32).toInt := i_nle.mp h2
    have e2 := i_s (a := y) (by omega)
    refine ht_if (fun _ => l105 M4 R4 f4) (fun _ => ?_)
    have s1 := i_add (a := t) (b := y) (by omega) (by omega)
    have wr1 : ∀ v : Int32, v = 0 ∨ v = 1 → z_T (z_bd (z_sb (some 56) (t + y) v) fun _ => ih2 (a, t, lo, hi, x, y + 1)) M4 Q := by
      intro v hv
      refine ht_bd (tr_sb R4 (i := 56) (by decide) (by decide) rfl (by omega) (by omega) hv fun M5 R5 f5 => ?_)
      exact hih2 (m - 1) _ _ (by omega) ⟨R5, f4.t6 f5, y + 1, rfl, by omega, by omega⟩
    refine ht_bd (ht_ga R4.1 (x := some 56) rfl ?_)
    refine ht_bd (ht_ga R4.1 (x := some 56) rfl ?_)
    refine ht_bd (tr_lb R4 (i := 56) (by decide) (by decide) rfl (by omega) (by omega) fun v _ => ?_)
    refine ht_if (fun _ => ?_) (fun _ => wr1 1 (Or.inr rfl))
    refine ht_bd (ht_ga R4.1 (x := some 61) rfl ?_)
    refine ht_bd (tr_lb R4 (i := 61) (by decide) (by decide) rfl hy (by omega) fun v _ => ?_)
    exact ht_if (fun _ => wr1 0 (Or.inl rfl)) (fun _ => wr1 1 (Or.inr rfl))
  unfold F_X11_repeat F_X11_repeat_3
  refine ht_fix (body := fun ih s => B_X11_repeat_3 42 (fun y0 y1 y2 y3 y4 => ih (y0, y1, y2, y3, y4)) s.1 s.2.1 s.2.2.1 s.2.2.2.1 s.2.2.2.2) (I := fun n st M' => RT h (rob nA nE kn wr pc th) M' ∧ fR M M' ∧ ∃ x : Int32, st = (a, t, lo, hi, x) ∧ 0 ≤ x.toInt ∧ x.toInt + n = 1287) ?_ z_N 1287 _ M (by decide) ⟨R, fun _ _ _ _ => rfl, 0, rfl, by decide, by decide⟩
  intro n st M2 ih hI hih
  obtain ⟨R2, f2, x, rfl, hx, hn⟩ := hI
  unfold B_X11_repeat_3 F_X11_repeat_28
  dsimp only
  refine ht_bd (ht_gi R2.1 (x := 1287) rfl ?_)
  refine ht_if (fun _ => turns M2 R2 f2) (fun h1 => ?_)
  have h1 : x.toInt < (1287 : Int32).toInt := i_nle.mp h1
  have e1 := i_s (a := x) (by omega)
  refine ht_bd (ht_ga R2.1 (x := some 61) rfl ?_)
  refine ht_if (fun _ => ?_) (fun _ => ?_)
  · refine ht_bd (tr_sb R2 (i := 61) (by decide) (by decide) rfl hx (by omega) (Or.inr rfl) fun M3 R3 f3 => ?_)
    exact hih (n - 1) _ _ (by omega) ⟨R3, f2.t61 f3, x + 1, rfl, by omega, by omega⟩
  · refine ht_bd (tr_sb R2 (i := 61) (by decide) (by decide) rfl hx (by omega) (Or.inl rfl) fun M3 R3 f3 => ?_)
    exact hih (n - 1) _ _ (by omega) ⟨R3, f2.t61 f3, x + 1, rfl, by omega, by omega⟩
theorem t_row (R : RT h (rob nA nE kn wr pc th) M) {e : Int32} (h0 : 0 ≤ e.toInt) (h1 : e.toInt < 60) {Q : Int32 → zM → Prop} (k : ∀ x, rg 0 76700 x → Q x M) : z_T (F_X11_row 42 e) M Q := by
  unfold F_X11_row
  refine ht_bd (ht_ga R.1 (x := some 60) rfl ?_)
  obtain ⟨c, hc, hk⟩ := R.ar (i := 60) (by decide) (by decide) rfl
  refine ht_bd (ri_li hc hk h0 h1 fun x hx => ?_)
  have x1 := hx.1
  have x2 := hx.2
  have e1 : (1300 : Int32).toInt = 1300 := rfl
  have e2 : (1300 * x).toInt = 1300 * x.toInt := by rw [Int32.toInt_mul, e1, Int.bmod_eq_of_le (by omega) (by omega)]
  exact ht_ret (k _ ⟨by omega, by omega⟩)
theorem t_least {v : Int32} {Q : Int32 → zM → Prop} (k : ∀ x : Int32, x.toInt ≤ 9 → Q x M) : z_T (F_X11_least v) M Q := by
  unfold F_X11_least F_X11_least_12
  refine ht_if (fun _ => ht_ret (k _ (by decide))) (fun h => ?_)
  have h : v.toInt < (9 : Int32).toInt := i_nle.mp h
  have e9 : (9 : Int32).toInt = 9 := rfl
  exact ht_ret (k _ (by omega))
end RE
