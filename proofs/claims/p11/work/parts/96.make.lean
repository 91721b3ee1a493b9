/-! THE REFERENCE's make -/
def fM (M M' : zM) : Prop := ∀ c : Nat, c ≠ 56 → c ≠ 60 → c ≠ 61 → c ≠ 62 → M'[c]? = M[c]?
section MK
variable {h : Nat → zC} {nA nE kn wr pc th : Int32} {M : zM} {ks as bs cs : List Int32} {n : Nat} {p q r : List Value}
theorem fM.t {A B C : zM} (f : fM A B) (k : fM B C) : fM A C := fun c h1 h2 h3 h4 => (k c h1 h2 h3 h4).trans (f c h1 h2 h3 h4)
theorem t_make (R : RT h (rob nA nE kn wr pc th) M) (hT : TBH h p q r) (hE : EXH h ks as bs n) (h47 : h 47 = .inl (0, cs.map .int)) (hcl : cs.length = 60) {e : Nat} (he : e < n) {ps : List Int32} (h57 : M[57]? = some (.inl (4, (fp_made ks as bs e).map .int))) (hml : (fp_made ks as bs e).length = 60) (h58 : M[58]? = some (.inl (0, ps.map .int))) (hL : ∀ i x : Nat, (fp_pl ks as bs e)[i]? = some x → ps[i]? = some (Int32.ofNat x)) (hl5 : (fp_pl ks as bs e).length ≤ 5) {Q : Unit → zM → Prop} (k : ∀ M', RT h (rob nA nE kn wr pc th) M' → fM M M' → Q () M') : z_T (F_X11_make 42 (Int32.ofNat e)) M Q := by
  obtain ⟨b1, b2, b3, H⟩ := id hE
  obtain ⟨l1, l2, l3, l4, K⟩ := id H
  have c1 := i1287
  have z0 := i0
  unfold F_X11_make F_X11_make_4
  refine ht_fix (body := fun ih s => B_X11_make_4 42 (fun y0 y1 y2 => ih (y0, y1, y2)) s.1 s.2.1 s.2.2) (I := fun m st M' => ∃ (rw k : Nat), st = (Int32.ofNat e, Int32.ofNat rw, Int32.ofNat k) ∧ k + m = e + 1 ∧ rw ≤ k ∧ RT h (rob nA nE kn wr pc th) M' ∧ fM M M') ?_ z_N (e + 1) _ M (Nat.lt_of_le_of_lt (show e + 1 ≤ 60 by omega) (by decide)) ⟨0, 0, rfl, by omega, by omega, R, fun _ _ _ _ _ => rfl⟩
  intro m st M1 ih hI hih
  obtain ⟨rws, j, rfl, hj, hrj, R1, f1⟩ := hI
  unfold B_X11_make_4 F_X11_make_320
  dsimp only
  refine ht_if (fun hlt => ht_ret (k _ R1 f1)) (fun hlt => ?_)
  have hje : j ≤ e := Nat.le_of_not_lt fun g => hlt ((n_lt (by omega) (by omega)).mpr g)
  have ej := n_ti (n := j) (by omega)
  have er := n_ti (n := rws) (by omega)
  have hmj : (fp_made ks as bs e)[j]? = some ((fp_made ks as bs e)[j]'(by omega)) := List.getElem?_eq_getElem (by omega)
  have nx : ∀ (M2 : zM) (rw' : Nat), rw' ≤ j + 1 → RT h (rob nA nE kn wr pc th) M2 → fM M M2 → z_T (ih (Int32.ofNat e, Int32.ofNat rw', Int32.ofNat j + 1)) M2 Q := fun M2 rw' hr R2 f2 => by
    rw [n_s]
    exact hih (m - 1) _ _ (by omega) ⟨rw', j + 1, rfl, by omega, hr, R2, f2⟩
  refine ht_bd (ht_ga R1.1 (x := some 57) rfl ?_)
  refine ht_bd (tb_lb ((f1 57 (by decide) (by decide) (by decide) (by decide)).trans h57) (by omega) hmj ?_)
  refine ht_if (fun _ => nx M1 rws (by omega) R1 f1) (fun h0 => ?_)
  refine ht_bd (ht_ga R1.1 (x := some 60) rfl ?_)
  refine ht_bd (tr_si R1 (i := 60) (by decide) (by decide) rfl (by omega) (by omega) ⟨by omega, by omega⟩ fun M2 R2 g2 => ?_)
  have f2 : fM M M2 := f1.t (fun c _ h2 _ _ => g2 c h2)
  refine ht_bd (ht_rc R2.1 ?_)
  refine ht_bd (t_row R2 (by omega) (by omega) fun to hto => ?_)
  have to1 := hto.1
  have to2 := hto.2
  rw [n_s]
  obtain ⟨x, a, b, x1, x2, x3, x4, x5, x6, x7⟩ := K j (by omega)
  have done : ∀ M3, RT h (rob nA nE kn wr pc th) M3 → fM M M3 → z_T (ih (Int32.ofNat e, Int32.ofNat (rws + 1), Int32.ofNat j + 1)) M3 Q := fun M3 R3 f3 => nx M3 (rws + 1) (by omega) R3 f3
  unfold F_X11_make_41
  refine ht_fix (body := fun ih2 s => B_X11_make_41 42 (fun y0 y1 y2 => ih (y0, y1, y2)) (fun y0 y1 y2 y3 y4 => ih2 (y0, y1, y2, y3, y4)) s.1 s.2.1 s.2.2.1 s.2.2.2.1 s.2.2.2.2) (I := fun l st M' => RT h (rob nA nE kn wr pc th) M' ∧ fM M M' ∧ ∃ y : Int32, st = (Int32.ofNat e, Int32.ofNat (rws + 1), Int32.ofNat j, to, y) ∧ 0 ≤ y.toInt ∧ y.toInt + l = 1287) ?_ z_N 1287 _ M2 (by decide) ⟨R2, f2, 0, rfl, by decide, by decide⟩
  intro l st M3 ih2 hI2 hih2
  obtain ⟨R3, f3, y, rfl, hy, hl⟩ := hI2
  unfold B_X11_make_41 F_X11_make_320
  dsimp only
  have e44 := R3.ex (i := 44) (by decide) (by decide) rfl
  have e45 := R3.ex (i := 45) (by decide) (by decide) rfl
  have e46 := R3.ex (i := 46) (by decide) (by decide) rfl
  have e47 := R3.ex (i := 47) (by decide) (by decide) rfl
  have e55 := R3.ex (i := 55) (by decide) (by decide) rfl
  rw [b1] at e44
  rw [b2] at e45
  rw [b3] at e46
  rw [h47] at e47
  rw [hT.2.2.1] at e55
  refine ht_bd (ht_gi R3.1 (x := 1287) rfl ?_)
  refine ht_if (fun _ => ?_) (fun h2 => ?_)
  · have t0 := i0
    have t1 := i1
    have t2 : (2 : Int32).toInt = 2 := rfl
    have t3 : (3 : Int32).toInt = 3 := rfl
    have t4 : (4 : Int32).toInt = 4 := rfl
    have hcj : cs[j]? = some (cs[j]'(by omega)) := List.getElem?_eq_getElem (by omega)
    refine ht_bd (ht_ga R3.1 (x := some 44) rfl ?_)
    refine ht_bd (va_li e44 rfl (by omega) x1 ?_)
    have place : x = 0 ∨ x = 1 → z_T (z_bd (z_ga (some 42) 11 18) fun r13 => z_bd (z_ga (some 42) 11 17) fun r14 => z_bd (z_rc (some 42) 11) fun b16 => z_bd (F_X11_unit b16 (Int32.ofNat j)) fun x15 => z_bd (z_li r14 x15) fun x17 => z_bd (z_sb r13 (to + x17) 1) fun _ => ih (Int32.ofNat e, Int32.ofNat (rws + 1), Int32.ofNat j + 1)) M3 Q := by
      intro hk
      have hin : j ∈ fp_pl ks as bs e := by
        unfold fp_pl
        rw [List.mem_filter]
        refine ⟨List.mem_range.mpr (by omega), ?_⟩
        unfold fp_P
        rw [gd hmj, gd x1, Bool.and_eq_true, decide_eq_true_eq, decide_eq_true_eq]
        refine ⟨h0, ?_⟩
        rcases hk with e' | e'
        · rw [e']; decide
        · rw [e']; decide
      refine ht_bd (ht_ga R3.1 (x := some 56) rfl ?_)
      refine ht_bd (ht_ga R3.1 (x := some 55) rfl ?_)
      refine ht_bd (ht_rc R3.1 ?_)
      refine ht_bd (t_unit R3 ((f3 58 (by decide) (by decide) (by decide) (by decide)).trans h58) hL hl5 (fun y hy => by have := List.mem_range.mp (List.mem_filter.mp hy).1; omega) hin fun i hi => ?_)
      obtain ⟨u1, u, u2, u3⟩ := t_un hT.2.2.2 hi
      have hu := n_ti (n := u) (by omega)
      have s1 := i_add (a := to) (b := Int32.ofNat u) (by omega) (by omega)
      refine ht_bd (ht_li e55 (by decide) (n_nn (by omega)) (by rw [n_cl (by omega)]; exact u3) ?_)
      refine ht_bd (tr_sb R3 (i := 56) (by decide) (by decide) rfl (by omega) (by omega) (Or.inr rfl) fun M4 R4 g4 => ?_)
      exact done M4 R4 (f3.t (fun c h1 _ _ _ => g4 c h1))
    refine ht_if (fun h2 => place (Or.inl h2)) (fun n0 => ?_)
    refine ht_if (fun h2 => place (Or.inr h2)) (fun n1 => ?_)
    refine ht_if (fun e2 => ?_) (fun n2 => ?_)
    · have hx : x.toInt = 2 := by rw [e2]; rfl
      obtain ⟨a0, a1⟩ := x5 (by omega) (by omega)
      obtain ⟨q0, q1⟩ := x6 (by omega) (by omega)
      refine ht_bd (ht_ga R3.1 (x := some 45) rfl ?_)
      refine ht_bd (va_li e45 rfl (by omega) x2 ?_)
      refine ht_bd (ht_rc R3.1 ?_)
      refine ht_bd (t_row R3 a0 (by omega) fun ra hra => ?_)
      refine ht_bd (ht_ga R3.1 (x := some 46) rfl ?_)
      refine ht_bd (va_li e46 rfl (by omega) x3 ?_)
      refine ht_bd (ht_rc R3.1 ?_)
      refine ht_bd (t_row R3 q0 (by omega) fun rb hrb => ?_)
      refine ht_bd (ht_rc R3.1 ?_)
      refine ht_bd (t_together R3 hT hra hrb hto fun M4 R4 g4 => ?_)
      exact done M4 R4 (f3.t (fun c h1 _ _ _ => g4 c h1))
    refine ht_if (fun e3 => ?_) (fun n3 => ?_)
    · have hx : x.toInt = 3 := by rw [e3]; rfl
      obtain ⟨a0, a1⟩ := x5 (by omega) (by omega)
      obtain ⟨q0, q1⟩ := x6 (by omega) (by omega)
      unfold F_X11_make_162
      refine ht_fix (body := fun ih3 s => B_X11_make_162 42 (fun y0 y1 y2 => ih (y0, y1, y2)) (fun y0 y1 y2 y3 y4 => ih3 (y0, y1, y2, y3, y4)) s.1 s.2.1 s.2.2.1 s.2.2.2.1 s.2.2.2.2) (I := fun l st M' => RT h (rob nA nE kn wr pc th) M' ∧ fM M M' ∧ ∃ y : Int32, st = (Int32.ofNat e, Int32.ofNat (rws + 1), Int32.ofNat j, to, y) ∧ 0 ≤ y.toInt ∧ y.toInt + l = 1287) ?_ z_N 1287 _ M3 (by decide) ⟨R3, f3, 0, rfl, by decide, by decide⟩
      intro l' st M4 ih3 hI3 hih3
      obtain ⟨R4, f4, w, rfl, hw, hl'⟩ := hI3
      unfold B_X11_make_162 F_X11_make_222 F_X11_make_227 F_X11_make_320
      dsimp only
      have g45 := R4.ex (i := 45) (by decide) (by decide) rfl
      have g46 := R4.ex (i := 46) (by decide) (by decide) rfl
      rw [b2] at g45
      rw [b3] at g46
      refine ht_bd (ht_gi R4.1 (x := 1287) rfl ?_)
      refine ht_if (fun _ => done M4 R4 f4) (fun h2 => ?_)
      have h2 : w.toInt < (1287 : Int32).toInt := i_nle.mp h2
      have e2 := i_s (a := w) (by omega)
      have s1 := i_add (a := to) (b := w) (by omega) (by omega)
      have wr1 : ∀ v : Int32, v = 0 ∨ v = 1 → z_T (z_bd (z_sb (some 56) (to + w) v) fun _ => ih3 (Int32.ofNat e, Int32.ofNat (rws + 1), Int32.ofNat j, to, w + 1)) M4 Q := by
        intro v hv
        refine ht_bd (tr_sb R4 (i := 56) (by decide) (by decide) rfl (by omega) (by omega) hv fun M5 R5 g5 => ?_)
        exact hih3 (l' - 1) _ _ (by omega) ⟨R5, f4.t (fun c h1 _ _ _ => g5 c h1), w + 1, rfl, by omega, by omega⟩
      refine ht_bd (ht_ga R4.1 (x := some 56) rfl ?_)
      refine ht_bd (ht_ga R4.1 (x := some 56) rfl ?_)
      refine ht_bd (ht_ga R4.1 (x := some 45) rfl ?_)
      refine ht_bd (va_li g45 rfl (by omega) x2 ?_)
      refine ht_bd (ht_rc R4.1 ?_)
      refine ht_bd (t_row R4 a0 (by omega) fun ra hra => ?_)
      have hra1 := hra.1
      have hra2 := hra.2
      have s2 := i_add (a := ra) (b := w) (by omega) (by omega)
      refine ht_bd (tr_lb R4 (i := 56) (by decide) (by decide) rfl (by omega) (by omega) fun v _ => ?_)
      refine ht_if (fun _ => ?_) (fun _ => wr1 1 (Or.inr rfl))
      refine ht_bd (ht_ga R4.1 (x := some 56) rfl ?_)
      refine ht_bd (ht_ga R4.1 (x := some 46) rfl ?_)
      refine ht_bd (va_li g46 rfl (by omega) x3 ?_)
      refine ht_bd (ht_rc R4.1 ?_)
      refine ht_bd (t_row R4 q0 (by omega) fun rb hrb => ?_)
      have hrb1 := hrb.1
      have hrb2 := hrb.2
      have s3 := i_add (a := rb) (b := w) (by omega) (by omega)
      refine ht_bd (tr_lb R4 (i := 56) (by decide) (by decide) rfl (by omega) (by omega) fun v _ => ?_)
      exact ht_if (fun _ => wr1 0 (Or.inl rfl)) (fun _ => wr1 1 (Or.inr rfl))
    refine ht_if (fun e4 => ?_) (fun n4 => ?_)
    · have hx : x.toInt = 4 := by rw [e4]; rfl
      obtain ⟨a0, a1⟩ := x5 (by omega) (by omega)
      have rep : z_T (F_X11_make_261 42 (fun y0 y1 y2 => ih (y0, y1, y2)) (Int32.ofNat e) (Int32.ofNat (rws + 1)) (Int32.ofNat j) to) M3 Q := by
        unfold F_X11_make_261 F_X11_make_306 F_X11_make_320
        refine ht_bd (ht_ga R3.1 (x := some 45) rfl ?_)
        refine ht_bd (va_li e45 rfl (by omega) x2 ?_)
        refine ht_bd (ht_rc R3.1 ?_)
        refine ht_bd (t_row R3 a0 (by omega) fun ra hra => ?_)
        refine ht_bd (ht_ga R3.1 (x := some 46) rfl ?_)
        refine ht_bd (va_li e46 rfl (by omega) x3 ?_)
        refine ht_bd (t_least fun lo hlo => ?_)
        refine ht_bd (ht_ga R3.1 (x := some 47) rfl ?_)
        refine ht_bd (va_li e47 rfl (by omega) hcj ?_)
        have fin : ∀ hi : Int32, hi.toInt ≤ 9 → z_T (z_bd (z_rc (some 42) 11) fun b59 => z_bd (F_X11_repeat b59 ra to lo hi) fun _ => ih (Int32.ofNat e, Int32.ofNat (rws + 1), Int32.ofNat j + 1)) M3 Q := by
          intro hi hhi
          refine ht_bd (ht_rc R3.1 ?_)
          refine ht_bd (t_repeat R3 hT hra hto hhi fun M4 R4 g4 => ?_)
          exact done M4 R4 (f3.t (fun c h1 _ h3 h4 => g4 c h1 h3 h4))
        refine ht_if (fun _ => ?_) (fun _ => fin 9 (by decide))
        refine ht_bd (ht_ga R3.1 (x := some 47) rfl ?_)
        refine ht_bd (va_li e47 rfl (by omega) hcj ?_)
        exact ht_bd (t_least fun hi hhi => fin hi hhi)
      refine ht_bd (ht_ga R3.1 (x := some 47) rfl ?_)
      refine ht_bd (va_li e47 rfl (by omega) hcj ?_)
      refine ht_if (fun _ => rep) (fun _ => ?_)
      refine ht_bd (ht_ga R3.1 (x := some 47) rfl ?_)
      refine ht_bd (va_li e47 rfl (by omega) hcj ?_)
      refine ht_bd (ht_ga R3.1 (x := some 46) rfl ?_)
      refine ht_bd (va_li e46 rfl (by omega) x3 ?_)
      exact ht_if (fun _ => done M3 R3 f3) (fun _ => rep)
    refine ht_bd (ht_ga R3.1 (x := some 56) rfl ?_)
    refine ht_bd (tr_sb R3 (i := 56) (by decide) (by decide) rfl (by omega) (by omega) (Or.inr rfl) fun M4 R4 g4 => ?_)
    exact done M4 R4 (f3.t (fun c h1 _ _ _ => g4 c h1))
  · have h2 : y.toInt < (1287 : Int32).toInt := i_nle.mp h2
    have e2 := i_s (a := y) (by omega)
    have s1 := i_add (a := to) (b := y) (by omega) (by omega)
    refine ht_bd (ht_ga R3.1 (x := some 56) rfl ?_)
    refine ht_bd (tr_sb R3 (i := 56) (by decide) (by decide) rfl (by omega) (by omega) (Or.inl rfl) fun M4 R4 g4 => ?_)
    exact hih2 (l - 1) _ _ (by omega) ⟨R4, f3.t (fun c h1 _ _ _ => g4 c h1), y + 1, rfl, by omega, by omega⟩
/-- root: what make made, kept -/
theorem t_root (R : RT h (rob nA nE kn wr pc th) M) (hT : TBH h p q r) (hE : EXH h ks as bs n) (h47 : h 47 = .inl (0, cs.map .int)) (hcl : cs.length = 60) {e : Nat} (he : e < n) {ps : List Int32} (h57 : M[57]? = some (.inl (4, (fp_made ks as bs e).map .int))) (hml : (fp_made ks as bs e).length = 60) (h58 : M[58]? = some (.inl (0, ps.map .int))) (hL : ∀ i x : Nat, (fp_pl ks as bs e)[i]? = some x → ps[i]? = some (Int32.ofNat x)) (hl5 : (fp_pl ks as bs e).length ≤ 5) {Q : Unit → zM → Prop} (k : ∀ M', RT h (rob nA nE kn wr pc th) M' → M'[52]? = M[52]? → M'[58]? = M[58]? → M'[67]? = M[67]? → Q () M') : z_T (F_X11_root 42 (Int32.ofNat e)) M Q := by
  have l4 := hE.2.2.2.2.2.2.1
  have c1 := i1287
  have ee := n_ti (n := e) (by omega)
  have e1 : (1300 : Int32).toInt = 1300 := rfl
  have e2 : (1300 * Int32.ofNat e).toInt = 1300 * e := by rw [i_mul (by rw [e1, ee]; omega) (by rw [e1, ee]; omega), e1, ee]
  unfold F_X11_root
  refine ht_bd (ht_rc R.1 ?_)
  refine ht_bd (t_make R hT hE h47 hcl he h57 hml h58 hL hl5 fun M1 R1 f1 => ?_)
  unfold F_X11_root_7
  refine ht_fix (body := fun ih s => B_X11_root_7 42 (fun y0 y1 => ih (y0, y1)) s.1 s.2) (I := fun m st M' => RT h (rob nA nE kn wr pc th) M' ∧ (M'[52]? = M[52]? ∧ M'[58]? = M[58]? ∧ M'[67]? = M[67]?) ∧ ∃ y : Int32, st = (Int32.ofNat e, y) ∧ 0 ≤ y.toInt ∧ y.toInt + m = 1287) ?_ z_N 1287 _ M1 (by decide) ⟨R1, ⟨f1 52 (by decide) (by decide) (by decide) (by decide), f1 58 (by decide) (by decide) (by decide) (by decide), f1 67 (by decide) (by decide) (by decide) (by decide)⟩, 0, rfl, by decide, by decide⟩
  intro m st M2 ih hI hih
  obtain ⟨R2, ⟨f2, f3, f4⟩, y, rfl, hy, hm⟩ := hI
  unfold B_X11_root_7
  dsimp only
  refine ht_bd (ht_gi R2.1 (x := 1287) rfl ?_)
  refine ht_if (fun _ => ?_) (fun h2 => ?_)
  · refine ht_bd (ht_ga R2.1 (x := some 64) rfl ?_)
    refine ht_bd (tr_sb R2 (i := 64) (by decide) (by decide) rfl (by omega) (by omega) (Or.inr rfl) fun M3 R3 g3 => ?_)
    exact ht_ret (k M3 R3 ((g3 52 (by decide)).trans f2) ((g3 58 (by decide)).trans f3) ((g3 67 (by decide)).trans f4))
  have h2 : y.toInt < (1287 : Int32).toInt := i_nle.mp h2
  have e3 := i_s (a := y) (by omega)
  refine ht_bd (ht_ga R2.1 (x := some 63) rfl ?_)
  refine ht_bd (ht_ga R2.1 (x := some 56) rfl ?_)
  refine ht_bd (ht_rc R2.1 ?_)
  refine ht_bd (t_row R2 (by omega) (by omega) fun ra hra => ?_)
  have hra1 := hra.1
  have hra2 := hra.2
  have s2 := i_add (a := ra) (b := y) (by omega) (by omega)
  have s3 := i_add (a := 1300 * Int32.ofNat e) (b := y) (by omega) (by omega)
  refine ht_bd (tr_lb R2 (i := 56) (by decide) (by decide) rfl (by omega) (by omega) fun v hv => ?_)
  refine ht_bd (tr_sb R2 (i := 63) (by decide) (by decide) rfl (by omega) (by omega) hv fun M3 R3 g3 => ?_)
  exact hih (m - 1) _ _ (by omega) ⟨R3, ⟨(g3 52 (by decide)).trans f2, (g3 58 (by decide)).trans f3, (g3 67 (by decide)).trans f4⟩, y + 1, rfl, by omega, by omega⟩
end MK
