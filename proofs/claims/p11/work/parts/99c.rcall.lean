/-! THE REFERENCE's CALLS: what holds before holds behind -/
def h_u (h : Nat → zC) (i : Nat) (c : zC) : Nat → zC := fun j => if j = i then c else h j
theorem RT.ex1 {h : Nat → zC} {o : List Value} {M : zM} (R : RT h o M) {i : Nat} (h1 : 43 ≤ i) (h2 : i ≤ 67) (hx : ∀ h' : Nat → zC, okr h' i = fun c => c = h' i) {c' : zC} : RT (h_u h i c') o (M.set i c') := by
  refine ⟨by rw [z_go (by omega)]; exact R.1, fun j j1 j2 => ?_⟩
  by_cases e : i = j
  · subst e
    obtain ⟨c, k1, -⟩ := R.2 i h1 h2
    refine ⟨c', z_gs k1, ?_⟩
    rw [hx]
    unfold h_u
    rw [if_pos rfl]
  · obtain ⟨c, k1, k2⟩ := R.2 j j1 j2
    refine ⟨c, by rw [z_go e]; exact k1, ?_⟩
    rw [okr_h (h := h) (by unfold h_u; rw [if_neg (fun e' => e e'.symm)])]
    exact k2
theorem pArcs.pi {S : List Nat} {c : zC} (H : pArcs S c) : pI 180 (fun _ => True) c := by
  obtain ⟨as, h1, h2, -⟩ := H
  exact ⟨as, h1, h2, fun _ _ => trivial⟩
def RI (S : List Nat) (M : zM) : Prop := ∃ (h : Nat → zC) (ks as bs cs ss xs ys zs : List Int32) (n : Nat) (p q r : List Value) (kn wr pc th : Int32), HD h ks as bs cs ss xs ys zs n p q r ∧ pArcs S (h 43) ∧ RT h (rob (Int32.ofNat S.length) (Int32.ofNat n) kn wr pc th) M
section RC
variable {S : List Nat} {M : zM}
theorem RI.mk' {h : Nat → zC} {ks as bs cs ss xs ys zs : List Int32} {n : Nat} {p q r : List Value} {kn wr pc th : Int32} (H : HD h ks as bs cs ss xs ys zs n p q r) (hA : pArcs S (h 43)) (R : RT h (rob (Int32.ofNat S.length) (Int32.ofNat n) kn wr pc th) M) : RI S M := ⟨h, ks, as, bs, cs, ss, xs, ys, zs, n, p, q, r, kn, wr, pc, th, H, hA, R⟩
theorem d_wrong (hI : RI S M) (hS : SOK S) {Q : Int32 → zM → Prop} (t : ∀ v M', RI S M' → Q v M') : z_T (F_X11_wrong 42) M Q := by
  obtain ⟨h, ks, as, bs, cs, ss, xs, ys, zs, n, p, q, r, kn, wr, pc, th, H, hA, R⟩ := hI
  unfold F_X11_wrong
  refine ht_bd (ht_pf (by decide) R.1 (by simp [rob]) ?_)
  have R1 := R.ob (o' := rob (Int32.ofNat S.length) (Int32.ofNat n) kn wr pc 0)
  show z_T _ (M.set 42 (.inr (11, rob (Int32.ofNat S.length) (Int32.ofNat n) kn wr pc 0))) Q
  generalize M.set 42 (.inr (11, rob (Int32.ofNat S.length) (Int32.ofNat n) kn wr pc 0)) = M1 at R1 ⊢
  refine ht_bd (ht_rc R1.1 ?_)
  refine ht_bd (t_reckon hS.2.1 R1 H fun M2 kn2 wr2 pc2 R2 => ?_)
  refine ht_bd (ht_gi R2.1 (x := wr2) rfl ?_)
  exact ht_ret (t _ _ (RI.mk' H hA R2))
theorem d_nodes (hI : RI S M) (hS : SOK S) {p0 : Int32} {Q : Int32 → zM → Prop} (t : ∀ v M', RI S M' → Q v M') : z_T (F_X11_nodes 42 p0) M Q := by
  obtain ⟨h, ks, as, bs, cs, ss, xs, ys, zs, n, p, q, r, kn, wr, pc, th, H, hA, R⟩ := hI
  unfold F_X11_nodes F_X11_nodes_36
  rw [e_s11]
  refine ht_bd (ht_pf (by decide) R.1 (by simp [rob]) ?_)
  have R1 := R.ob (o' := rob (Int32.ofNat S.length) (Int32.ofNat n) kn wr pc 0)
  show z_T _ (M.set 42 (.inr (11, rob (Int32.ofNat S.length) (Int32.ofNat n) kn wr pc 0))) Q
  generalize M.set 42 (.inr (11, rob (Int32.ofNat S.length) (Int32.ofNat n) kn wr pc 0)) = M1 at R1 ⊢
  refine ht_bd (ht_ret (ht_if (fun _ => ht_ret (t _ _ (RI.mk' H hA R1))) (fun h1 => ?_)))
  obtain ⟨g0, g1⟩ := g_in_i (N := 16) (by decide) h1
  refine ht_bd (ht_rc R1.1 ?_)
  refine ht_bd (t_reckon hS.2.1 R1 H fun M2 kn2 wr2 pc2 R2 => ?_)
  refine ht_bd (ht_gi R2.1 (x := wr2) rfl ?_)
  refine ht_if (fun _ => ?_) (fun _ => ht_ret (t _ _ (RI.mk' H hA R2)))
  refine ht_bd (ht_ga R2.1 (x := some 52) rfl ?_)
  obtain ⟨c52, h52, k52⟩ := R2.ar (i := 52) (by decide) (by decide) rfl
  exact ht_bd (ri_li h52 k52 g0 (by omega) fun v _ => ht_ret (t _ _ (RI.mk' H hA R2)))
theorem d_has (hI : RI S M) (hS : SOK S) {p0 p1 : Int32} {Q : Int32 → zM → Prop} (t : ∀ v M', RI S M' → Q v M') : z_T (F_X11_has 42 p0 p1) M Q := by
  obtain ⟨h, ks, as, bs, cs, ss, xs, ys, zs, n, p, q, r, kn, wr, pc, th, H, hA, R⟩ := hI
  unfold F_X11_has F_X11_has_47 F_X11_has_19
  rw [e_n11, e_s11]
  refine ht_bd (ht_pf (by decide) R.1 (by simp [rob]) ?_)
  have R1 := R.ob (o' := rob (Int32.ofNat S.length) (Int32.ofNat n) kn wr pc 0)
  show z_T _ (M.set 42 (.inr (11, rob (Int32.ofNat S.length) (Int32.ofNat n) kn wr pc 0))) Q
  generalize M.set 42 (.inr (11, rob (Int32.ofNat S.length) (Int32.ofNat n) kn wr pc 0)) = M1 at R1 ⊢
  refine ht_bd (ht_ret (ht_if (fun _ => ht_ret (t _ _ (RI.mk' H hA R1))) (fun _ => ?_)))
  refine ht_bd (ht_ret (ht_if (fun _ => ht_ret (t _ _ (RI.mk' H hA R1))) (fun h1 => ?_)))
  obtain ⟨g0, g1⟩ := g_in_i (N := 16) (by decide) h1
  refine ht_bd (ht_rc R1.1 ?_)
  refine ht_bd (t_reckon hS.2.1 R1 H fun M2 kn2 wr2 pc2 R2 => ?_)
  refine ht_bd (ht_gi R2.1 (x := wr2) rfl ?_)
  refine ht_if (fun _ => ?_) (fun _ => ht_ret (t _ _ (RI.mk' H hA R2)))
  refine ht_bd (ht_ga R2.1 (x := some 52) rfl ?_)
  obtain ⟨c52, h52, k52⟩ := R2.ar (i := 52) (by decide) (by decide) rfl
  exact ht_bd (ri_li h52 k52 g0 (by omega) fun v _ => ht_ret (t _ _ (RI.mk' H hA R2)))
theorem t_isBare {h : Nat → zC} {ks as bs cs ss xs ys zs : List Int32} {n : Nat} {p q r : List Value} {nA nE kn wr pc th : Int32} (R : RT h (rob nA nE kn wr pc th) M) (H : HD h ks as bs cs ss xs ys zs n p q r) {p0 : Int32} {Q : Int32 → zM → Prop} (t : ∀ v : Int32, (¬ v = 0 → ∃ s : Nat, s < 16 ∧ p0 = Int32.ofNat s ∧ ss[s]? = some 0) → Q v M) : z_T (F_X11_isBare 42 p0) M Q := by
  unfold F_X11_isBare F_X11_isBare_20 F_X11_isBare_21
  rw [e_s11, z_rb0, z_rb1]
  refine ht_bd (ht_ret (ht_if (fun _ => ht_ret (t _ (fun g => absurd rfl g))) (fun h1 => ?_)))
  obtain ⟨s, hs, rfl⟩ := g_in_ok (N := 16) (by decide) h1
  obtain ⟨kd, x, y, z, g1, -⟩ := H.2.2.2.2.2.2.2.2.2 s hs
  have e48 := R.ex (i := 48) (by decide) (by decide) rfl
  rw [H.2.2.2.2.1.1] at e48
  refine ht_bd (ht_ga R.1 (x := some 48) rfl ?_)
  refine ht_bd (va_li e48 rfl (by omega) g1 ?_)
  refine ht_if (fun e => ht_ret (t _ (fun _ => ⟨s, hs, rfl, by rw [g1, e]⟩))) (fun _ => ht_ret (t _ (fun g => absurd rfl g)))
theorem d_ways (hI : RI S M) (hS : SOK S) {p0 p1 : Int32} {Q : Int32 → zM → Prop} (t : ∀ v M', RI S M' → Q v M') : z_T (F_X11_ways 42 p0 p1) M Q := by
  obtain ⟨h, ks, as, bs, cs, ss, xs, ys, zs, n, p, q, r, kn, wr, pc, th, H, hA, R⟩ := hI
  unfold F_X11_ways F_X11_ways_58 F_X11_ways_20
  rw [e_n11]
  refine ht_bd (ht_pf (by decide) R.1 (by simp [rob]) ?_)
  have R1 := R.ob (o' := rob (Int32.ofNat S.length) (Int32.ofNat n) kn wr pc 0)
  show z_T _ (M.set 42 (.inr (11, rob (Int32.ofNat S.length) (Int32.ofNat n) kn wr pc 0))) Q
  generalize M.set 42 (.inr (11, rob (Int32.ofNat S.length) (Int32.ofNat n) kn wr pc 0)) = M1 at R1 ⊢
  refine ht_bd (ht_ret (ht_if (fun _ => ht_ret (t _ _ (RI.mk' H hA R1))) (fun _ => ?_)))
  refine ht_bd (ht_rc R1.1 ?_)
  refine ht_bd (t_isBare R1 H fun v hv => ?_)
  refine ht_if (fun _ => ht_ret (t _ _ (RI.mk' H hA R1))) (fun hv0 => ?_)
  obtain ⟨s, hs, rfl, hb⟩ := hv hv0
  refine ht_bd (ht_rc R1.1 ?_)
  refine ht_bd (t_reckon hS.2.1 R1 H fun M2 kn2 wr2 pc2 R2 => ?_)
  refine ht_bd (ht_gi R2.1 (x := wr2) rfl ?_)
  refine ht_if (fun _ => ?_) (fun _ => ht_ret (t _ _ (RI.mk' H hA R2)))
  refine ht_bd (ht_rc R2.1 ?_)
  refine ht_bd (t_weigh hS.2.1 R2 H hs hb fun w M3 pc3 R3 _ _ => ?_)
  exact ht_if (fun _ => ht_ret (t _ _ (RI.mk' H hA R3))) (fun _ => ht_ret (t _ _ (RI.mk' H hA R3)))
theorem t_isLoose {h : Nat → zC} {ks as bs cs ss xs ys zs : List Int32} {n : Nat} {p q r : List Value} {nA nE kn wr th : Int32} {L : List Nat} (R : RT h (rob nA nE kn wr (Int32.ofNat L.length) th) M) (H : HD h ks as bs cs ss xs ys zs n p q r) (P : PLC bs n L M) {s k o : Int32} (s0 : 0 ≤ s.toInt) (s1 : s.toInt < 16) (k0 : 0 ≤ k.toInt) (k1 : k.toInt < 60) {Q : Int32 → zM → Prop} (t : ∀ v, Q v M) : z_T (F_X11_isLoose 42 s k o) M Q := by
  have hl5 := P.1
  unfold F_X11_isLoose
  refine ht_bd (ht_rc R.1 ?_)
  refine ht_bd (t_mayBeLeft R H s0 s1 k0 k1 fun v => ?_)
  rw [z_rb0]
  refine ht_if (fun _ => ?_) (fun _ => ht_ret (t _))
  unfold F_X11_isLoose_15
  refine ht_fix (body := fun ih s => B_X11_isLoose_15 42 (fun y0 y1 y2 => ih (y0, y1, y2)) s.1 s.2.1 s.2.2) (I := fun m st M' => M' = M ∧ ∃ j : Nat, st = (k, o, Int32.ofNat j) ∧ j + m = L.length) ?_ z_N L.length _ M (Nat.lt_of_le_of_lt hl5 (by decide)) ⟨rfl, 0, rfl, by omega⟩
  intro m st M' ih hI hih
  obtain ⟨rfl, j, rfl, hj⟩ := hI
  unfold B_X11_isLoose_15
  rw [z_rb0, z_rb1]
  dsimp only
  refine ht_bd (ht_gi R.1 (x := Int32.ofNat L.length) rfl ?_)
  refine ht_if (fun _ => ht_ret (t _)) (fun hle => ?_)
  have hlt : j < L.length := Nat.lt_of_not_le fun g => hle ((n_le (by omega) (by omega)).mpr g)
  obtain ⟨hx, hb⟩ := P.2.1 _ (List.getElem_mem hlt)
  refine ht_bd (ht_ga R.1 (x := some 58) rfl ?_)
  refine ht_bd (t_pl P hlt ?_)
  refine ht_bd (ht_rc R.1 ?_)
  refine ht_bd (t_takes R H hx hb k0 k1 fun v => ?_)
  refine ht_if (fun _ => ?_) (fun _ => ht_ret (t _))
  rw [n_s]
  exact hih (m - 1) _ _ (by omega) ⟨rfl, j + 1, rfl, by omega⟩
theorem d_loose (hI : RI S M) (hS : SOK S) {p0 p1 : Int32} {Q : Int32 → zM → Prop} (t : ∀ v M', RI S M' → Q v M') : z_T (F_X11_loose 42 p0 p1) M Q := by
  obtain ⟨h, ks, as, bs, cs, ss, xs, ys, zs, n, p, q, r, kn, wr, pc, th, H, hA, R⟩ := hI
  have hc := hS.2.1
  unfold F_X11_loose F_X11_loose_20
  rw [e_n11]
  refine ht_bd (ht_pf (by decide) R.1 (by simp [rob]) ?_)
  have R1 := R.ob (o' := rob (Int32.ofNat S.length) (Int32.ofNat n) kn wr pc 0)
  show z_T _ (M.set 42 (.inr (11, rob (Int32.ofNat S.length) (Int32.ofNat n) kn wr pc 0))) Q
  generalize M.set 42 (.inr (11, rob (Int32.ofNat S.length) (Int32.ofNat n) kn wr pc 0)) = M1 at R1 ⊢
  refine ht_bd (ht_ret (ht_if (fun _ => ht_ret (t _ _ (RI.mk' H hA R1))) (fun _ => ?_)))
  refine ht_bd (ht_rc R1.1 ?_)
  refine ht_bd (t_isBare R1 H fun v hv => ?_)
  refine ht_if (fun _ => ht_ret (t _ _ (RI.mk' H hA R1))) (fun hv0 => ?_)
  obtain ⟨s, hs, rfl, hb⟩ := hv hv0
  refine ht_bd (ht_rc R1.1 ?_)
  refine ht_bd (t_reckon hS.2.1 R1 H fun M2 kn2 wr2 pc2 R2 => ?_)
  refine ht_bd (ht_gi R2.1 (x := wr2) rfl ?_)
  refine ht_if (fun _ => ?_) (fun _ => ht_ret (t _ _ (RI.mk' H hA R2)))
  obtain ⟨kd, x, y, z, g1, g2, g3, g4, g5, -, -⟩ := H.2.2.2.2.2.2.2.2.2 s hs
  rw [hb] at g1
  cases g1
  obtain ⟨e, he, rfl, hl5⟩ := g5 rfl
  have es := n_ti (n := s) (by omega)
  have e49 := R2.ex (i := 49) (by decide) (by decide) rfl
  rw [H.2.2.2.2.1.2.1] at e49
  refine ht_bd (ht_ga R2.1 (x := some 49) rfl ?_)
  refine ht_bd (va_li e49 rfl (by omega) g2 ?_)
  refine ht_bd (ht_rc R2.1 ?_)
  refine ht_bd (t_fp R2 H.2.1 he fun M3 ps R3 h57 h58 hpl hL f3 => ?_)
  have P3 : PLC bs n (fp_pl ks as bs e) M3 := ⟨hl5, fp_in H.2.1.2.2.2 he, ps, h58, hL⟩
  unfold F_X11_loose_51
  refine ht_fix (body := fun ih s => B_X11_loose_51 42 (fun y0 y1 y2 y3 => ih (y0, y1, y2, y3)) s.1 s.2.1 s.2.2.1 s.2.2.2) (I := fun m st M' => M' = M3 ∧ ∃ (v : Int32) (k : Nat), st = (p0, Int32.ofNat s, v, Int32.ofNat k) ∧ k + m = 2 * S.length) ?_ z_N (2 * S.length) _ M3 (Nat.lt_of_le_of_lt (show 2 * S.length ≤ 120 by omega) (by decide)) ⟨rfl, 0, 0, rfl, by omega⟩
  intro m st M4 ih hI hih
  obtain ⟨rfl, v, k, rfl, hk⟩ := hI
  unfold B_X11_loose_51
  dsimp only
  refine ht_bd (ht_gi R3.1 (x := Int32.ofNat S.length) rfl ?_)
  rw [n_2]
  refine ht_if (fun _ => ht_ret (t _ _ (RI.mk' H hA R3))) (fun hle => ?_)
  have hlt : k < 2 * S.length := Nat.lt_of_not_le fun g => hle ((n_le (by omega) (by omega)).mpr g)
  have ek := n_ti (n := k / 2) (by omega)
  have go : ∀ o : Int32, z_T (F_X11_loose_74 42 (fun y0 y1 y2 y3 => ih (y0, y1, y2, y3)) p0 (Int32.ofNat s) v (Int32.ofNat k) o) M4 Q := by
    intro o
    unfold F_X11_loose_74 F_X11_loose_96 F_X11_loose_136 F_X11_loose_138
    rw [n_d2 (by omega)]
    obtain ⟨m1, m2, m3, m4⟩ := i_3 (k := Int32.ofNat (k / 2)) (by omega) (by omega)
    have nx : ∀ w : Int32, z_T (ih (p0, Int32.ofNat s, w, Int32.ofNat k + 1)) M4 Q := fun w => by
      rw [n_s]
      exact hih (m - 1) _ _ (by omega) ⟨rfl, w, k + 1, rfl, by omega⟩
    have wk : ∀ d : Int32, 0 ≤ (3 * Int32.ofNat (k / 2) + d).toInt → (3 * Int32.ofNat (k / 2) + d).toInt < 180 → z_T (z_bd (z_li (some 43) (3 * Int32.ofNat (k / 2) + d)) fun x17 => if x17 = p0 then (z_bd (z_rc (some 42) 11) fun b20 => z_bd (F_X11_concerns b20 (Int32.ofNat s) (Int32.ofNat (k / 2)) o) fun x19 => if x19 = 0 then (ih (p0, Int32.ofNat s, v, Int32.ofNat k + 1)) else (z_bd (z_rc (some 42) 11) fun b23 => z_bd (F_X11_isLoose b23 (Int32.ofNat s) (Int32.ofNat (k / 2)) o) fun x22 => if x22 = 0 then (z_bd (z_ret (v + 0)) fun x25 => ih (p0, Int32.ofNat s, x25, Int32.ofNat k + 1)) else (z_bd (z_ret (v + 1)) fun x25 => ih (p0, Int32.ofNat s, x25, Int32.ofNat k + 1)))) else (ih (p0, Int32.ofNat s, v, Int32.ofNat k + 1))) M4 Q := by
      intro d d0 d1
      refine ht_bd (t_a3 R3 H d0 d1 fun v => ?_)
      refine ht_if (fun _ => ?_) (fun _ => nx _)
      refine ht_bd (ht_rc R3.1 ?_)
      refine ht_bd (t_concerns R3 H P3 (by omega) (by omega) (by omega) (by omega) fun v => ?_)
      refine ht_if (fun _ => nx _) (fun _ => ?_)
      refine ht_bd (ht_rc R3.1 ?_)
      refine ht_bd (t_isLoose R3 H P3 (by omega) (by omega) (by omega) (by omega) fun v => ?_)
      exact ht_if (fun _ => ht_bd (ht_ret (nx _))) (fun _ => ht_bd (ht_ret (nx _)))
    refine ht_bd (ht_ga R3.1 (x := some 43) rfl ?_)
    exact ht_if (fun _ => wk 2 (by omega) (by omega)) (fun _ => wk 0 (by omega) (by omega))
  exact ht_if (fun _ => go 1) (fun _ => go 0)
theorem d_arcs (hI : RI S M) {Q : Int32 → zM → Prop} (t : ∀ M', RI S M' → Q (Int32.ofNat S.length) M') : z_T (F_X11_arcs 42) M Q := by
  obtain ⟨h, ks, as, bs, cs, ss, xs, ys, zs, n, p, q, r, kn, wr, pc, th, H, hA, R⟩ := hI
  unfold F_X11_arcs
  refine ht_bd (ht_pf (by decide) R.1 (by simp [rob]) ?_)
  have R1 := R.ob (o' := rob (Int32.ofNat S.length) (Int32.ofNat n) kn wr pc 0)
  show z_T _ (M.set 42 (.inr (11, rob (Int32.ofNat S.length) (Int32.ofNat n) kn wr pc 0))) Q
  generalize M.set 42 (.inr (11, rob (Int32.ofNat S.length) (Int32.ofNat n) kn wr pc 0)) = M1 at R1 ⊢
  refine ht_bd (ht_gi R1.1 (x := Int32.ofNat S.length) rfl ?_)
  exact ht_ret (t _ (RI.mk' H hA R1))
theorem d_arc (hI : RI S M) (hS : SOK S) (hD : ∀ v, v < 16 → odeg S v ≤ 4 ∧ ideg S v ≤ 4) {p0 p1 p2 p3 : Int32} (hp3 : p3 = 0 ∨ p3 = 1) {Q : Int32 → zM → Prop} (t : ∀ (S' : List Nat) (M' : zM), nS S p0 p1 p2 p3 S' → SOK S' → RI S' M' → Q (aS S p0 p1 p2 p3) M') : z_T (F_X11_arc 42 p0 p1 p2 p3) M Q := by
  obtain ⟨h, ks, as, bs, cs, ss, xs, ys, zs, n, p, q, r, kn, wr, pc, th, H, hA, R⟩ := hI
  refine y_arcS hS hD R.1 (R.ex (i := 43) (by decide) (by decide) rfl) hA hp3 fun x S' kn' c' M' hx hn hS' hA' _ h42 h43 f => ?_
  subst hx
  refine t S' M' hn hS' ?_
  obtain ⟨a1, a2, a3, a4, a5, a6⟩ := H
  refine RI.mk' (h := h_u h 43 c') (ks := ks) (as := as) (bs := bs) (cs := cs) (ss := ss) (xs := xs) (ys := ys) (zs := zs) (n := n) (p := p) (q := q) (r := r) ⟨a1, a2, a3, hA'.pi, a5, a6⟩ hA' (kn := kn') (wr := wr) (pc := pc) (th := 0) ⟨h42, fun i i1 i2 => ?_⟩
  by_cases e : i = 43
  · subst e
    exact ⟨c', h43, rfl⟩
  · obtain ⟨c, k1, k2⟩ := R.2 i i1 i2
    refine ⟨c, (f i (by omega) e).trans k1, ?_⟩
    rw [okr_h (h := h) (by unfold h_u; rw [if_neg e])]
    exact k2
theorem d_expr (hI : RI S M) {p0 p1 p2 p3 : Int32} {Q : Int32 → zM → Prop} (t : ∀ v M', RI S M' → Q v M') : z_T (F_X11_expression 42 p0 p1 p2 p3) M Q := by
  obtain ⟨h, ks, as, bs, cs, ss, xs, ys, zs, n, p, q, r, kn, wr, pc, th, H, hA, R⟩ := hI
  refine t_expr R H.2.1 H.2.2.1.1 H.2.2.1.2 (fun x M' R' => t _ _ (RI.mk' H hA R')) (fun h' M' hn hX R' => t _ _ ?_)
  obtain ⟨rfl, hE'⟩ := hX
  obtain ⟨a1, a2, a3, a4, a5, a6⟩ := H
  refine RI.mk' (h := h_new h (.inl (0, (ks.set n p0).map .int)) (.inl (0, (as.set n p1).map .int)) (.inl (0, (bs.set n p2).map .int)) (.inl (0, (cs.set n p3).map .int))) (ks := ks.set n p0) (as := as.set n p1) (bs := bs.set n p2) (cs := cs.set n p3) (ss := ss) (xs := xs) (ys := ys) (zs := zs) (n := n + 1) (p := p) (q := q) (r := r) ⟨a1, hE', ⟨rfl, by simpa using a3.2⟩, a4, a5, ?_⟩ hA R'
  obtain ⟨s1, s2, s3, s4, s5⟩ := a6
  refine ⟨s1, s2, s3, s4, fun s hs => ?_⟩
  obtain ⟨kd, x, y, z, g1, g2, g3, g4, g5, g6, g7⟩ := s5 s hs
  refine ⟨kd, x, y, z, g1, g2, g3, g4, fun e0 => ?_, g6, g7⟩
  obtain ⟨e, he, hx, hl⟩ := g5 e0
  refine ⟨e, by omega, hx, ?_⟩
  rw [fp_pl_e (n := n) (fun j hj => ⟨gd_ne (by omega), gd_ne (by omega), gd_ne (by omega)⟩) he]
  exact hl
theorem SHO.put {ks as bs ss xs ys zs : List Int32} {n : Nat} (H : SHO ks as bs n ss xs ys zs) {s0 : Nat} (h0 : s0 < 16) {t x y z : Int32} (g5 : t = 0 → ∃ e : Nat, e < n ∧ x = Int32.ofNat e ∧ (fp_pl ks as bs e).length ≤ 5) (g6 : t = 1 ∨ t = 2 → rg 0 15 x ∧ rg 0 15 y) (g7 : t = 3 → rg 0 15 x) : SHO ks as bs n (ss.set s0 t) (xs.set s0 x) (ys.set s0 y) (zs.set s0 z) := by
  obtain ⟨s1, s2, s3, s4, s5⟩ := H
  refine ⟨by simpa using s1, by simpa using s2, by simpa using s3, by simpa using s4, fun s hs => ?_⟩
  by_cases e : s0 = s
  · subst e
    exact ⟨t, x, y, z, List.getElem?_set_self (by omega), List.getElem?_set_self (by omega), List.getElem?_set_self (by omega), List.getElem?_set_self (by omega), g5, g6, g7⟩
  · obtain ⟨t', x', y', z', k1, k2, k3, k4, k5⟩ := s5 s hs
    exact ⟨t', x', y', z', by rw [List.getElem?_set_ne e]; exact k1, by rw [List.getElem?_set_ne e]; exact k2, by rw [List.getElem?_set_ne e]; exact k3, by rw [List.getElem?_set_ne e]; exact k4, k5⟩
theorem d_s95 {h : Nat → zC} {ks as bs cs ss xs ys zs : List Int32} {n : Nat} {p q r : List Value} {kn wr pc th : Int32} (H : HD h ks as bs cs ss xs ys zs n p q r) (hA : pArcs S (h 43)) (R : RT h (rob (Int32.ofNat S.length) (Int32.ofNat n) kn wr pc th) M) {s0 : Nat} (h0 : s0 < 16) {t0 x y z : Int32} (g5 : t0 = 0 → ∃ e : Nat, e < n ∧ x = Int32.ofNat e ∧ (fp_pl ks as bs e).length ≤ 5) (g6 : t0 = 1 ∨ t0 = 2 → rg 0 15 x ∧ rg 0 15 y) (g7 : t0 = 3 → rg 0 15 x) {Q : Int32 → zM → Prop} (t : ∀ v M', RI S M' → Q v M') : z_T (F_X11_shape_95 42 (Int32.ofNat s0) t0 x y z) M Q := by
  obtain ⟨a1, a2, a3, a4, ⟨b1, b2, b3, b4⟩, a6⟩ := H
  have U := a6.put h0 (z := z) g5 g6 g7
  obtain ⟨s1, s2, s3, s4, -⟩ := a6
  have e48 := R.ex (i := 48) (by decide) (by decide) rfl
  rw [b1] at e48
  unfold F_X11_shape_95
  refine ht_bd (ht_ga R.1 (x := some 48) rfl ?_)
  refine ht_bd (va_si (by decide) e48 rfl (by omega) (by omega) ?_)
  have R1 := R.ex1 (i := 48) (by decide) (by decide) (fun _ => rfl) (c' := .inl (0, (ss.set s0 t0).map .int))
  generalize M.set 48 (.inl (0, (ss.set s0 t0).map .int)) = M1 at R1 ⊢
  have e49 := R1.ex (i := 49) (by decide) (by decide) rfl
  rw [show h_u h 48 (.inl (0, (ss.set s0 t0).map .int)) 49 = h 49 from rfl, b2] at e49
  refine ht_bd (ht_ga R1.1 (x := some 49) rfl ?_)
  refine ht_bd (va_si (by decide) e49 rfl (by omega) (by omega) ?_)
  have R2 := R1.ex1 (i := 49) (by decide) (by decide) (fun _ => rfl) (c' := .inl (0, (xs.set s0 x).map .int))
  generalize M1.set 49 (.inl (0, (xs.set s0 x).map .int)) = M2 at R2 ⊢
  have e50 := R2.ex (i := 50) (by decide) (by decide) rfl
  rw [show h_u (h_u h 48 (.inl (0, (ss.set s0 t0).map .int))) 49 (.inl (0, (xs.set s0 x).map .int)) 50 = h 50 from rfl, b3] at e50
  refine ht_bd (ht_ga R2.1 (x := some 50) rfl ?_)
  refine ht_bd (va_si (by decide) e50 rfl (by omega) (by omega) ?_)
  have R3 := R2.ex1 (i := 50) (by decide) (by decide) (fun _ => rfl) (c' := .inl (0, (ys.set s0 y).map .int))
  generalize M2.set 50 (.inl (0, (ys.set s0 y).map .int)) = M3 at R3 ⊢
  have e51 := R3.ex (i := 51) (by decide) (by decide) rfl
  rw [show h_u (h_u (h_u h 48 (.inl (0, (ss.set s0 t0).map .int))) 49 (.inl (0, (xs.set s0 x).map .int))) 50 (.inl (0, (ys.set s0 y).map .int)) 51 = h 51 from rfl, b4] at e51
  refine ht_bd (ht_ga R3.1 (x := some 51) rfl ?_)
  refine ht_bd (va_si (by decide) e51 rfl (by omega) (by omega) ?_)
  have R4 := R3.ex1 (i := 51) (by decide) (by decide) (fun _ => rfl) (c' := .inl (0, (zs.set s0 z).map .int))
  generalize M3.set 51 (.inl (0, (zs.set s0 z).map .int)) = M4 at R4 ⊢
  refine ht_bd (ht_pf (by decide) R4.1 (by simp [rob]) ?_)
  have R5 := R4.ob (o' := rob (Int32.ofNat S.length) (Int32.ofNat n) 0 wr pc th)
  refine ht_ret (t _ _ (RI.mk' (h := h_u (h_u (h_u (h_u h 48 (.inl (0, (ss.set s0 t0).map .int))) 49 (.inl (0, (xs.set s0 x).map .int))) 50 (.inl (0, (ys.set s0 y).map .int))) 51 (.inl (0, (zs.set s0 z).map .int))) (ks := ks) (as := as) (bs := bs) (cs := cs) (ss := ss.set s0 t0) (xs := xs.set s0 x) (ys := ys.set s0 y) (zs := zs.set s0 z) (n := n) (p := p) (q := q) (r := r) ⟨a1, a2, a3, a4, ⟨rfl, rfl, rfl, rfl⟩, U⟩ hA R5))
theorem d_shape (hI : RI S M) {p0 p1 p2 p3 p4 : Int32} {Q : Int32 → zM → Prop} (t : ∀ v M', RI S M' → Q v M') : z_T (F_X11_shape 42 p0 p1 p2 p3 p4) M Q := by
  obtain ⟨h, ks, as, bs, cs, ss, xs, ys, zs, n, p, q, r, kn, wr, pc, th, H, hA, R⟩ := hI
  have l4 := H.2.1.2.2.2.2.2.2.1
  unfold F_X11_shape F_X11_shape_22
  rw [e_s11]
  refine ht_bd (ht_pf (by decide) R.1 (by simp [rob]) ?_)
  have R1 := R.ob (o' := rob (Int32.ofNat S.length) (Int32.ofNat n) kn wr pc 0)
  show z_T _ (M.set 42 (.inr (11, rob (Int32.ofNat S.length) (Int32.ofNat n) kn wr pc 0))) Q
  generalize M.set 42 (.inr (11, rob (Int32.ofNat S.length) (Int32.ofNat n) kn wr pc 0)) = M1 at R1 ⊢
  have bad : ∀ v : Int32, z_T (z_ret v) M1 Q := fun v => ht_ret (t _ _ (RI.mk' H hA R1))
  refine ht_bd (ht_ret (ht_if (fun _ => bad _) (fun hs => ?_)))
  obtain ⟨s0, hs0, rfl⟩ := g_in_ok (N := 16) (by decide) hs
  have l53 : ∀ (M2 : zM) (pc2 : Int32), RT h (rob (Int32.ofNat S.length) (Int32.ofNat n) kn wr pc2 0) M2 → (p1 = 0 → ∃ e : Nat, e < n ∧ p2 = Int32.ofNat e ∧ (fp_pl ks as bs e).length ≤ 5) → z_T (F_X11_shape_53 42 (Int32.ofNat s0) p1 p2 p3 p4) M2 Q := by
    intro M2 pc2 R2 g5
    have bad2 : ∀ v : Int32, z_T (z_ret v) M2 Q := fun v => ht_ret (t _ _ (RI.mk' H hA R2))
    have l75 : (p1 = 1 ∨ p1 = 2 ∨ p1 = 3 → rg 0 15 p2) → z_T (F_X11_shape_75 42 (Int32.ofNat s0) p1 p2 p3 p4) M2 Q := by
      intro g7
      unfold F_X11_shape_75 F_X11_shape_85 F_X11_shape_93
      rw [e_s11]
      have l85 : p1 = 1 ∨ p1 = 2 → z_T (z_bd (z_ret (g_in 16 p3)) fun x21 => if x21 = 0 then (z_ret (-1)) else (F_X11_shape_95 42 (Int32.ofNat s0) p1 p2 p3 p4)) M2 Q := by
        intro e12
        refine ht_bd (ht_ret (ht_if (fun _ => bad2 _) (fun h3 => ?_)))
        obtain ⟨w0, w1⟩ := g_in_i (N := 16) (by decide) h3
        refine d_s95 H hA R2 hs0 g5 (fun _ => ⟨g7 (by rcases e12 with e | e; exact Or.inl e; exact Or.inr (Or.inl e)), ⟨w0, by omega⟩⟩) (fun e3 => ?_) t
        rcases e12 with e | e
        · rw [e] at e3; exact absurd e3 (by decide)
        · rw [e] at e3; exact absurd e3 (by decide)
      refine ht_if (fun e => l85 (Or.inl e)) (fun n1 => ?_)
      refine ht_if (fun e => l85 (Or.inr e)) (fun n2 => ?_)
      exact d_s95 H hA R2 hs0 g5 (fun e => by rcases e with e | e; exact absurd e n1; exact absurd e n2) (fun e => g7 (Or.inr (Or.inr e))) t
    unfold F_X11_shape_53 F_X11_shape_68 F_X11_shape_93
    rw [e_s11]
    have l68 : z_T (z_bd (z_ret (g_in 16 p2)) fun x23 => if x23 = 0 then (z_ret (-1)) else (F_X11_shape_75 42 (Int32.ofNat s0) p1 p2 p3 p4)) M2 Q := by
      refine ht_bd (ht_ret (ht_if (fun _ => bad2 _) (fun h3 => ?_)))
      obtain ⟨w0, w1⟩ := g_in_i (N := 16) (by decide) h3
      exact l75 (fun _ => ⟨w0, by omega⟩)
    refine ht_if (fun _ => l68) (fun n1 => ?_)
    refine ht_if (fun _ => l68) (fun n2 => ?_)
    refine ht_if (fun _ => l68) (fun n3 => ?_)
    exact l75 (fun e => by rcases e with e | e | e; exact absurd e n1; exact absurd e n2; exact absurd e n3)
  refine ht_if (fun _ => bad _) (fun _ => ?_)
  refine ht_if (fun _ => ?_) (fun _ => bad _)
  refine ht_if (fun e0 => ?_) (fun n0 => l53 M1 pc R1 (fun e => absurd e n0))
  refine ht_bd (ht_rc R1.1 ?_)
  refine ht_bd (t_isE l4 R1 fun x hx => ?_)
  refine ht_if (fun _ => bad _) (fun ex => ?_)
  obtain ⟨q0, q1⟩ := hx ex
  obtain ⟨e, he, rfl⟩ : ∃ e : Nat, e < n ∧ p2 = Int32.ofNat e := ⟨p2.toInt.toNat, by omega, i_of q0⟩
  have hlen : (fp_pl ks as bs e).length ≤ e + 1 := by
    have := List.length_filter_le (fp_P ks (fp_made ks as bs e)) (List.range (e + 1))
    rw [List.length_range] at this
    exact this
  refine ht_bd (ht_rc R1.1 ?_)
  refine ht_bd (t_fp R1 H.2.1 he fun M2 ps R2 h57 h58 hpl hL f2 => ?_)
  refine ht_bd (ht_gi R2.1 (x := Int32.ofNat (fp_pl ks as bs e).length) rfl ?_)
  exact ht_if (fun h5 => l53 M2 _ R2 (fun _ => ⟨e, he, rfl, (n_le (b := 5) (by omega) (by decide)).mp h5⟩)) (fun _ => ht_ret (t _ _ (RI.mk' H hA R2)))
def oP (S : List Nat) (p0 p1 : Int32) (k : Nat) : Bool := S.any (fun x => if p1 = 0 then decide (p0 = Int32.ofNat (x % 16)) && decide (k = x / 16 % 8 * 16 + x / 128) else decide (p0 = Int32.ofNat (x / 128)) && decide (k = x % 128))
def oK (S : List Nat) (p0 p1 : Int32) : List Nat := (List.range 128).filter (oP S p0 p1)
theorem n_16d {k : Nat} (h : k < 2147483648) : Int32.ofNat k / 16 = Int32.ofNat (k / 16) := (Int32.ofNat_div h (b := 16) (by decide)).symm
theorem n_16m {k : Nat} (h : k < 2147483648) : Int32.ofNat k - Int32.ofNat k / 16 * 16 = Int32.ofNat (k % 16) := by
  rw [n_16d h, show (16 : Int32) = Int32.ofNat 16 from rfl, ← Int32.ofNat_mul, ← Int32.ofNat_sub _ _ (by omega)]
  congr 1
  omega
theorem d_other (hI : RI S M) (hS : SOK S) {p0 p1 p2 : Int32} (hK : (oK S p0 p1).length ≤ 4) {Q : Int32 → zM → Prop} (t : ∀ (v th : Int32) (M' : zM), RI S M' → (∃ o : List Value, M'[42]? = some (.inr (11, o)) ∧ o[22]? = some (.int th)) → ((th = 1 ∧ v = 0 ∧ (p2 < 0 ∨ Int32.ofNat (oK S p0 p1).length ≤ p2)) ∨ (th = 0 ∧ ∃ i k : Nat, p2 = Int32.ofNat i ∧ (oK S p0 p1)[i]? = some k ∧ v = Int32.ofNat (k % 16))) → Q v M') : z_T (F_X11_other 42 p0 p1 p2) M Q := by
  obtain ⟨h, ks, as, bs, cs, ss, xs, ys, zs, n, p, q, r, kn, wr, pc, th, H, hA, R⟩ := hI
  obtain ⟨c59, h59, es0, rfl, hel, -⟩ := R.ar (i := 59) (by decide) (by decide) rfl
  unfold F_X11_other F_X11_other_6
  refine ht_fix (body := fun ih s => B_X11_other_6 42 (fun y0 y1 y2 y3 y4 => ih (y0, y1, y2, y3, y4)) s.1 s.2.1 s.2.2.1 s.2.2.2.1 s.2.2.2.2) (I := fun m st M' => ∃ (k : Nat) (es : List Int32), st = (p0, p1, p2, Int32.ofNat ((List.range k).filter (oP S p0 p1)).length, Int32.ofNat k) ∧ k + m = 128 ∧ RT h (rob (Int32.ofNat S.length) (Int32.ofNat n) kn wr pc th) M' ∧ M'[59]? = some (.inl (0, es.map .int)) ∧ es.length = 4 ∧ ∀ i x : Nat, ((List.range k).filter (oP S p0 p1))[i]? = some x → es[i]? = some (Int32.ofNat (x % 16))) ?_ z_N 128 _ M (by decide) ⟨0, es0, rfl, by omega, R, h59, hel, fun i x hx => by simp at hx⟩
  intro m st M1 ih hI hih
  obtain ⟨k, es, rfl, hk, R1, k59, hel, hes⟩ := hI
  have hsub : ∀ j, j ≤ 128 → ((List.range j).filter (oP S p0 p1)).length ≤ 4 := fun j hj => by
    refine Nat.le_trans (List.Sublist.length_le ?_) hK
    exact List.Sublist.filter _ (List.range_sublist.mpr hj)
  have hlk := hsub k (by omega)
  unfold B_X11_other_6 F_X11_other_97 F_X11_other_98 F_X11_other_118 F_X11_other_51 F_X11_other_76
  dsimp only
  refine ht_if (fun hle => ?_) (fun hle => ?_)
  · have hle := (n_le (a := 128) (by decide) (by omega)).mp hle
    have ek : k = 128 := by omega
    subst ek
    have fin : ∀ thv : Int32, ∀ v : Int32, ((thv = 1 ∧ v = 0 ∧ (p2 < 0 ∨ Int32.ofNat (oK S p0 p1).length ≤ p2)) ∨ (thv = 0 ∧ ∃ i k : Nat, p2 = Int32.ofNat i ∧ (oK S p0 p1)[i]? = some k ∧ v = Int32.ofNat (k % 16))) → Q v (M1.set 42 (.inr (11, rob (Int32.ofNat S.length) (Int32.ofNat n) kn wr pc thv))) := fun thv v hv => t v thv _ (RI.mk' H hA (R1.ob (o' := rob (Int32.ofNat S.length) (Int32.ofNat n) kn wr pc thv))) ⟨_, z_gs R1.1, rfl⟩ hv
    have one : (p2 < 0 ∨ Int32.ofNat (oK S p0 p1).length ≤ p2) → z_T (z_bd (z_pf (some 42) 11 22 (.int 1)) fun _ => z_bd (z_gi (some 42) 11 22) fun x11 => if x11 = 0 then (z_bd (z_ga (some 42) 11 23) fun r13 => z_bd (z_li r13 p2) fun x14 => z_ret x14) else (z_ret 0)) M1 Q := by
      intro hv
      refine ht_bd (ht_pf (by decide) R1.1 (by simp [rob]) ?_)
      refine ht_bd (ht_gi (z_gs R1.1) (x := 1) rfl ?_)
      rw [if_neg (by decide)]
      exact ht_ret (fin 1 0 (Or.inl ⟨rfl, rfl, hv⟩))
    refine ht_if (fun h0 => one (Or.inl h0)) (fun h0 => ?_)
    refine ht_if (fun h1 => one (Or.inr h1)) (fun h1 => ?_)
    have h0 : (0 : Int32).toInt ≤ p2.toInt := i_nlt.mp h0
    have h1 : p2.toInt < (Int32.ofNat (oK S p0 p1).length).toInt := i_nle.mp h1
    rw [n_ti (by omega)] at h1
    have z0 := i0
    have hil : p2.toInt.toNat < (oK S p0 p1).length := by omega
    have hgi := List.getElem?_eq_getElem hil
    refine ht_bd (ht_pf (by decide) R1.1 (by simp [rob]) ?_)
    refine ht_bd (ht_gi (z_gs R1.1) (x := 0) rfl ?_)
    rw [if_pos rfl]
    refine ht_bd (ht_ga (z_gs R1.1) (x := some 59) rfl ?_)
    refine ht_bd (va_li (vs := es) (by rw [z_go (by decide)]; exact k59) (i_of (by omega)) (by omega) (hes _ _ hgi) ?_)
    exact ht_ret (fin 0 _ (Or.inr ⟨rfl, _, _, i_of (by omega), hgi, rfl⟩))
  have hk128 : k < 128 := Nat.lt_of_not_le fun g => hle ((n_le (a := 128) (by decide) (by omega)).mpr g)
  rw [n_16m (by omega), n_16d (by omega)]
  have hr1 : List.range (k + 1) = List.range k ++ [k] := List.range_succ
  have hlk1 := hsub (k + 1) (by omega)
  have hit : oP S p0 p1 k = true → z_T (z_bd (z_ga (some 42) 11 23) fun r10 => z_bd (z_si r10 (Int32.ofNat ((List.range k).filter (oP S p0 p1)).length) (Int32.ofNat (k % 16))) fun _ => ih (p0, p1, p2, Int32.ofNat ((List.range k).filter (oP S p0 p1)).length + 1, Int32.ofNat k + 1)) M1 Q := by
    intro hP
    have e2 : (List.range (k + 1)).filter (oP S p0 p1) = (List.range k).filter (oP S p0 p1) ++ [k] := by
      rw [hr1, List.filter_append]
      simp [hP]
    rw [e2, List.length_append, List.length_singleton] at hlk1
    refine ht_bd (ht_ga R1.1 (x := some 59) rfl ?_)
    refine ht_bd (va_si (by decide) k59 rfl (by omega) (by omega) ?_)
    rw [n_s, n_s]
    refine hih (m - 1) _ _ (by omega) ⟨k + 1, _, by rw [e2, List.length_append, List.length_singleton], by omega, R1.set (by decide) (by decide) ⟨_, rfl, by simpa using hel, fun _ _ => trivial⟩, z_gs k59, by simpa using hel, fun i x hx => ?_⟩
    rw [e2] at hx
    by_cases hi : i < ((List.range k).filter (oP S p0 p1)).length
    · rw [List.getElem?_append_left hi] at hx
      rw [List.getElem?_set_ne (by omega)]
      exact hes i x hx
    · have hil := (List.getElem?_eq_some_iff.mp hx).1
      rw [List.length_append, List.length_singleton] at hil
      have ei : i = ((List.range k).filter (oP S p0 p1)).length := by omega
      subst ei
      rw [List.getElem?_append_right (Nat.le_refl _), Nat.sub_self] at hx
      cases hx
      exact List.getElem?_set_self (by omega)
  have miss : oP S p0 p1 k = false → z_T (ih (p0, p1, p2, Int32.ofNat ((List.range k).filter (oP S p0 p1)).length, Int32.ofNat k + 1)) M1 Q := by
    intro hP
    have e2 : (List.range (k + 1)).filter (oP S p0 p1) = (List.range k).filter (oP S p0 p1) := by
      rw [hr1, List.filter_append]
      simp [hP]
    rw [n_s]
    exact hih (m - 1) _ _ (by omega) ⟨k + 1, es, by rw [e2], by omega, R1, k59, hel, by rw [e2]; exact hes⟩
  have e43 := R1.ex (i := 43) (by decide) (by decide) rfl
  refine ht_if (fun h1 => ?_) (fun h1 => ?_)
  · refine ht_bd (ht_rc R1.1 ?_)
    refine ht_bd (f_find hS.2.1 R1.1 e43 hA (fun j x hx ha hb hc => ?_) (fun hno => ?_))
    · have hx2 := hS.2.2 x (List.mem_of_getElem? hx)
      have ha := (n_e (by omega) (by omega)).mp ha
      have hb := (n_e (by omega) (by omega)).mp hb
      have hjl := (List.getElem?_eq_some_iff.mp hx).1
      have hl60 := hS.2.1
      rw [if_pos (by
        rw [show (0 : Int32) = Int32.ofNat 0 from rfl]
        exact (n_le (by decide) (by omega)).mpr (Nat.zero_le _))]
      refine hit ?_
      unfold oP
      rw [List.any_eq_true]
      refine ⟨x, List.mem_of_getElem? hx, ?_⟩
      rw [if_pos h1, Bool.and_eq_true, decide_eq_true_eq, decide_eq_true_eq]
      exact ⟨hc, by omega⟩
    · rw [if_neg (by decide)]
      refine miss ?_
      unfold oP
      rw [List.any_eq_false]
      intro x hx
      have hx2 := hS.2.2 x hx
      rw [if_pos h1, Bool.and_eq_true, decide_eq_true_eq, decide_eq_true_eq]
      rintro ⟨g1, g2⟩
      have m1 : k % 16 = x / 128 := by
        generalize x / 16 % 8 = w at g2
        omega
      have m2 : k / 16 = x / 16 % 8 := by
        have : x / 128 < 16 := by omega
        generalize x / 16 % 8 = w at g2 ⊢
        omega
      exact hno x hx ⟨by rw [m1], by rw [m2], g1⟩
  · refine ht_bd (ht_rc R1.1 ?_)
    refine ht_bd (f_find hS.2.1 R1.1 e43 hA (fun j x hx ha hb hc => ?_) (fun hno => ?_))
    · have hx2 := hS.2.2 x (List.mem_of_getElem? hx)
      have hb := (n_e (by omega) (by omega)).mp hb
      have hc := (n_e (by omega) (by omega)).mp hc
      have hjl := (List.getElem?_eq_some_iff.mp hx).1
      have hl60 := hS.2.1
      rw [if_pos (by
        rw [show (0 : Int32) = Int32.ofNat 0 from rfl]
        exact (n_le (by decide) (by omega)).mpr (Nat.zero_le _))]
      refine hit ?_
      unfold oP
      rw [List.any_eq_true]
      refine ⟨x, List.mem_of_getElem? hx, ?_⟩
      rw [if_neg h1, Bool.and_eq_true, decide_eq_true_eq, decide_eq_true_eq]
      exact ⟨ha, by omega⟩
    · rw [if_neg (by decide)]
      refine miss ?_
      unfold oP
      rw [List.any_eq_false]
      intro x hx
      have hx2 := hS.2.2 x hx
      rw [if_neg h1, Bool.and_eq_true, decide_eq_true_eq, decide_eq_true_eq]
      rintro ⟨g1, g2⟩
      have m1 : k % 16 = x % 16 := by omega
      have m2 : k / 16 = x / 16 % 8 := by omega
      exact hno x hx ⟨g1, by rw [m2], by rw [m1]⟩
end RC
