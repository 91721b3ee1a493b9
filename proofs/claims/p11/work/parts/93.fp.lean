/-! THE REFERENCE's findPlaces, by what it finds -/
def fp_step (ks as bs ms : List Int32) (k : Nat) : List Int32 := if ms.getD k 0 = 0 then ms else if ks.getD k 0 < 2 then ms else if ks.getD k 0 = 5 then ms else if 4 ≤ ks.getD k 0 then ms.set (as.getD k 0).toNatClampNeg 1 else (ms.set (as.getD k 0).toNatClampNeg 1).set (bs.getD k 0).toNatClampNeg 1
def fp_dn (ks as bs : List Int32) : Nat → List Int32 → List Int32
  | 0, ms => ms
  | k + 1, ms => fp_dn ks as bs k (fp_step ks as bs ms k)
def fp_m0 (e : Nat) : List Int32 := (List.range 60).map (fun k => if k = e then 1 else 0)
def fp_made (ks as bs : List Int32) (e : Nat) : List Int32 := fp_dn ks as bs (e + 1) (fp_m0 e)
def fp_P (ks ms : List Int32) (k : Nat) : Bool := decide (¬ ms.getD k 0 = 0) && decide (ks.getD k 0 ≤ 1)
def fp_pl (ks as bs : List Int32) (e : Nat) : List Nat := (List.range (e + 1)).filter (fp_P ks (fp_made ks as bs e))
def EXH (h : Nat → zC) (ks as bs : List Int32) (n : Nat) : Prop := h 44 = .inl (0, ks.map .int) ∧ h 45 = .inl (0, as.map .int) ∧ h 46 = .inl (0, bs.map .int) ∧ EXO ks as bs n
theorem fp_dn_s {ks as bs ms : List Int32} {k : Nat} : fp_dn ks as bs (k + 1) ms = fp_dn ks as bs k (fp_step ks as bs ms k) := by rw [fp_dn]
theorem fp_dn_0 {ks as bs ms : List Int32} : fp_dn ks as bs 0 ms = ms := by rw [fp_dn]
theorem gd {vs : List Int32} {k : Nat} {x : Int32} (h : vs[k]? = some x) : vs.getD k 0 = x := by rw [List.getD_eq_getElem?_getD, h]; rfl
theorem n_m1 {i : Nat} (h : i < 2147483648) : (Int32.ofNat i + (-1)).toInt = (i : Int) - 1 := by
  have hti := n_ti h
  have em1 : (-1 : Int32).toInt = -1 := rfl
  have s := i_add (a := Int32.ofNat i) (b := -1) (by rw [hti, em1]; omega) (by rw [hti, em1]; omega)
  rw [s, hti, em1]
  rfl
section FP
variable {h : Nat → zC} {nA nE kn wr pc th : Int32} {M : zM} {ks as bs : List Int32} {n : Nat}
theorem tb_lb {ms : List Int32} {j : Nat} {x : Int32} {Q : Int32 → zM → Prop} (hc : M[57]? = some (.inl (4, ms.map .int))) (hj : j < 2147483648) (hx : ms[j]? = some x) (q : Q x M) : z_T (z_lb (some 57) (Int32.ofNat j)) M Q := ht_lb hc (n_nn hj) (x := x) (by rw [n_cl hj, List.getElem?_map, hx]; rfl) q
theorem tb_sb {ms : List Int32} {i x : Int32} {Q : Unit → zM → Prop} (hc : M[57]? = some (.inl (4, ms.map .int))) (h0 : 0 ≤ i.toInt) (hl : i.toNatClampNeg < ms.length) (hx : x = 0 ∨ x = 1) (q : Q () (M.set 57 (.inl (4, (ms.set i.toNatClampNeg x).map .int)))) : z_T (z_sb (some 57) i x) M Q := by
  refine ht_sb (by decide) hc hx (nlt0 h0) (by rw [List.length_map]; exact hl) ?_
  rw [← List.map_set]
  exact q
theorem pB57 {ms : List Int32} (hl : ms.length = 60) (hv : ∀ v ∈ ms, v = 0 ∨ v = 1) : okr h 57 (.inl (4, ms.map .int)) := ⟨ms, rfl, hl, hv⟩
theorem set01 {ms : List Int32} {k : Nat} (hv : ∀ v ∈ ms, v = 0 ∨ v = 1) {x : Int32} (hx : x = 0 ∨ x = 1) : ∀ v ∈ ms.set k x, v = 0 ∨ v = 1 := fun v hm => by
  rcases List.mem_or_eq_of_mem_set hm with e | e
  · exact hv v e
  · rw [e]; exact hx
theorem t_fp (R : RT h (rob nA nE kn wr pc th) M) (hE : EXH h ks as bs n) {e : Nat} (he : e < n) {Q : Unit → zM → Prop} (k : ∀ (M' : zM) (ps : List Int32), RT h (rob nA nE kn wr (Int32.ofNat (fp_pl ks as bs e).length) th) M' → M'[57]? = some (.inl (4, (fp_made ks as bs e).map .int)) → M'[58]? = some (.inl (0, ps.map .int)) → ps.length = 60 → (∀ i x : Nat, (fp_pl ks as bs e)[i]? = some x → ps[i]? = some (Int32.ofNat x)) → (∀ c : Nat, c ≠ 42 → c ≠ 57 → c ≠ 58 → M'[c]? = M[c]?) → Q () M') : z_T (F_X11_findPlaces 42 (Int32.ofNat e)) M Q := by
  obtain ⟨b1, b2, b3, l1, l2, l3, l4, K⟩ := hE
  -- the third loop
  have up : ∀ M1, RT h (rob nA nE kn wr pc th) M1 → M1[57]? = some (.inl (4, (fp_made ks as bs e).map .int)) → (fp_made ks as bs e).length = 60 → (∀ c : Nat, c ≠ 42 → c ≠ 57 → c ≠ 58 → M1[c]? = M[c]?) → z_T (z_bd (z_pf (some 42) 11 21 (.int 0)) fun _ => F_X11_findPlaces_115 42 z_N (Int32.ofNat e, 0)) M1 Q := by
    intro M1 R1 hm1 hml f1
    refine ht_bd (ht_pf (by decide) R1.1 (by simp [rob]) ?_)
    show z_T _ (M1.set 42 (.inr (11, rob nA nE kn wr 0 th))) Q
    have R2 := R1.ob (o' := rob nA nE kn wr 0 th)
    have hm2 : (M1.set 42 (.inr (11, rob nA nE kn wr 0 th)))[57]? = some (.inl (4, (fp_made ks as bs e).map .int)) := by rw [z_go (by decide)]; exact hm1
    have f2 : ∀ c : Nat, c ≠ 42 → c ≠ 57 → c ≠ 58 → (M1.set 42 (.inr (11, rob nA nE kn wr 0 th)))[c]? = M[c]? := fun c c1 c2 c3 => (z_go (fun e => c1 e.symm)).trans (f1 c c1 c2 c3)
    generalize M1.set 42 (.inr (11, rob nA nE kn wr 0 th)) = M2 at R2 hm2 f2 ⊢
    obtain ⟨c58, h58, ps0, rfl, hps0, hpr0⟩ := R2.ar (i := 58) (by decide) (by decide) rfl
    unfold F_X11_findPlaces_115
    refine ht_fix (body := fun ih s => B_X11_findPlaces_115 42 (fun y0 y1 => ih (y0, y1)) s.1 s.2) (I := fun m st M' => ∃ (j : Nat) (ps : List Int32), st = (Int32.ofNat e, Int32.ofNat j) ∧ j + m = e + 1 ∧ RT h (rob nA nE kn wr (Int32.ofNat ((List.range j).filter (fp_P ks (fp_made ks as bs e))).length) th) M' ∧ M'[57]? = some (.inl (4, (fp_made ks as bs e).map .int)) ∧ M'[58]? = some (.inl (0, ps.map .int)) ∧ ps.length = 60 ∧ (∀ v ∈ ps, rg 0 59 v) ∧ (∀ i x : Nat, ((List.range j).filter (fp_P ks (fp_made ks as bs e)))[i]? = some x → ps[i]? = some (Int32.ofNat x)) ∧ ∀ c : Nat, c ≠ 42 → c ≠ 57 → c ≠ 58 → M'[c]? = M[c]?) ?_ z_N (e + 1) _ M2 (Nat.lt_of_le_of_lt (show e + 1 ≤ 60 by omega) (by decide)) ⟨0, ps0, rfl, by omega, R2, hm2, h58, hps0, hpr0, fun i x hx => by simp at hx, f2⟩
    intro m st M3 ih hI hih
    obtain ⟨j, ps, rfl, hj, R3, hm3, hp3, hpl, hpr, hL, f3⟩ := hI
    unfold B_X11_findPlaces_115 F_X11_findPlaces_162
    dsimp only
    refine ht_if (fun hlt => ?_) (fun hlt => ?_)
    · have hlt := (n_lt (by omega) (by omega)).mp hlt
      have ej : j = e + 1 := by omega
      subst ej
      exact ht_ret (k M3 ps R3 hm3 hp3 hpl hL f3)
    have hle : j ≤ e := Nat.le_of_not_lt fun g => hlt ((n_lt (by omega) (by omega)).mpr g)
    have hmj : (fp_made ks as bs e)[j]? = some ((fp_made ks as bs e)[j]'(by omega)) := List.getElem?_eq_getElem (by omega)
    obtain ⟨x, a, b, x1, x2, x3, x4, -⟩ := K j (by omega)
    have e44 := R3.ex (i := 44) (by decide) (by decide) rfl
    rw [b1] at e44
    have hr1 : List.range (j + 1) = List.range j ++ [j] := List.range_succ
    have hcl : ((List.range j).filter (fp_P ks (fp_made ks as bs e))).length ≤ j := by
      have := List.length_filter_le (fp_P ks (fp_made ks as bs e)) (List.range j)
      rw [List.length_range] at this
      exact this
    have skip : fp_P ks (fp_made ks as bs e) j = false → z_T (ih (Int32.ofNat e, Int32.ofNat j + 1)) M3 Q := fun hP => by
      rw [n_s]
      have e2 : (List.range (j + 1)).filter (fp_P ks (fp_made ks as bs e)) = (List.range j).filter (fp_P ks (fp_made ks as bs e)) := by
        rw [hr1, List.filter_append]
        simp [hP]
      exact hih (m - 1) _ _ (by omega) ⟨j + 1, ps, rfl, by omega, by rw [e2]; exact R3, hm3, hp3, hpl, hpr, by rw [e2]; exact hL, f3⟩
    refine ht_bd (ht_ga R3.1 (x := some 57) rfl ?_)
    refine ht_bd (tb_lb hm3 (by omega) hmj ?_)
    refine ht_if (fun h0 => skip (by unfold fp_P; rw [gd hmj, h0]; rfl)) (fun h0 => ?_)
    refine ht_bd (ht_ga R3.1 (x := some 44) rfl ?_)
    refine ht_bd (va_li e44 rfl (by omega) x1 ?_)
    refine ht_if (fun hk => ?_) (fun hk => skip (by unfold fp_P; rw [gd x1]; simp [hk]))
    have hP : fp_P ks (fp_made ks as bs e) j = true := by
      unfold fp_P
      rw [gd hmj, gd x1]
      simp [h0, hk]
    have e2 : (List.range (j + 1)).filter (fp_P ks (fp_made ks as bs e)) = (List.range j).filter (fp_P ks (fp_made ks as bs e)) ++ [j] := by
      rw [hr1, List.filter_append]
      simp [hP]
    refine ht_bd (ht_ga R3.1 (x := some 58) rfl ?_)
    refine ht_bd (ht_gi R3.1 (x := Int32.ofNat ((List.range j).filter (fp_P ks (fp_made ks as bs e))).length) rfl ?_)
    refine ht_bd (va_si (by decide) hp3 rfl (by omega) (by omega) ?_)
    have hrj : rg 0 59 (Int32.ofNat j) := by
      unfold rg
      rw [n_ti (by omega)]
      omega
    have hpr' : ∀ v ∈ ps.set ((List.range j).filter (fp_P ks (fp_made ks as bs e))).length (Int32.ofNat j), rg 0 59 v := fun v hv => by
      rcases List.mem_or_eq_of_mem_set hv with e | e
      · exact hpr v e
      · rw [e]; exact hrj
    have R4 := R3.set (i := 58) (c' := .inl (0, (ps.set ((List.range j).filter (fp_P ks (fp_made ks as bs e))).length (Int32.ofNat j)).map .int)) (by decide) (by decide) ⟨_, rfl, by simpa using hpl, hpr'⟩
    refine ht_bd (ht_gi R4.1 (x := Int32.ofNat ((List.range j).filter (fp_P ks (fp_made ks as bs e))).length) rfl ?_)
    refine ht_bd (ht_pf (by decide) R4.1 (by simp [rob]) ?_)
    rw [n_s, n_s]
    have R5 := R4.ob (o' := rob nA nE kn wr (Int32.ofNat (((List.range j).filter (fp_P ks (fp_made ks as bs e))).length + 1)) th)
    refine hih (m - 1) _ _ (by omega) ⟨j + 1, _, rfl, by omega, by rw [e2, List.length_append, List.length_singleton]; exact R5, ?_, by rw [z_go (by decide)]; exact z_gs hp3, by simpa using hpl, hpr', fun i x hx => ?_, fun c c1 c2 c3 => ?_⟩
    · rw [z_go (by decide), z_go (by decide)]; exact hm3
    · rw [e2] at hx
      by_cases hi : i < ((List.range j).filter (fp_P ks (fp_made ks as bs e))).length
      · rw [List.getElem?_append_left hi] at hx
        rw [List.getElem?_set_ne (by omega)]
        exact hL i x hx
      · have hil := (List.getElem?_eq_some_iff.mp hx).1
        rw [List.length_append, List.length_singleton] at hil
        have ei : i = ((List.range j).filter (fp_P ks (fp_made ks as bs e))).length := by omega
        subst ei
        rw [List.getElem?_append_right (Nat.le_refl _), Nat.sub_self] at hx
        cases hx
        exact List.getElem?_set_self (by omega)
    · rw [z_go (fun e => c1 e.symm), z_go (fun e => c3 e.symm)]; exact f3 c c1 c2 c3
  -- the second loop
  have down : ∀ M1 ms, RT h (rob nA nE kn wr pc th) M1 → M1[57]? = some (.inl (4, ms.map .int)) → ms.length = 60 → (∀ v ∈ ms, v = 0 ∨ v = 1) → fp_dn ks as bs (e + 1) ms = fp_made ks as bs e → (∀ c : Nat, c ≠ 42 → c ≠ 57 → c ≠ 58 → M1[c]? = M[c]?) → z_T (F_X11_findPlaces_32 42 z_N (Int32.ofNat e, Int32.ofNat e)) M1 Q := by
    intro M1 ms R1 hm1 hml hmv hd f1
    unfold F_X11_findPlaces_32
    refine ht_fix (body := fun ih s => B_X11_findPlaces_32 42 (fun y0 y1 => ih (y0, y1)) s.1 s.2) (I := fun j st M' => ∃ (x : Int32) (ms : List Int32), st = (Int32.ofNat e, x) ∧ x.toInt = (j : Int) - 1 ∧ j ≤ e + 1 ∧ RT h (rob nA nE kn wr pc th) M' ∧ M'[57]? = some (.inl (4, ms.map .int)) ∧ ms.length = 60 ∧ (∀ v ∈ ms, v = 0 ∨ v = 1) ∧ fp_dn ks as bs j ms = fp_made ks as bs e ∧ ∀ c : Nat, c ≠ 42 → c ≠ 57 → c ≠ 58 → M'[c]? = M[c]?) ?_ z_N (e + 1) _ M1 (Nat.lt_of_le_of_lt (show e + 1 ≤ 60 by omega) (by decide)) ⟨Int32.ofNat e, ms, rfl, by rw [n_ti (by omega)]; omega, Nat.le_refl _, R1, hm1, hml, hmv, hd, f1⟩
    intro j st M3 ih hI hih
    obtain ⟨x, ms, rfl, hxj, hje, R3, hm3, hml, hmv, hd, f3⟩ := hI
    have z0 := i0
    unfold B_X11_findPlaces_32 F_X11_findPlaces_102
    dsimp only
    refine ht_if (fun hlt => ?_) (fun hlt => ?_)
    · have hlt : x.toInt < (0 : Int32).toInt := i_lt.mp hlt
      have ej : j = 0 := by omega
      subst ej
      have em := hd
      rw [fp_dn_0] at em
      rw [em] at hm3 hml
      exact up M3 R3 hm3 hml f3
    have hge : (0 : Int32).toInt ≤ x.toInt := i_nlt.mp hlt
    obtain ⟨i, rfl⟩ : ∃ i, j = i + 1 := ⟨j - 1, by omega⟩
    have ex : x = Int32.ofNat i := Int32.toInt_inj.mp (by rw [n_ti (by omega)]; omega)
    subst ex
    have hin : i < n := by omega
    have hil : i < ms.length := by omega
    have hi31 : i < 2147483648 := by omega
    have hdn := hd
    rw [fp_dn_s] at hdn
    obtain ⟨y, a, b, y1, y2, y3, y4, y5, y6, -⟩ := K i hin
    have hmi : ms[i]? = some (ms[i]'hil) := List.getElem?_eq_getElem hil
    have e44 := R3.ex (i := 44) (by decide) (by decide) rfl
    have e45 := R3.ex (i := 45) (by decide) (by decide) rfl
    have e46 := R3.ex (i := 46) (by decide) (by decide) rfl
    rw [b1] at e44
    rw [b2] at e45
    rw [b3] at e46
    have same : fp_step ks as bs ms i = ms → z_T (ih (Int32.ofNat e, Int32.ofNat i + (-1))) M3 Q := fun hs => by
      rw [hs] at hdn
      exact hih i _ _ (by omega) ⟨_, ms, rfl, n_m1 hi31, by omega, R3, hm3, hml, hmv, hdn, f3⟩
    have go : ∀ (ms' : List Int32), fp_step ks as bs ms i = ms' → ms'.length = 60 → (∀ v ∈ ms', v = 0 ∨ v = 1) → ∀ M4, M4 = M3.set 57 (.inl (4, ms'.map .int)) → z_T (ih (Int32.ofNat e, Int32.ofNat i + (-1))) M4 Q := fun ms' hs hl' hv' M4 hM4 => by
      subst hM4
      rw [hs] at hdn
      exact hih i _ _ (by omega) ⟨_, ms', rfl, n_m1 hi31, by omega, R3.set (i := 57) (by decide) (by decide) (pB57 hl' hv'), z_gs hm3, hl', hv', hdn, fun c c1 c2 c3 => by rw [z_go (fun e => c2 e.symm)]; exact f3 c c1 c2 c3⟩
    refine ht_bd (ht_ga R3.1 (x := some 57) rfl ?_)
    refine ht_bd (tb_lb hm3 (by omega) hmi ?_)
    refine ht_if (fun h0 => same (by unfold fp_step; rw [gd hmi, if_pos h0])) (fun h0 => ?_)
    refine ht_bd (ht_ga R3.1 (x := some 44) rfl ?_)
    refine ht_bd (va_li e44 rfl (by omega) y1 ?_)
    refine ht_if (fun h2 => same (by unfold fp_step; rw [gd hmi, if_neg h0, gd y1, if_pos h2])) (fun h2 => ?_)
    refine ht_bd (ht_ga R3.1 (x := some 44) rfl ?_)
    refine ht_bd (va_li e44 rfl (by omega) y1 ?_)
    refine ht_if (fun h5 => same (by unfold fp_step; rw [gd hmi, if_neg h0, gd y1, if_neg h2, if_pos h5])) (fun h5 => ?_)
    have h2' : (2 : Int32).toInt ≤ y.toInt := i_nlt.mp h2
    have h5' := i_ne.mp h5
    have t2 : (2 : Int32).toInt = 2 := rfl
    have t4 : (4 : Int32).toInt = 4 := rfl
    have t5 : (5 : Int32).toInt = 5 := rfl
    have y42 := y4.2
    obtain ⟨a0, a1⟩ := y5 (by omega) (by omega)
    have hac : a.toNatClampNeg < ms.length := by show a.toInt.toNat < _; omega
    refine ht_bd (ht_ga R3.1 (x := some 57) rfl ?_)
    refine ht_bd (ht_ga R3.1 (x := some 45) rfl ?_)
    refine ht_bd (va_li e45 rfl (by omega) y2 ?_)
    refine ht_bd (tb_sb hm3 a0 hac (Or.inr rfl) ?_)
    have R4 := R3.set (i := 57) (c' := .inl (4, (ms.set a.toNatClampNeg 1).map .int)) (by decide) (by decide) (pB57 (by simpa using hml) (set01 hmv (Or.inr rfl)))
    have w44 : (M3.set 57 (.inl (4, (ms.set a.toNatClampNeg 1).map .int)))[44]? = some (.inl (0, ks.map .int)) := by rw [z_go (by decide)]; exact e44
    have w46 : (M3.set 57 (.inl (4, (ms.set a.toNatClampNeg 1).map .int)))[46]? = some (.inl (0, bs.map .int)) := by rw [z_go (by decide)]; exact e46
    have w57 : (M3.set 57 (.inl (4, (ms.set a.toNatClampNeg 1).map .int)))[57]? = some (.inl (4, (ms.set a.toNatClampNeg 1).map .int)) := z_gs hm3
    refine ht_bd (ht_ga R4.1 (x := some 44) rfl ?_)
    refine ht_bd (va_li w44 rfl (by omega) y1 ?_)
    refine ht_if (fun h4 => go (ms.set a.toNatClampNeg 1) (by unfold fp_step; rw [gd hmi, if_neg h0, gd y1, if_neg h2, if_neg h5, if_pos h4, gd y2]) (by simpa using hml) (set01 hmv (Or.inr rfl)) _ rfl) (fun h4 => ?_)
    have h4' : y.toInt < (4 : Int32).toInt := i_nle.mp h4
    obtain ⟨q0, q1⟩ := y6 (by omega) (by omega)
    refine ht_bd (ht_ga R4.1 (x := some 57) rfl ?_)
    refine ht_bd (ht_ga R4.1 (x := some 46) rfl ?_)
    refine ht_bd (va_li w46 rfl (by omega) y3 ?_)
    refine ht_bd (tb_sb w57 q0 (by rw [List.length_set]; show b.toInt.toNat < _; omega) (Or.inr rfl) ?_)
    rw [List.set_set]
    exact go ((ms.set a.toNatClampNeg 1).set b.toNatClampNeg 1) (by unfold fp_step; rw [gd hmi, if_neg h0, gd y1, if_neg h2, if_neg h5, if_neg h4, gd y2, gd y3]) (by simpa using hml) (set01 (set01 hmv (Or.inr rfl)) (Or.inr rfl)) _ rfl
  -- the first loop
  unfold F_X11_findPlaces F_X11_findPlaces_2
  obtain ⟨c57, h57, ms0, rfl, hms0, hmv0⟩ := R.bo (i := 57) (by decide) (by decide) rfl
  refine ht_fix (body := fun ih s => B_X11_findPlaces_2 42 (fun y0 y1 => ih (y0, y1)) s.1 s.2) (I := fun m st M' => ∃ (j : Nat) (ms : List Int32), st = (Int32.ofNat e, Int32.ofNat j) ∧ j + m = 60 ∧ RT h (rob nA nE kn wr pc th) M' ∧ M'[57]? = some (.inl (4, ms.map .int)) ∧ ms.length = 60 ∧ (∀ v ∈ ms, v = 0 ∨ v = 1) ∧ (∀ t : Nat, t < j → ms[t]? = some (if t = e then 1 else 0)) ∧ ∀ c : Nat, c ≠ 42 → c ≠ 57 → c ≠ 58 → M'[c]? = M[c]?) ?_ z_N 60 _ M (by decide) ⟨0, ms0, rfl, rfl, R, h57, hms0, hmv0, fun t ht => by omega, fun _ _ _ _ => rfl⟩
  intro m st M3 ih hI hih
  obtain ⟨j, ms, rfl, hj, R3, hm3, hml, hmv, hL, f3⟩ := hI
  unfold B_X11_findPlaces_2 F_X11_findPlaces_23
  dsimp only
  refine ht_if (fun h6 => ?_) (fun h6 => ?_)
  · have h6 := (n_le (a := 60) (by decide) (by omega)).mp h6
    have ej : j = 60 := by omega
    subst ej
    have em : ms = fp_m0 e := by
      refine List.ext_getElem? (fun t => ?_)
      unfold fp_m0
      by_cases ht : t < 60
      · rw [hL t ht, List.getElem?_map, List.getElem?_range ht]; rfl
      · rw [List.getElem?_eq_none (by omega), List.getElem?_eq_none (by simp; omega)]
    exact down M3 ms R3 hm3 hml hmv (by rw [em]; rfl) f3
  have hj60 : j < 60 := Nat.lt_of_not_le fun g => h6 ((n_le (a := 60) (by decide) (by omega)).mpr g)
  have ej := n_ti (n := j) (by omega)
  have wr1 : ∀ v : Int32, v = 0 ∨ v = 1 → v = (if j = e then 1 else 0) → z_T (z_bd (z_sb (some 57) (Int32.ofNat j) v) fun _ => ih (Int32.ofNat e, Int32.ofNat j + 1)) M3 Q := by
    intro v hv hve
    refine ht_bd (tb_sb hm3 (by omega) (by rw [n_cl (by omega)]; omega) hv ?_)
    rw [n_cl (by omega), n_s]
    refine hih (m - 1) _ _ (by omega) ⟨j + 1, _, rfl, by omega, R3.set (i := 57) (by decide) (by decide) (pB57 (by simpa using hml) (set01 hmv hv)), z_gs hm3, by simpa using hml, set01 hmv hv, fun t ht => ?_, fun c c1 c2 c3 => by rw [z_go (fun e => c2 e.symm)]; exact f3 c c1 c2 c3⟩
    by_cases et : t = j
    · subst et
      rw [List.getElem?_set_self (by omega), hve]
    · rw [List.getElem?_set_ne (fun e => et e.symm)]
      exact hL t (by omega)
  refine ht_bd (ht_ga R3.1 (x := some 57) rfl ?_)
  refine ht_if (fun hje => wr1 1 (Or.inr rfl) (by rw [if_pos ((n_e (by omega) (by omega)).mp hje)])) (fun hje => wr1 0 (Or.inl rfl) (by rw [if_neg (fun e' => hje ((n_e (by omega) (by omega)).mpr e'))]))
end FP
