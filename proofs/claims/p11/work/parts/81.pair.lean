/-! UNIONS OF PLACES, PAIRS -/
def pn (M : zM) (b : Nat) : Int32 := match M[b]? with
  | some (.inr (_, .int n :: _)) => n
  | _ => 0
section PR
variable {g : Nat → zC} {D : List Nat} {M : zM}
theorem pn_eq {b : Nat} {ci : Nat} {n : Int32} {fs : List Value} (h : M[b]? = some (.inr (ci, .int n :: fs))) : pn M b = n := by
  unfold pn
  rw [h]
theorem k_slotS (W : WT g D M) {a : Nat} (ha : (gB ++ D)[a]? = some 101) {ps : List Nat} (hP : M[a]? = some (.inl (15, ps.map .ref))) {p : Int32} {Q : Int32 → zM → Prop} (q : ∀ x : Int32, (0 ≤ x.toInt ↔ ps.any (fun b => decide (pn M b = p)) = true) → Q x M) : z_T (F_X7_slotOf (some a) p) M Q := by
  obtain ⟨ps', hM, hl, hp⟩ := W.places ha
  have e : ps' = ps := by
    rw [hP] at hM
    have := (Prod.mk.inj (Sum.inl.inj (Option.some.inj hM))).2
    exact (List.map_inj_right (fun a b h => by injection h)).mp this.symm
  subst e
  have el := n_ti (n := ps'.length) (by omega)
  unfold F_X7_slotOf F_X7_slotOf_2
  refine ht_fix (body := fun ih s => B_X7_slotOf_2 (fun y0 y1 y2 => ih (y0, y1, y2)) s.1 s.2.1 s.2.2) (I := fun n s M' => M' = M ∧ ∃ x : Int32, s = (some a, p, x) ∧ 0 ≤ x.toInt ∧ x.toInt + n = 5 ∧ ∀ (j b : Nat), (j : Int) < x.toInt → ps'[j]? = some b → pn M b ≠ p) ?_ z_N 5 _ M (by decide) ⟨rfl, 0, rfl, by decide, by decide, fun j b hj => by have := i0; omega⟩
  intro n s M' ih hI hih
  obtain ⟨rfl, x, rfl, h0, hn, hno⟩ := hI
  unfold B_X7_slotOf_2
  dsimp only
  refine ht_bd (ht_len hM ?_)
  rw [List.length_map]
  refine ht_if (fun h => ?_) (fun h => ?_)
  · have h : (Int32.ofNat ps'.length).toInt ≤ x.toInt := i_le.mp h
    refine ht_ret (q _ ⟨fun h => absurd h (by decide), fun h => ?_⟩)
    exfalso
    obtain ⟨b, hb, hd⟩ := List.any_eq_true.mp h
    obtain ⟨j, hj, rfl⟩ := List.mem_iff_getElem.mp hb
    exact hno j _ (by omega) (List.getElem?_eq_getElem hj) (of_decide_eq_true hd)
  have h : x.toInt < (Int32.ofNat ps'.length).toInt := i_nle.mp h
  have hi : x.toNatClampNeg < ps'.length := by show x.toInt.toNat < _; omega
  refine ht_bd (ht_la hM (by decide) (fun e => by have := Int32.lt_iff_toInt_lt.mp e; have := i0; omega) (x := some ps'[x.toNatClampNeg]) (by rw [List.getElem?_map, List.getElem?_eq_getElem hi]; rfl) ?_)
  obtain ⟨n1, o, l, s, hB, -⟩ := W.place (hp _ (List.getElem_mem hi))
  have hpn := pn_eq hB
  refine ht_bd (ht_gi hB rfl ?_)
  refine ht_if (fun he => ht_ret (q _ ⟨fun _ => List.any_eq_true.mpr ⟨_, List.getElem_mem hi, decide_eq_true (hpn.trans he)⟩, fun _ => h0⟩)) (fun he => ?_)
  have e1 := i_s (a := x) (by omega)
  refine hih (n - 1) _ _ (by omega) ⟨rfl, x + 1, rfl, by omega, by omega, fun j b hj hb => ?_⟩
  by_cases ej : (j : Int) < x.toInt
  · exact hno j b ej hb
  · have : j = x.toNatClampNeg := by show j = x.toInt.toNat; omega
    subst this
    rw [List.getElem?_eq_getElem hi] at hb
    cases hb
    rw [hpn]
    exact he
theorem cp_take {bs : List Nat} {P : Nat → Bool} {j : Nat} (h : j < bs.length) : (bs.take (j + 1)).countP P = (bs.take j).countP P + (if P bs[j] = true then 1 else 0) := by
  rw [List.take_succ_eq_append_getElem h, List.countP_append]
  congr 1
  simp [List.countP_cons]
theorem cp_le {bs : List Nat} {P : Nat → Bool} {j : Nat} : (bs.take j).countP P ≤ bs.countP P := by
  have h := (List.take_sublist j bs).countP_le (p := P)
  exact h
theorem ar_fill {L : List Nat} {m b : Nat} : (L.map Value.ref ++ List.replicate (m + 1) Value.null).set L.length (.ref b) = (L ++ [b]).map Value.ref ++ List.replicate m Value.null := by
  rw [List.set_append_right _ _ (by simp), List.length_map, Nat.sub_self, List.replicate_succ, List.set_cons_zero, List.map_append, List.append_assoc]
  rfl
theorem k_union (W : WX g D M) {a b : Nat} (ha : (gB ++ D)[a]? = some 101) (hb : (gB ++ D)[b]? = some 101) {Q : Option Nat → zM → Prop} (q : ∀ (L : List Nat) (M' : zM), WT g D M' → M'.length = M.length + 1 → M'[M.length]? = some (.inl (15, L.map .ref)) → (∀ b ∈ L, (gB ++ D)[b]? = some 100) → L.length ≤ 10 → Q (some M.length) M') : z_T (F_X7_union (some a) (some b)) M Q := by
  obtain ⟨ps, hA, hla, hpa⟩ := W.1.places ha
  obtain ⟨bs, hB, hlb, hpb⟩ := W.1.places hb
  have ela := n_ti (n := ps.length) (by omega)
  have elb := n_ti (n := bs.length) (by omega)
  have z0 := i0
  have z1 := i1
  have aM : a < M.length := (List.getElem?_eq_some_iff.mp hA).1
  have bM : b < M.length := (List.getElem?_eq_some_iff.mp hB).1
  -- which of b's places are new
  let P : Nat → Bool := fun c => !(ps.any (fun d => decide (pn M d = pn M c)))
  unfold F_X7_union
  refine ht_bd (ht_len hA ?_)
  rw [List.length_map]
  unfold F_X7_union_5
  refine ht_fix (body := fun ih s => B_X7_union_5 (fun y0 y1 y2 y3 => ih (y0, y1, y2, y3)) s.1 s.2.1 s.2.2.1 s.2.2.2) (I := fun n st M' => M' = M ∧ ∃ (z x : Int32) (j : Nat), st = (some a, some b, z, x) ∧ x.toInt = j ∧ j ≤ bs.length ∧ j + n = bs.length ∧ z.toInt = ps.length + (bs.take j).countP P) ?_ z_N bs.length _ M (Nat.lt_of_le_of_lt hlb (by decide)) ⟨rfl, _, 0, 0, rfl, rfl, by omega, by omega, by rw [ela]; simp⟩
  intro n st M1 ih hI hih
  obtain ⟨rfl, z, x, j, rfl, hxj, hj, hn, hz⟩ := hI
  unfold B_X7_union_5 F_X7_union_30
  dsimp only
  refine ht_bd (ht_len hB ?_)
  rw [List.length_map]
  refine ht_if (fun h => ?_) (fun h => ?_)
  · have h : (Int32.ofNat bs.length).toInt ≤ x.toInt := i_le.mp h
    have ej : j = bs.length := by omega
    subst ej
    rw [List.take_length] at hz
    have hc5 : bs.countP P ≤ bs.length := List.countP_le_length
    have hS : z.toNatClampNeg = ps.length + bs.countP P := by show z.toInt.toNat = _; omega
    refine ht_bd (ht_nwa (fun e => by have := Int32.lt_iff_toInt_lt.mp e; omega) (by omega) ?_)
    rw [hS]
    have W1 := W.1.app (c' := .inl (15, List.replicate (ps.length + bs.countP P) .null))
    have hN : (M1 ++ [.inl (15, List.replicate (ps.length + bs.countP P) .null)] : zM)[M1.length]? = some (.inl (15, ([] : List Nat).map .ref ++ List.replicate (ps.length + bs.countP P) .null)) := z_gn
    have hO : ∀ i, i < M1.length → (M1 ++ [.inl (15, List.replicate (ps.length + bs.countP P) .null)] : zM)[i]? = M1[i]? := fun i hi => List.getElem?_append_left hi
    have hLn : (M1 ++ [.inl (15, List.replicate (ps.length + bs.countP P) .null)] : zM).length = M1.length + 1 := by simp
    generalize (M1 ++ [.inl (15, List.replicate (ps.length + bs.countP P) .null)] : zM) = M2 at W1 hN hO hLn ⊢
    have h2 : z_g0 ≤ M1.length := Nat.le_trans ge2_of_len (Nat.le_of_eq W.2)
    unfold F_X7_union_46
    -- the array so far
    refine ht_fix (body := fun ih s => B_X7_union_46 (fun y0 y1 y2 y3 y4 => ih (y0, y1, y2, y3, y4)) s.1 s.2.1 s.2.2.1 s.2.2.2.1 s.2.2.2.2) (I := fun k st M' => WT g D M' ∧ M'.length = M1.length + 1 ∧ (∀ i, i < M1.length → M'[i]? = M1[i]?) ∧ ∃ (y : Int32) (L : List Nat) (m : Nat), st = (some a, some b, z, some M1.length, y) ∧ y.toInt = L.length ∧ L.length + k = ps.length ∧ L.length + m = ps.length + bs.countP P ∧ (∀ c ∈ L, (gB ++ D)[c]? = some 100) ∧ M'[M1.length]? = some (.inl (15, L.map .ref ++ List.replicate m .null))) ?_ z_N ps.length _ M2 (Nat.lt_of_le_of_lt hla (by decide)) ⟨W1, hLn, hO, 0, [], _, rfl, rfl, by simp, by simp, fun c hc => by simp at hc, hN⟩
    intro k st M3 ih2 hI2 hih2
    obtain ⟨W3, hL3, hO3, y, L, m, rfl, hy, hk, hm, hLt, hN3⟩ := hI2
    unfold B_X7_union_46
    dsimp only
    have hA3 := (hO3 a aM).trans hA
    have hB3 := (hO3 b bM).trans hB
    refine ht_bd (ht_len hA3 ?_)
    rw [List.length_map]
    refine ht_if (fun h2' => ?_) (fun h2' => ?_)
    · have h2' : (Int32.ofNat ps.length).toInt ≤ y.toInt := i_le.mp h2'
      have eL : L.length = ps.length := by omega
      refine ht_bd (ht_len hA3 ?_)
      rw [List.length_map]
      unfold F_X7_union_74
      refine ht_fix (body := fun ih s => B_X7_union_74 (fun y0 y1 y2 y3 y4 y5 => ih (y0, y1, y2, y3, y4, y5)) s.1 s.2.1 s.2.2.1 s.2.2.2.1 s.2.2.2.2.1 s.2.2.2.2.2) (I := fun k st M' => WT g D M' ∧ M'.length = M1.length + 1 ∧ (∀ i, i < M1.length → M'[i]? = M1[i]?) ∧ ∃ (y w : Int32) (L : List Nat) (m j : Nat), st = (some a, some b, z, some M1.length, y, w) ∧ y.toInt = L.length ∧ w.toInt = j ∧ j ≤ bs.length ∧ j + k = bs.length ∧ L.length = ps.length + (bs.take j).countP P ∧ L.length + m = ps.length + bs.countP P ∧ (∀ c ∈ L, (gB ++ D)[c]? = some 100) ∧ M'[M1.length]? = some (.inl (15, L.map .ref ++ List.replicate m .null))) ?_ z_N bs.length _ M3 (Nat.lt_of_le_of_lt hlb (by decide)) ⟨W3, hL3, hO3, _, 0, L, m, 0, rfl, by omega, rfl, by omega, by omega, by simp [eL], hm, hLt, hN3⟩
      intro k4 st M4 ih4 hI4 hih4
      obtain ⟨W4, hL4, hO4, y4, w, L4, m4, j4, rfl, hy4, hw, hj4, hk4, hc4, hm4, hLt4, hN4⟩ := hI4
      unfold B_X7_union_74 F_X7_union_112
      dsimp only
      have hA4 := (hO4 a aM).trans hA
      have hB4 := (hO4 b bM).trans hB
      refine ht_bd (ht_len hB4 ?_)
      rw [List.length_map]
      refine ht_if (fun h4 => ?_) (fun h4 => ?_)
      · have h4 : (Int32.ofNat bs.length).toInt ≤ w.toInt := i_le.mp h4
        have ej : j4 = bs.length := by omega
        subst ej
        rw [List.take_length] at hc4
        have em : m4 = 0 := by omega
        subst em
        refine ht_ret (q L4 M4 W4 hL4 ?_ hLt4 (by omega))
        rw [hN4]
        simp
      · have h4 : w.toInt < (Int32.ofNat bs.length).toInt := i_nle.mp h4
        have hjl : j4 < bs.length := by omega
        have ew := i_s (a := w) (by omega)
        have hi : w.toNatClampNeg = j4 := by show w.toInt.toNat = _; omega
        have hla4 : ∀ {Q : Option Nat → zM → Prop}, Q (some bs[j4]) M4 → z_T (z_la (some b) w) M4 Q := fun {Q} hq => ht_la hB4 (by decide) (fun e => by have := Int32.lt_iff_toInt_lt.mp e; omega) (x := some bs[j4]) (by rw [hi, List.getElem?_map, List.getElem?_eq_getElem hjl]; rfl) hq
        have hct := cp_take (P := P) hjl
        have hcl := cp_le (bs := bs) (P := P) (j := j4 + 1)
        refine ht_bd (hla4 ?_)
        obtain ⟨n1, o, l, s, hE, -⟩ := W4.place (hpb _ (List.getElem_mem hjl))
        have bl : bs[j4] < M1.length := by
          have := lt_of_tag (hpb _ (List.getElem_mem hjl))
          rw [W.2] at this
          exact this
        have hE1 : M1[bs[j4]]? = _ := (hO4 _ bl).symm.trans hE
        have e1 := pn_eq hE1
        refine ht_bd (ht_gi hE rfl ?_)
        refine ht_bd (k_slotS W4 ha hA4 fun t ht => ?_)
        -- the same numbers as before
        have hsame : ps.any (fun d => decide (pn M4 d = n1)) = ps.any (fun d => decide (pn M1 d = n1)) := by
          have pns : ∀ d ∈ ps, pn M4 d = pn M1 d := fun d hd => by
            have dl : d < M1.length := by
              have := lt_of_tag (hpa d hd)
              rw [W.2] at this
              exact this
            unfold pn
            rw [hO4 d dl]
          rw [Bool.eq_iff_iff, List.any_eq_true, List.any_eq_true]
          constructor
          · rintro ⟨d, hd, h⟩
            exact ⟨d, hd, by rw [← pns d hd]; exact h⟩
          · rintro ⟨d, hd, h⟩
            exact ⟨d, hd, by rw [pns d hd]; exact h⟩
        rw [hsame] at ht
        have hP : P bs[j4] = !(ps.any (fun d => decide (pn M1 d = n1))) := by
          show (!(ps.any (fun d => decide (pn M1 d = pn M1 bs[j4])))) = _
          rw [e1]
        refine ht_if (fun ht0 => ?_) (fun ht0 => ?_)
        · have ht0 : (0 : Int32).toInt ≤ t.toInt := i_le.mp ht0
          have hf : P bs[j4] = false := by rw [hP, ht.mp (by omega)]; rfl
          rw [hf] at hct
          exact hih4 (k4 - 1) _ _ (by omega) ⟨W4, hL4, hO4, y4, w + 1, L4, m4, j4 + 1, rfl, hy4, by omega, by omega, by omega, by rw [hct]; simp; omega, hm4, hLt4, hN4⟩
        · have ht0 : t.toInt < (0 : Int32).toInt := i_nle.mp ht0
          have hf : P bs[j4] = true := by
            rw [hP]
            cases hany : ps.any (fun d => decide (pn M1 d = n1)) with
            | false => rfl
            | true => exact absurd (ht.mpr hany) (by omega)
          rw [hf, if_pos rfl] at hct
          refine ht_if (fun hfull => ?_) (fun _ => ?_)
          · exfalso
            have hfull : z.toInt ≤ y4.toInt := i_le.mp hfull
            omega
          · obtain ⟨m5, rfl⟩ : ∃ m5, m4 = m5 + 1 := ⟨m4 - 1, by omega⟩
            have ey := i_s (a := y4) (by omega)
            have hyi : y4.toNatClampNeg = L4.length := by show y4.toInt.toNat = _; omega
            refine ht_bd (hla4 ?_)
            refine ht_bd (ht_sa (k := 15) h2 hN4 (by decide) (fun e => by have := Int32.lt_iff_toInt_lt.mp e; omega) (by rw [hyi]; simp) (Or.inr (by rw [z_ob_eq hE]; rfl)) ?_)
            rw [hyi, show va_rf (some bs[j4]) = Value.ref bs[j4] from rfl, ar_fill]
            refine hih4 (k4 - 1) _ _ (by omega) ⟨W4.far (by rw [W.2]; omega), by rw [List.length_set]; exact hL4, fun i hi => ?_, y4 + 1, w + 1, L4 ++ [bs[j4]], m5, j4 + 1, rfl, by rw [ey, hy4]; simp, by omega, by omega, by omega, by rw [hct]; simp; omega, by simp; omega, fun c hc => ?_, z_gs hN4⟩
            · rw [z_go (by omega)]; exact hO4 i hi
            · rcases List.mem_append.mp hc with e | e
              · exact hLt4 c e
              · rw [List.mem_singleton.mp e]; exact hpb _ (List.getElem_mem hjl)
    · have h2' : y.toInt < (Int32.ofNat ps.length).toInt := i_nle.mp h2'
      have hLl : L.length < ps.length := by omega
      have ey := i_s (a := y) (by omega)
      have hyi : y.toNatClampNeg = L.length := by show y.toInt.toNat = _; omega
      obtain ⟨m5, rfl⟩ : ∃ m5, m = m5 + 1 := ⟨m - 1, by omega⟩
      refine ht_bd (ht_la hA3 (by decide) (fun e => by have := Int32.lt_iff_toInt_lt.mp e; omega) (x := some ps[L.length]) (by rw [hyi, List.getElem?_map, List.getElem?_eq_getElem hLl]; rfl) ?_)
      obtain ⟨n1, o, l, s, hE, -⟩ := W3.place (hpa _ (List.getElem_mem hLl))
      refine ht_bd (ht_sa (k := 15) h2 hN3 (by decide) (fun e => by have := Int32.lt_iff_toInt_lt.mp e; omega) (by rw [hyi]; simp) (Or.inr (by rw [z_ob_eq hE]; rfl)) ?_)
      rw [hyi, show va_rf (some ps[L.length]) = Value.ref ps[L.length] from rfl, ar_fill]
      refine hih2 (k - 1) _ _ (by omega) ⟨W3.far (by rw [W.2]; omega), by rw [List.length_set]; exact hL3, fun i hi => ?_, y + 1, L ++ [ps[L.length]], m5, rfl, by rw [ey, hy]; simp, by simp; omega, by simp; omega, fun c hc => ?_, z_gs hN3⟩
      · rw [z_go (by omega)]; exact hO3 i hi
      · rcases List.mem_append.mp hc with e | e
        · exact hLt c e
        · rw [List.mem_singleton.mp e]; exact hpa _ (List.getElem_mem hLl)
  · have h : x.toInt < (Int32.ofNat bs.length).toInt := i_nle.mp h
    have hjl : j < bs.length := by omega
    have ex := i_s (a := x) (by omega)
    have hi : x.toNatClampNeg = j := by show x.toInt.toNat = _; omega
    have hct := cp_take (P := P) hjl
    have hcl := cp_le (bs := bs) (P := P) (j := j + 1)
    have hc5 : bs.countP P ≤ bs.length := List.countP_le_length
    refine ht_bd (ht_la hB (by decide) (fun e => by have := Int32.lt_iff_toInt_lt.mp e; omega) (x := some bs[j]) (by rw [hi, List.getElem?_map, List.getElem?_eq_getElem hjl]; rfl) ?_)
    obtain ⟨n1, o, l, s, hE, -⟩ := W.1.place (hpb _ (List.getElem_mem hjl))
    have e1 := pn_eq hE
    refine ht_bd (ht_gi hE rfl ?_)
    refine ht_bd (k_slotS W.1 ha hA fun t ht => ?_)
    have hP : P bs[j] = !(ps.any (fun d => decide (pn M1 d = n1))) := by
      show (!(ps.any (fun d => decide (pn M1 d = pn M1 bs[j])))) = _
      rw [e1]
    refine ht_if (fun ht0 => ?_) (fun ht0 => ?_)
    · have ht0 : (0 : Int32).toInt ≤ t.toInt := i_le.mp ht0
      have hf : P bs[j] = false := by rw [hP, ht.mp (by omega)]; rfl
      rw [hf] at hct
      refine ht_bd (ht_ret ?_)
      have e3 := i_add (a := z) (b := 0) (by omega) (by omega)
      exact hih (n - 1) _ _ (by omega) ⟨rfl, z + 0, x + 1, j + 1, rfl, by omega, by omega, by omega, by rw [hct]; simp at hct ⊢; omega⟩
    · have ht0 : t.toInt < (0 : Int32).toInt := i_nle.mp ht0
      have hf : P bs[j] = true := by
        rw [hP]
        cases hany : ps.any (fun d => decide (pn M1 d = n1)) with
        | false => rfl
        | true => exact absurd (ht.mpr hany) (by omega)
      rw [hf, if_pos rfl] at hct
      refine ht_bd (ht_ret ?_)
      have e3 := i_add (a := z) (b := 1) (by omega) (by omega)
      exact hih (n - 1) _ _ (by omega) ⟨rfl, z + 1, x + 1, j + 1, rfl, by omega, by omega, by omega, by rw [hct]; omega⟩
end PR
