/-! THE REFERENCE's arc, arcs -/
theorem nd_ix {S : List Nat} (h : S.Nodup) {i j x : Nat} (hi : S[i]? = some x) (hj : S[j]? = some x) : i = j := by
  obtain ⟨l1, e1⟩ := List.getElem?_eq_some_iff.mp hi
  obtain ⟨l2, e2⟩ := List.getElem?_eq_some_iff.mp hj
  have hp := List.pairwise_iff_getElem.mp h
  by_cases c1 : i < j
  · exact absurd (e1.trans e2.symm) (hp i j l1 l2 c1)
  · by_cases c2 : j < i
    · exact absurd (e2.trans e1.symm) (hp j i l2 l1 c2)
    · omega
/-- the last one takes the place of the one that goes -/
def s_rm (S : List Nat) (k : Nat) : List Nat := S.dropLast.set k (S.getD (S.length - 1) 0)
theorem s_rm_ix {S : List Nat} {k t : Nat} (hk : k < S.length) : (s_rm S k)[t]? = if t < S.length - 1 then (if t = k then S[S.length - 1]? else S[t]?) else none := by
  unfold s_rm
  have hz : S[S.length - 1]? = some (S.getD (S.length - 1) 0) := by
    rw [List.getD_eq_getElem?_getD, List.getElem?_eq_getElem (by omega)]; rfl
  by_cases h1 : t < S.length - 1
  · rw [if_pos h1]
    by_cases h2 : t = k
    · subst h2
      rw [if_pos rfl, List.getElem?_set_self (by rw [List.length_dropLast]; exact h1), hz]
    · rw [if_neg h2, List.getElem?_set_ne (fun e => h2 e.symm), List.getElem?_dropLast, if_pos h1]
  · rw [if_neg h1]
    exact List.getElem?_eq_none (by rw [List.length_set, List.length_dropLast]; omega)
theorem s_rm_ok {S : List Nat} (hS : SOK S) {k c : Nat} (hk : S[k]? = some c) : (∀ x, x ∈ s_rm S k ↔ x ∈ S ∧ x ≠ c) ∧ (s_rm S k).length + 1 = S.length ∧ SOK (s_rm S k) := by
  have hl : k < S.length := (List.getElem?_eq_some_iff.mp hk).1
  have hlen : (s_rm S k).length + 1 = S.length := by
    unfold s_rm
    rw [List.length_set, List.length_dropLast]; omega
  have hz : S[S.length - 1]? = some (S[S.length - 1]'(by omega)) := List.getElem?_eq_getElem (by omega)
  have hm : ∀ x, x ∈ s_rm S k ↔ x ∈ S ∧ x ≠ c := by
    intro x
    rw [List.mem_iff_getElem?]
    constructor
    · rintro ⟨t, ht⟩
      rw [s_rm_ix hl] at ht
      by_cases h1 : t < S.length - 1
      · rw [if_pos h1] at ht
        by_cases h2 : t = k
        · subst h2
          rw [if_pos rfl] at ht
          refine ⟨List.mem_of_getElem? ht, fun e => ?_⟩
          subst e
          have := nd_ix hS.1 ht hk
          omega
        · rw [if_neg h2] at ht
          refine ⟨List.mem_of_getElem? ht, fun e => ?_⟩
          subst e
          exact h2 (nd_ix hS.1 ht hk)
      · rw [if_neg h1] at ht
        cases ht
    · rintro ⟨hx, hne⟩
      obtain ⟨t, ht⟩ := List.mem_iff_getElem?.mp hx
      have htl : t < S.length := (List.getElem?_eq_some_iff.mp ht).1
      have htk : t ≠ k := fun e => by
        subst e
        rw [hk] at ht
        exact hne (Option.some.inj ht).symm
      by_cases h1 : t < S.length - 1
      · exact ⟨t, by rw [s_rm_ix hl, if_pos h1, if_neg htk]; exact ht⟩
      · have e : t = S.length - 1 := by omega
        refine ⟨k, ?_⟩
        rw [s_rm_ix hl, if_pos (by omega), if_pos rfl, ← e]
        exact ht
  refine ⟨hm, hlen, ?_, by have := hS.2.1; omega, fun x hx => hS.2.2 x ((hm x).mp hx).1⟩
  refine List.pairwise_iff_getElem.mpr (fun i j hi hj hij e => ?_)
  have a1 : (s_rm S k)[i]? = some ((s_rm S k)[i]) := List.getElem?_eq_getElem hi
  have a2 : (s_rm S k)[j]? = some ((s_rm S k)[i]) := by rw [List.getElem?_eq_getElem hj, e]
  rw [s_rm_ix hl, if_pos (by omega)] at a1 a2
  by_cases h1 : i = k
  · rw [if_pos h1] at a1
    rw [if_neg (by omega)] at a2
    have := nd_ix hS.1 a1 a2
    omega
  · rw [if_neg h1] at a1
    by_cases h2 : j = k
    · rw [if_pos h2] at a2
      have := nd_ix hS.1 a1 a2
      omega
    · rw [if_neg h2] at a2
      have := nd_ix hS.1 a1 a2
      omega
section RA
variable {M : zM} {nE kn wr pc th : Int32} {S : List Nat} {c43 : zC}
theorem y_arcS (hS : SOK S) (hD : ∀ v, v < 16 → odeg S v ≤ 4 ∧ ideg S v ≤ 4) (h : M[42]? = some (.inr (11, rob (Int32.ofNat S.length) nE kn wr pc th))) (h43 : M[43]? = some c43) (hA : pArcs S c43) {p0 p1 p2 p3 : Int32} (hp3 : p3 = 0 ∨ p3 = 1) {Q : Int32 → zM → Prop} (q : ∀ (x : Int32) (S' : List Nat) (kn' : Int32) (c' : zC) (M' : zM), x = aS S p0 p1 p2 p3 → nS S p0 p1 p2 p3 S' → SOK S' → pArcs S' c' → (kn' = kn ∨ kn' = 0) → M'[42]? = some (.inr (11, rob (Int32.ofNat S'.length) nE kn' wr pc 0)) → M'[43]? = some c' → (∀ i : Nat, i ≠ 42 → i ≠ 43 → M'[i]? = M[i]?) → Q x M') : z_T (F_X11_arc 42 p0 p1 p2 p3) M Q := by
  have hl60 := hS.2.1
  unfold F_X11_arc F_X11_arc_26
  rw [e_n11, e_l11, e_n11]
  refine ht_bd (ht_pf (by decide) h (by simp [rob]) ?_)
  show z_T _ (M.set 42 (.inr (11, rob (Int32.ofNat S.length) nE kn wr pc 0))) Q
  have g42 : (M.set 42 (.inr (11, rob (Int32.ofNat S.length) nE kn wr pc 0)))[42]? = some (.inr (11, rob (Int32.ofNat S.length) nE kn wr pc 0)) := z_gs h
  have g43 : (M.set 42 (.inr (11, rob (Int32.ofNat S.length) nE kn wr pc 0)))[43]? = some c43 := by rw [z_go (by decide)]; exact h43
  have go : ∀ i : Nat, i ≠ 42 → i ≠ 43 → (M.set 42 (.inr (11, rob (Int32.ofNat S.length) nE kn wr pc 0)))[i]? = M[i]? := fun i h1 _ => z_go (fun e => h1 e.symm)
  generalize M.set 42 (.inr (11, rob (Int32.ofNat S.length) nE kn wr pc 0)) = N at g42 g43 go ⊢
  have same : ∀ x : Int32, x = aS S p0 p1 p2 p3 → ¬ x = 1 → Q x N := fun x hx hn => q x S kn c43 N hx (by unfold nS; rw [← hx, if_neg hn]) hS hA (Or.inl rfl) g42 g43 go
  refine ht_bd (ht_ret (ht_if (fun h0 => ht_ret (same _ (by unfold aS; rw [if_pos h0]) (by decide))) (fun h0 => ?_)))
  refine ht_bd (ht_ret (ht_if (fun h1 => ht_ret (same _ (by unfold aS; rw [if_neg h0, if_pos h1]) (by decide))) (fun h1 => ?_)))
  refine ht_bd (ht_ret (ht_if (fun h2 => ht_ret (same _ (by unfold aS; rw [if_neg h0, if_neg h1, if_pos h2]) (by decide))) (fun h2 => ?_)))
  have hAn : aS S p0 p1 p2 p3 = if p3 = 0 then (if cde p0.toNatClampNeg p1.toNatClampNeg p2.toNatClampNeg ∈ S then 1 else 0) else if cde p0.toNatClampNeg p1.toNatClampNeg p2.toNatClampNeg ∈ S then 0 else if g_full S p0.toNatClampNeg p2.toNatClampNeg then -2 else 1 := by unfold aS; rw [if_neg h0, if_neg h1, if_neg h2]
  obtain ⟨f, hf, e0⟩ := g_in_ok (N := 16) (by decide) h0
  obtain ⟨l, hl, e1⟩ := g_in_ok (N := 8) (by decide) h1
  obtain ⟨t, ht, e2⟩ := g_in_ok (N := 16) (by decide) h2
  subst e0 e1 e2
  have n0 : (Int32.ofNat f).toNatClampNeg = f := n_cl (by omega)
  have n1 : (Int32.ofNat l).toNatClampNeg = l := n_cl (by omega)
  have n2 : (Int32.ofNat t).toNatClampNeg = t := n_cl (by omega)
  have hcd : cde f l t = f * 128 + l * 16 + t := rfl
  rw [n0, n1, n2] at hAn
  refine ht_bd (ht_rc g42 ?_)
  refine ht_bd (f_find hl60 g42 g43 hA (fun k x hk ea eb ec => ?_) (fun hno => ?_))
  · -- it is there
    have hx := hS.2.2 x (List.mem_of_getElem? hk)
    have ea := (n_e (by omega) (by omega)).mp ea
    have eb := (n_e (by omega) (by omega)).mp eb
    have ec := (n_e (by omega) (by omega)).mp ec
    have hxc : x = cde f l t := by omega
    have hin : cde f l t ∈ S := by rw [← hxc]; exact List.mem_of_getElem? hk
    have hkl : k < S.length := (List.getElem?_eq_some_iff.mp hk).1
    rw [if_neg (n_nn (by omega))]
    unfold F_X11_arc_49
    rcases hp3 with rfl | rfl
    · rw [if_neg (by decide), if_pos rfl]
      rw [if_pos rfl, if_pos hin] at hAn
      refine ht_bd (ht_gi g42 (x := Int32.ofNat S.length) rfl ?_)
      rw [n_1 (by omega)]
      refine ht_bd (ht_pf (by decide) g42 (by simp [rob]) ?_)
      show z_T _ (N.set 42 (.inr (11, rob (Int32.ofNat (S.length - 1)) nE kn wr pc 0))) Q
      have w42 : (N.set 42 (.inr (11, rob (Int32.ofNat (S.length - 1)) nE kn wr pc 0)))[42]? = some (.inr (11, rob (Int32.ofNat (S.length - 1)) nE kn wr pc 0)) := z_gs g42
      have w43 : (N.set 42 (.inr (11, rob (Int32.ofNat (S.length - 1)) nE kn wr pc 0)))[43]? = some c43 := by rw [z_go (by decide)]; exact g43
      have wo : ∀ i : Nat, i ≠ 42 → i ≠ 43 → (N.set 42 (.inr (11, rob (Int32.ofNat (S.length - 1)) nE kn wr pc 0)))[i]? = M[i]? := fun i a1 a2 => (z_go (fun e => a1 e.symm)).trans (go i a1 a2)
      generalize N.set 42 (.inr (11, rob (Int32.ofNat (S.length - 1)) nE kn wr pc 0)) = N1 at w42 w43 wo ⊢
      obtain ⟨as, rfl, hal, H⟩ := hA
      obtain ⟨rm1, rm2, rm3⟩ := s_rm_ok hS (c := x) hk
      unfold F_X11_arc_157
      refine ht_fix (body := fun ih s => B_X11_arc_157 42 (fun y0 y1 => ih (y0, y1)) s.1 s.2) (I := fun n st M' => ∃ (i : Nat) (as' : List Int32), st = (Int32.ofNat k, Int32.ofNat i) ∧ i + n = 3 ∧ M' = N1.set 43 (.inl (0, as'.map .int)) ∧ as'.length = 180 ∧ (∀ j, j < i → as'[3 * k + j]? = as[3 * (S.length - 1) + j]?) ∧ ∀ p : Nat, (p < 3 * k ∨ 3 * k + i ≤ p) → as'[p]? = as[p]?) ?_ z_N 3 _ N1 (by decide) ⟨0, as, rfl, rfl, (z_ss w43).symm, hal, fun j hj => by omega, fun p _ => rfl⟩
      intro n st M' ih hI hih
      obtain ⟨i, as', rfl, hi, rfl, hal', J1, J2⟩ := hI
      have v42 : (N1.set 43 (.inl (0, as'.map .int)))[42]? = some (.inr (11, rob (Int32.ofNat (S.length - 1)) nE kn wr pc 0)) := by rw [z_go (by decide)]; exact w42
      have v43 : (N1.set 43 (.inl (0, as'.map .int)))[43]? = some (.inl (0, as'.map .int)) := z_gs w43
      unfold B_X11_arc_157 F_X11_arc_195
      dsimp only
      refine ht_if (fun h3 => ?_) (fun h3 => ?_)
      · have h3 := (n_le (a := 3) (by decide) (by omega)).mp h3
        have ei : i = 3 := by omega
        subst ei
        refine ht_bd (ht_pf (by decide) v42 (by simp [rob]) ?_)
        refine ht_ret (q 1 (s_rm S k) 0 (.inl (0, as'.map .int)) _ hAn.symm ?_ rm3 ⟨as', rfl, hal', fun j y hj => ?_⟩ (Or.inr rfl) ?_ ?_ (fun i a1 a2 => ?_))
        · unfold nS
          rw [hAn, if_pos rfl, if_pos rfl, n0, n1, n2, ← hxc]
          exact ⟨rm1, rm2⟩
        · rw [s_rm_ix hkl] at hj
          by_cases b1 : j < S.length - 1
          · rw [if_pos b1] at hj
            by_cases b2 : j = k
            · subst b2
              rw [if_pos rfl] at hj
              obtain ⟨c1, c2, c3⟩ := H _ _ hj
              have d0 := J1 0 (by omega)
              have d1 := J1 1 (by omega)
              have d2 := J1 2 (by omega)
              exact ⟨d0.trans c1, d1.trans c2, d2.trans c3⟩
            · rw [if_neg b2] at hj
              obtain ⟨c1, c2, c3⟩ := H _ _ hj
              exact ⟨(J2 _ (by omega)).trans c1, (J2 _ (by omega)).trans c2, (J2 _ (by omega)).trans c3⟩
          · rw [if_neg b1] at hj
            cases hj
        · rw [show (s_rm S k).length = S.length - 1 by omega]
          exact z_gs v42
        · rw [z_go (by decide)]; exact v43
        · rw [z_go (fun e => a1 e.symm), z_go (fun e => a2 e.symm)]; exact wo i a1 a2
      · have h3 : i < 3 := Nat.lt_of_not_le fun g => h3 ((n_le (a := 3) (by decide) (by omega)).mpr g)
        refine ht_bd (ht_ga v42 (x := some 43) rfl ?_)
        refine ht_bd (ht_ga v42 (x := some 43) rfl ?_)
        refine ht_bd (ht_gi v42 (x := Int32.ofNat (S.length - 1)) rfl ?_)
        have hr : as'[3 * (S.length - 1) + i]? = as[3 * (S.length - 1) + i]? := J2 _ (by omega)
        have hrx : as[3 * (S.length - 1) + i]? = some (as[3 * (S.length - 1) + i]'(by omega)) := List.getElem?_eq_getElem (by omega)
        refine ht_bd (va_li v43 (by rw [n_3, n_p]) (by omega) (hr.trans hrx) ?_)
        refine ht_bd (va_si (by decide) v43 (by rw [n_3, n_p]) (by omega) (by omega) ?_)
        rw [List.set_set, n_s]
        refine hih (n - 1) _ _ (by omega) ⟨i + 1, _, rfl, by omega, rfl, by simpa using hal', fun j hj => ?_, fun p hp => ?_⟩
        · by_cases ej : j = i
          · subst ej
            rw [List.getElem?_set_self (by omega), hrx]
          · rw [List.getElem?_set_ne (by omega)]
            exact J1 j (by omega)
        · rw [List.getElem?_set_ne (by omega)]
          exact J2 p (by omega)
    · rw [if_pos rfl]
      rw [if_neg (by decide), if_pos hin] at hAn
      exact ht_ret (same 0 hAn.symm (by decide))
  · -- it is not there
    have hn : cde f l t ∉ S := fun hin => hno _ hin ⟨by rw [show cde f l t / 128 = f by omega], by rw [show cde f l t / 16 % 8 = l by omega], by rw [show cde f l t % 16 = t by omega]⟩
    rw [if_pos (by decide)]
    unfold F_X11_arc_49 F_X11_arc_88 F_X11_arc_195
    rcases hp3 with rfl | rfl
    · rw [if_pos rfl]
      rw [if_pos rfl, if_neg hn] at hAn
      exact ht_ret (same 0 hAn.symm (by decide))
    · rw [if_neg (by decide), if_neg (by decide)]
      rw [if_neg (by decide), if_neg hn] at hAn
      have hdf := hD f hf
      have hdt := hD t ht
      refine ht_bd (ht_gi g42 (x := Int32.ofNat S.length) rfl ?_)
      refine ht_if (fun h60 => ?_) (fun h60 => ?_)
      · have h60 := (n_e (b := 60) (by omega) (by decide)).mp h60
        rw [if_pos (Or.inl (by omega))] at hAn
        exact ht_ret (same (-2) hAn.symm (by decide))
      have h60 : ¬ S.length = 60 := fun e => h60 ((n_e (b := 60) (by omega) (by decide)).mpr e)
      refine ht_bd (ht_rc g42 ?_)
      refine ht_bd (f_od hS g42 g43 hA hf ?_)
      refine ht_if (fun h4 => ?_) (fun h4 => ?_)
      · have h4 := (n_e (b := 4) (by omega) (by decide)).mp h4
        rw [if_pos (Or.inr (Or.inl (by omega)))] at hAn
        exact ht_ret (same (-2) hAn.symm (by decide))
      have h4 : ¬ odeg S f = 4 := fun e => h4 ((n_e (b := 4) (by omega) (by decide)).mpr e)
      refine ht_bd (ht_rc g42 ?_)
      refine ht_bd (f_id hS g42 g43 hA ht ?_)
      refine ht_if (fun h5 => ?_) (fun h5 => ?_)
      · have h5 := (n_e (b := 4) (by omega) (by decide)).mp h5
        rw [if_pos (Or.inr (Or.inr (by omega)))] at hAn
        exact ht_ret (same (-2) hAn.symm (by decide))
      have h5 : ¬ ideg S t = 4 := fun e => h5 ((n_e (b := 4) (by omega) (by decide)).mpr e)
      rw [if_neg (by rintro (e | e | e) <;> omega)] at hAn
      obtain ⟨as, rfl, hal, H⟩ := hA
      refine ht_bd (ht_ga g42 (x := some 43) rfl ?_)
      refine ht_bd (ht_gi g42 (x := Int32.ofNat S.length) rfl ?_)
      refine ht_bd (va_si (by decide) g43 n_3 (by omega) (by omega) ?_)
      have a42 : ∀ bs : List Int32, (N.set 43 (.inl (0, bs.map .int)))[42]? = some (.inr (11, rob (Int32.ofNat S.length) nE kn wr pc 0)) := fun bs => by rw [z_go (by decide)]; exact g42
      have a43 : ∀ bs : List Int32, (N.set 43 (.inl (0, bs.map .int)))[43]? = some (.inl (0, bs.map .int)) := fun bs => z_gs g43
      refine ht_bd (ht_ga (a42 _) (x := some 43) rfl ?_)
      refine ht_bd (ht_gi (a42 _) (x := Int32.ofNat S.length) rfl ?_)
      refine ht_bd (va_si (by decide) (a43 _) (by rw [n_3, n_s]) (by omega) (by rw [List.length_set]; omega) ?_)
      rw [List.set_set]
      refine ht_bd (ht_ga (a42 _) (x := some 43) rfl ?_)
      refine ht_bd (ht_gi (a42 _) (x := Int32.ofNat S.length) rfl ?_)
      refine ht_bd (va_si (by decide) (a43 _) (by rw [n_3, show (2 : Int32) = Int32.ofNat 2 from rfl, n_p]) (by omega) (by rw [List.length_set, List.length_set]; omega) ?_)
      rw [List.set_set]
      refine ht_bd (ht_gi (a42 _) (x := Int32.ofNat S.length) rfl ?_)
      refine ht_bd (ht_pf (by decide) (a42 _) (by simp [rob]) ?_)
      refine ht_bd (ht_pf (by decide) (z_gs (a42 _)) (by simp [rob]) ?_)
      rw [List.set_set]
      refine ht_ret (q 1 (S ++ [cde f l t]) 0 (.inl (0, (((as.set (3 * S.length) (Int32.ofNat f)).set (3 * S.length + 1) (Int32.ofNat l)).set (3 * S.length + 2) (Int32.ofNat t)).map .int)) _ hAn.symm ?_ ⟨?_, ?_, ?_⟩ ⟨(((as.set (3 * S.length) (Int32.ofNat f)).set (3 * S.length + 1) (Int32.ofNat l)).set (3 * S.length + 2) (Int32.ofNat t)), rfl, by simpa using hal, fun j y hj => ?_⟩ (Or.inr rfl) ?_ ?_ (fun i a1 a2 => ?_))
      · unfold nS
        rw [hAn, if_pos rfl, if_neg (by decide), n0, n1, n2]
        exact ⟨fun x => by simp, by simp⟩
      · rw [List.nodup_append]
        exact ⟨hS.1, by simp, fun a ha b hb e => by rw [List.mem_singleton] at hb; subst e; rw [hb] at ha; exact hn ha⟩
      · simp; omega
      · intro x hx
        rcases List.mem_append.mp hx with e | e
        · exact hS.2.2 x e
        · rw [List.mem_singleton.mp e]; omega
      · by_cases b1 : j < S.length
        · rw [List.getElem?_append_left b1] at hj
          obtain ⟨c1, c2, c3⟩ := H _ _ hj
          refine ⟨?_, ?_, ?_⟩
          · rw [List.getElem?_set_ne (by omega), List.getElem?_set_ne (by omega), List.getElem?_set_ne (by omega)]; exact c1
          · rw [List.getElem?_set_ne (by omega), List.getElem?_set_ne (by omega), List.getElem?_set_ne (by omega)]; exact c2
          · rw [List.getElem?_set_ne (by omega), List.getElem?_set_ne (by omega), List.getElem?_set_ne (by omega)]; exact c3
        · have hjl := (List.getElem?_eq_some_iff.mp hj).1
          have ej : j = S.length := by simp at hjl; omega
          subst ej
          rw [List.getElem?_append_right (Nat.le_refl _), Nat.sub_self] at hj
          cases hj
          refine ⟨?_, ?_, ?_⟩
          · rw [List.getElem?_set_ne (by omega), List.getElem?_set_ne (by omega), List.getElem?_set_self (by omega), show cde f l t / 128 = f by omega]
          · rw [List.getElem?_set_ne (by omega), List.getElem?_set_self (by rw [List.length_set]; omega), show cde f l t / 16 % 8 = l by omega]
          · rw [List.getElem?_set_self (by rw [List.length_set, List.length_set]; omega), show cde f l t % 16 = t by omega]
      · rw [List.length_append, List.length_singleton, ← n_s]
        exact z_gs (a42 _)
      · rw [z_go (by decide)]; exact a43 _
      · rw [z_go (fun e => a1 e.symm), z_go (fun e => a2 e.symm)]; exact go i a1 a2
end RA
