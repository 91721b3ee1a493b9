/-! THE LAW's LOOP: its invariant, a call of the class, a call of the reference -/
theorem okr_inl {h : Nat → zC} {ks as bs cs ss xs ys zs : List Int32} {n : Nat} {p q r : List Value} (H : HD h ks as bs cs ss xs ys zs n p q r) {i : Nat} (h1 : 43 ≤ i) (h2 : i ≤ 67) {c : zC} (hc : okr h i c) : ∃ y : Nat × List Value, c = .inl y ∧ y.1 < 900 := by
  obtain ⟨⟨t1, t2, t3, -⟩, ⟨u1, u2, u3, -⟩, ⟨v1, -⟩, ⟨vs, w1, -⟩, ⟨x1, x2, x3, x4⟩, -⟩ := H
  have pi : ∀ {m : Nat} {p : Int32 → Prop}, pI m p c → ∃ y : Nat × List Value, c = .inl y ∧ y.1 < 900 := fun hp => by
    obtain ⟨vs, rfl, -⟩ := hp
    exact ⟨_, rfl, show (0 : Nat) < 900 by decide⟩
  have pb : ∀ {m : Nat}, pB m c → ∃ y : Nat × List Value, c = .inl y ∧ y.1 < 900 := fun hp => by
    obtain ⟨vs, rfl, -⟩ := hp
    exact ⟨_, rfl, show (4 : Nat) < 900 by decide⟩
  have pl : ∀ {m : Nat}, pL m c → ∃ y : Nat × List Value, c = .inl y ∧ y.1 < 900 := fun hp => by
    obtain ⟨vs, rfl, -⟩ := hp
    exact ⟨_, rfl, show (3 : Nat) < 900 by decide⟩
  have ex : ∀ {y : Nat × List Value}, h i = .inl y → y.1 < 900 → c = h i → ∃ y : Nat × List Value, c = .inl y ∧ y.1 < 900 := fun e l e2 => ⟨_, e2.trans e, l⟩
  have hi : i = 43 ∨ i = 44 ∨ i = 45 ∨ i = 46 ∨ i = 47 ∨ i = 48 ∨ i = 49 ∨ i = 50 ∨ i = 51 ∨ i = 52 ∨ i = 53 ∨ i = 54 ∨ i = 55 ∨ i = 56 ∨ i = 57 ∨ i = 58 ∨ i = 59 ∨ i = 60 ∨ i = 61 ∨ i = 62 ∨ i = 63 ∨ i = 64 ∨ i = 65 ∨ i = 66 ∨ i = 67 := by omega
  rcases hi with rfl | rfl | rfl | rfl | rfl | rfl | rfl | rfl | rfl | rfl | rfl | rfl | rfl | rfl | rfl | rfl | rfl | rfl | rfl | rfl | rfl | rfl | rfl | rfl | rfl
  · exact ex w1 (show (0 : Nat) < 900 by decide) hc
  · exact ex u1 (show (0 : Nat) < 900 by decide) hc
  · exact ex u2 (show (0 : Nat) < 900 by decide) hc
  · exact ex u3 (show (0 : Nat) < 900 by decide) hc
  · exact ex v1 (show (0 : Nat) < 900 by decide) hc
  · exact ex x1 (show (0 : Nat) < 900 by decide) hc
  · exact ex x2 (show (0 : Nat) < 900 by decide) hc
  · exact ex x3 (show (0 : Nat) < 900 by decide) hc
  · exact ex x4 (show (0 : Nat) < 900 by decide) hc
  · exact pi (m := 16) hc
  · exact ex t1 (show (0 : Nat) < 900 by decide) hc
  · exact ex t2 (show (0 : Nat) < 900 by decide) hc
  · exact ex t3 (show (0 : Nat) < 900 by decide) hc
  · exact pb (m := 80000) hc
  · exact pb (m := 60) hc
  · exact pi (m := 60) hc
  · exact pi (m := 4) hc
  · exact pi (m := 60) hc
  · exact pb (m := 1300) hc
  · exact pb (m := 1300) hc
  · exact pb (m := 78000) hc
  · exact pb (m := 60) hc
  · exact pl (m := 1300) hc
  · exact pl (m := 1300) hc
  · exact pi (m := 16) hc
/-- the reference's cells are no blank ones -/
theorem RI.cell {S : List Nat} {P : zM} (hI : RI S P) {i : Nat} (h1 : 42 ≤ i) (h2 : i < 68) : ∃ c, P[i]? = some c ∧ c ≠ z_psn ∧ ∀ y : Nat × List Value, c = .inl y → y.1 < 900 := by
  obtain ⟨h, ks, as, bs, cs, ss, xs, ys, zs, n, p, q, r, kn, wr, pc, th, H, hA, R⟩ := hI
  by_cases e : i = 42
  · subst e
    exact ⟨_, R.1, (fun e => by cases e), (fun y e => by cases e)⟩
  · obtain ⟨c, k1, k2⟩ := R.2 i (by omega) (by omega)
    obtain ⟨y, rfl, hy⟩ := okr_inl H (by omega) (by omega) k2
    exact ⟨_, k1, (fun e => by cases e), (fun y' e => by cases e; exact hy)⟩
theorem RI.move {S : List Nat} {P M : zM} (hI : RI S P) (f : ∀ (i : Nat) (c : zC), 42 ≤ i → i < 68 → P[i]? = some c → c ≠ z_psn → M[i]? = some c) : RI S M := by
  have hc := fun i h1 h2 => hI.cell (i := i) h1 h2
  obtain ⟨h, ks, as, bs, cs, ss, xs, ys, zs, n, p, q, r, kn, wr, pc, th, H, hA, R⟩ := hI
  refine RI.mk' (kn := kn) (wr := wr) (pc := pc) (th := th) H hA ⟨?_, fun i h1 h2 => ?_⟩
  · exact f 42 _ (by decide) (by decide) R.1 (fun e => by cases e)
  · obtain ⟨c, k1, k2⟩ := R.2 i h1 h2
    obtain ⟨c', k3, k4, -⟩ := hc i (by omega) (by omega)
    rw [k1] at k3
    cases k3
    exact ⟨c, f i c (by omega) (by omega) k1 k4, k2⟩
/-- a memory with the reference's cells alone -/
def p2 (M : zM) : zM := M.mapIdx (fun i c => if 42 ≤ i ∧ i < 68 then c else z_psn)
theorem p2_i {M : zM} {i : Nat} : (p2 M)[i]? = (M[i]?).map (fun c => if 42 ≤ i ∧ i < 68 then c else z_psn) := by
  unfold p2
  rw [List.getElem?_mapIdx]
theorem z_cov_sz : ∀ {P M : zM}, P.length = M.length → (∀ (i : Nat) (c : zC), P[i]? = some c → c = z_psn ∨ M[i]? = some c) → zsz P ≤ zsz M
  | [], [], _, _ => Nat.le_refl _
  | [], _ :: _, h, _ => by simp at h
  | _ :: _, [], h, _ => by simp at h
  | c :: P, c' :: M, hl, h => by
    have h1 := z_cov_sz (P := P) (M := M) (by simpa using hl) (fun i k hi => h (i + 1) k hi)
    have h2 : zn c ≤ zn c' := by
      rcases h 0 c rfl with e | e
      · rw [e]; exact Nat.zero_le _
      · have e' : c' = c := Option.some.inj e
        rw [e']; exact Nat.le_refl _
    simp only [zsz, List.map_cons, List.sum_cons] at h1 ⊢
    omega
theorem p2_c {S : List Nat} {M : zM} (hI : RI S M) : z_C M (zsz M - zsz (p2 M)) (p2 M) M := by
  have hl : (p2 M).length = M.length := by unfold p2; rw [List.length_mapIdx]
  have hc : ∀ (i : Nat) (c : zC), (p2 M)[i]? = some c → c = z_psn ∨ M[i]? = some c := fun i c hi => by
    rw [p2_i] at hi
    cases hm : M[i]? with
    | none => rw [hm] at hi; cases hi
    | some c' =>
      rw [hm] at hi
      have hi : (if 42 ≤ i ∧ i < 68 then c' else z_psn) = c := Option.some.inj hi
      by_cases h : 42 ≤ i ∧ i < 68
      · rw [if_pos h] at hi; right; rw [hi]
      · rw [if_neg h] at hi; left; exact hi.symm
  have hz := z_cov_sz hl hc
  refine ⟨hl, by omega, fun i y hy => ?_, fun i c hi => ⟨fun _ => rfl, fun hn => (hc i c hi).resolve_left hn⟩⟩
  rcases hc i _ hy with e | e
  · cases e
  · by_cases h : 42 ≤ i ∧ i < 68
    · obtain ⟨c, k1, -, k3⟩ := hI.cell h.1 h.2
      rw [e] at k1
      cases k1
      exact k3 y rfl
    · rw [p2_i, e] at hy
      have hy : (if 42 ≤ i ∧ i < 68 then (Sum.inl y : zC) else z_psn) = .inl y := Option.some.inj hy
      rw [if_neg h] at hy
      cases hy
def LH (c0 : zC) (d : Nat) (S : List Nat) (N : List Nat → Prop) (k : Nat) (M : zM) : Prop := SOK S ∧ RI S M ∧ M[0]? = some c0 ∧ (∃ v : Value, M[68]? = some (.inl (3, [v]))) ∧ (∀ v, v < 16 → odeg S v ≤ 4 ∧ ideg S v ≤ 4) ∧ (∀ q0 q1 : Int32, (oK S q0 q1).length ≤ 4) ∧ ∃ (P : zM) (g : Nat → zC) (D : List Nat), z_C M d P M ∧ WX g D P ∧ (∀ S', N S' → CG S' g) ∧ D.length ≤ 6 * k
theorem CG.deg {S : List Nat} {g : Nat → zC} (hC : CG S g) (hS : SOK S) : ∀ v, v < 16 → odeg S v ≤ 4 ∧ ideg S v ≤ 4 := by
  obtain ⟨ro, ri, -, -, -, r1, r2, hR⟩ := hC
  intro v hv
  rw [← hR.od hS hv, ← hR.id hS hv]
  exact ⟨r1.len hv, r2.len hv⟩
section LP
variable {c0 : zC} {d k : Nat} {S : List Nat} {N : List Nat → Prop} {M : zM}
/-- a call of the class -/
theorem h_x {α β : Type} {x : zMn α} {f : α → zMn β} {A : α → Prop} {Q : β → zM → Prop} (hm : z_Mo x) (hL : LH c0 d S (fun S' => S' = S) k M) (hx : ∀ (P : zM) (g : Nat → zC) (D : List Nat), WX g D P → CG S g → z_T x P fun a P' => A a ∧ ∃ (g' : Nat → zC) (D' : List Nat), WX g' D' P' ∧ (∀ S', N S' → CG S' g') ∧ D'.length ≤ D.length + 6) (q : ∀ (a : α) (M' : zM), A a → LH c0 d S N (k + 1) M' → z_T (f a) M' Q) : z_T (z_bd x f) M Q := by
  obtain ⟨hS, hI, h0, h68, hD, hK, P, g, D, hC, hW, hG, hl⟩ := hL
  obtain ⟨r, h1, h2, g', D', hW', hG', hl'⟩ := hx P g D hW (hG S rfl)
  refine ht_bd (ht_cov hm hC ⟨r, h1, fun M' hC' hb => ?_⟩)
  have hbl : ∀ i : Nat, i = 0 ∨ (42 ≤ i ∧ i < 69) → M'[i]? = M[i]? := fun i hi => hb i (hW.bl hi)
  refine q r.1 M' h2 ⟨hS, hI.move (fun i c i1 i2 hi _ => ?_), ?_, ?_, hD, hK, r.2, g', D', ?_, hW', hG', by omega⟩
  · rw [hbl i (Or.inr ⟨i1, by omega⟩)]; exact hi
  · rw [hbl 0 (Or.inl rfl)]; exact h0
  · rw [hbl 68 (Or.inr ⟨by decide, by decide⟩)]; exact h68
  · exact ⟨hC'.1, hC'.2.1, hC'.2.2.1, fun i c hi => ⟨fun _ => rfl, (hC'.2.2.2 i c hi).2⟩⟩
/-- a call of the reference -/
theorem h_y {β : Type} {y : zMn Int32} {f : Int32 → zMn β} {B : Int32 → List Nat → zM → Prop} {Q : β → zM → Prop} (hm : z_Mo y) (hw : z_Gw 0 0 y) (hL : LH c0 d S N k M) (hy : ∀ M1, RI S M1 → z_T y M1 fun a M' => ∃ S', B a S' M' ∧ N S' ∧ SOK S' ∧ RI S' M') (q : ∀ (a : Int32) (S' : List Nat) (P' M' : zM), B a S' P' → (∀ c : zC, P'[42]? = some c → c ≠ z_psn → M'[42]? = some c) → (∀ i : Nat, i < 42 ∨ 68 ≤ i → M'[i]? = M[i]?) → LH c0 d S' (fun S'' => S'' = S') k M' → z_T (f a) M' Q) : z_T (z_bd y f) M Q := by
  obtain ⟨hS, hI, h0, h68, hD, hK, P, g, D, hC, hW, hG, hl⟩ := hL
  have hC2 := p2_c hI
  have hIp : RI S (p2 M) := hI.move (fun i c i1 i2 hi _ => by rw [p2_i, hi]; show some (if 42 ≤ i ∧ i < 68 then c else z_psn) = some c; rw [if_pos ⟨i1, i2⟩])
  obtain ⟨r, h1, S', hB, hN, hS', hI'⟩ := hy _ hIp
  have hgr := y.2 _ r h1
  have hgw := hw _ r h1
  refine ht_bd (ht_cov hm hC2 ⟨r, h1, fun M' hC' hb => ?_⟩)
  have hbl : ∀ i : Nat, i < 42 ∨ 68 ≤ i → M'[i]? = M[i]? := fun i hi => by
    cases hm' : (p2 M)[i]? with
    | some c =>
      have e := hm'
      rw [p2_i] at e
      cases hm2 : M[i]? with
      | none => rw [hm2] at e; cases e
      | some c' =>
        rw [hm2] at e
        have e : (if 42 ≤ i ∧ i < 68 then c' else z_psn) = c := Option.some.inj e
        rw [if_neg (by omega)] at e
        rw [← hm2]
        exact hb i (by rw [hm', ← e])
    | none =>
      have l1 : (p2 M).length ≤ i := List.getElem?_eq_none_iff.mp hm'
      have l2 : M'.length ≤ i := by rw [← hC'.1]; omega
      rw [List.getElem?_eq_none l2, List.getElem?_eq_none (by rw [← hC2.1]; exact l1)]
  have hlen : M'.length = M.length := by
    have e1 := hC'.1
    have e2 := hC2.1
    have e3 := hgr.1
    have e4 := hgw.1
    omega
  have hsz : zsz M' = zsz M := by
    have e1 := hC'.2.1
    have e2 := hC2.2.1
    have e3 := hgr.2
    have e4 := hgw.2
    omega
  have hCG : CG S' g := hG S' hN
  refine q r.1 S' r.2 M' hB (fun c hc hn => hC'.at hc hn) hbl ⟨hS', hI'.move (fun i c i1 i2 hi hn => hC'.at hi hn), ?_, ?_, hCG.deg hS', oK_4 hCG hS', P, g, D, ⟨by rw [hlen]; exact hC.1, by rw [hsz]; exact hC.2.1, hC.2.2.1, fun i c hi => ⟨fun _ => rfl, fun hn => ?_⟩⟩, hW, fun S'' e => by rw [e]; exact hCG, hl⟩
  · rw [hbl 0 (by omega)]; exact h0
  · rw [hbl 68 (by omega)]; exact h68
  · by_cases hi42 : i < 42 ∨ 68 ≤ i
    · rw [hbl i hi42]; exact hC.at hi hn
    · rw [hW.bl (Or.inr ⟨by omega, by omega⟩)] at hi
      exact absurd (Option.some.inj hi).symm hn
/-- the law's own other -/
theorem h_o {β : Type} {f : Int32 → zMn β} {q0 q1 q2 : Int32} {Q : β → zM → Prop} (hL : LH c0 d S (fun S' => S' = S) k M) (qn : ∀ M', LH c0 d S (fun S' => S' = S) (k + 1) M' → (q2 < 0 ∨ Int32.ofNat (oK S q0 q1).length ≤ q2) → z_T (f 1) M' Q) (qy : ∀ (M' : zM) (i key : Nat), LH c0 d S (fun S' => S' = S) (k + 1) M' → M'[68]? = some (.inl (3, [.long (Int32.ofNat (key % 16)).toInt64])) → q2 = Int32.ofNat i → (oK S q0 q1)[i]? = some key → z_T (f 0) M' Q) : z_T (z_bd (F_L_other (some 2) q0 q1 q2 (some 68)) f) M Q := by
  obtain ⟨hS, hI, h0, ⟨v, h68⟩, hD, hK, P, g, D, hC, hW, hG, hl⟩ := hL
  have hCG := hG S rfl
  have hGM := hW.gm hCG hC
  have h4 := hK q0 q1
  unfold F_L_other
  by_cases hp : q2 < 0 ∨ Int32.ofNat (oK S q0 q1).length ≤ q2
  · obtain ⟨hn, hT⟩ := o_no hGM hCG hS hp
    refine ht_bd (ht_or2 ?_ ?_)
    · unfold F_L_otherA
      refine hf_T (ht_rc (Q := fun b M' => b = 2 ∧ M' = M) hGM.1 ⟨rfl, rfl⟩) (fun b M' e => ?_)
      obtain ⟨rfl, rfl⟩ := e
      exact hf_n hn
    · unfold F_L_otherB
      refine ht_bd (ht_rc hGM.1 ?_)
      refine ht_call hT fun _ M' e => ?_
      subst e
      refine ht_ret (qn _ ⟨hS, hI.move (fun i c _ _ hi _ => z_gp hi), z_gp h0, ⟨v, z_gp h68⟩, hD, hK, P ++ [o_junk], g, D ++ [104], ?_, hW.add (t := 104) (show zn o_junk ≤ 525 by decide), hG, by rw [List.length_append]; simp; omega⟩ hp)
      refine ⟨by rw [List.length_append, List.length_append, hC.1], by rw [zsz_push, zsz_push, hC.2.1]; omega, fun i y hy => ?_, fun i c hi => ⟨fun _ => rfl, fun hn => ?_⟩⟩
      · by_cases hi : i < P.length
        · rw [List.getElem?_append_left hi] at hy
          exact hC.2.2.1 i y hy
        · have hil := (List.getElem?_eq_some_iff.mp hy).1
          rw [List.length_append, List.length_singleton] at hil
          have e : i = P.length := by omega
          subst e
          rw [z_gn] at hy
          cases hy
      · by_cases hi' : i < P.length
        · rw [List.getElem?_append_left hi'] at hi
          exact z_gp (hC.at hi hn)
        · have hil := (List.getElem?_eq_some_iff.mp hi).1
          rw [List.length_append, List.length_singleton] at hil
          have e : i = P.length := by omega
          subst e
          rw [z_gn] at hi
          rw [hC.1, z_gn]
          exact hi
  · have hp0 : ¬ q2 < 0 := fun e => hp (Or.inl e)
    have hp1 : ¬ Int32.ofNat (oK S q0 q1).length ≤ q2 := fun e => hp (Or.inr e)
    have k0 : (0 : Int32).toInt ≤ q2.toInt := i_nlt.mp hp0
    have k1 : q2.toInt < (Int32.ofNat (oK S q0 q1).length).toInt := i_nle.mp hp1
    rw [n_ti (by omega)] at k1
    have z0 := i0
    have hil : q2.toInt.toNat < (oK S q0 q1).length := by omega
    have hgi := List.getElem?_eq_getElem hil
    have ei : q2 = Int32.ofNat q2.toInt.toNat := i_of (by omega)
    refine ht_bd (ht_or1 ?_)
    unfold F_L_otherA
    refine ht_bd (ht_rc hGM.1 ?_)
    refine ht_bd (o_yes hGM hCG hS ei hgi ?_)
    refine ht_bd (ht_slo (by decide) h68 (by decide) (show Int32.toNatClampNeg 0 < 1 by decide) ?_)
    refine ht_ret (qy _ _ _ ⟨hS, hI.move (fun i c _ i2 hi _ => by rw [z_go (by omega)]; exact hi), by rw [z_go (by decide)]; exact h0, ⟨_, z_gs h68⟩, hD, hK, P, g, D, ⟨by rw [List.length_set]; exact hC.1, by rw [zsz_set M 68 _ _ h68 (by simp [zn])]; exact hC.2.1, hC.2.2.1, fun i c hi => ⟨fun _ => rfl, fun hn => ?_⟩⟩, hW, hG, by omega⟩ (z_gs h68) ei hgi)
    by_cases e68 : i = 68
    · subst e68
      rw [hW.bl (Or.inr ⟨by decide, by decide⟩)] at hi
      exact absurd (Option.some.inj hi).symm hn
    · rw [z_go (fun e => e68 e.symm)]
      exact hC.at hi hn
theorem LH.two (hL : LH c0 d S (fun S' => S' = S) k M) : M[2]? = some (.inr (10, [.ref 7, .ref 14, .ref 16, .ref 33, .ref 39])) := by
  obtain ⟨hS, hI, h0, h68, hD, hK, P, g, D, hC, hW, hG, hl⟩ := hL
  exact (hW.gm (hG S rfl) hC).1
theorem LH.ob (hL : LH c0 d S N k M) : ∃ o : List Value, M[42]? = some (.inr (11, o)) := by
  obtain ⟨hS, hI, -⟩ := hL
  obtain ⟨h, ks, as, bs, cs, ss, xs, ys, zs, n, p, q, r, kn, wr, pc, th, H, hA, R⟩ := hI
  exact ⟨_, R.1⟩
theorem LH.le (hL : LH c0 d S N k M) {k' : Nat} (h : k ≤ k') : LH c0 d S N k' M := by
  obtain ⟨hS, hI, h0, h68, hD, hK, P, g, D, hC, hW, hG, hl⟩ := hL
  exact ⟨hS, hI, h0, h68, hD, hK, P, g, D, hC, hW, hG, by omega⟩
theorem LH.room (hL : LH c0 d S (fun S' => S' = S) k M) : M.length ≤ 69 + 6 * k ∧ zsz M ≤ 220800 + 3150 * k + d := by
  obtain ⟨hS, hI, h0, h68, hD, hK, P, g, D, hC, hW, hG, hl⟩ := hL
  obtain ⟨h1, h2⟩ := hW.sz (hG S rfl)
  have e1 := hC.1
  have e2 := hC.2.1
  exact ⟨by omega, by omega⟩
end LP
