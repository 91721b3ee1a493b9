/-! drop, arc, arcs, other -/
theorem er_mem {L : List Nat} {i0 k x : Nat} (h : L.Pairwise (· < ·)) (h0 : L[i0]? = some k) : x ∈ L.eraseIdx i0 ↔ x ∈ L ∧ x ≠ k := by
  rw [List.mem_eraseIdx_iff_getElem?]
  constructor
  · rintro ⟨i, hi, hx⟩
    refine ⟨List.mem_of_getElem? hx, fun e => hi ?_⟩
    subst e
    obtain ⟨l1, e1⟩ := List.getElem?_eq_some_iff.mp hx
    obtain ⟨l2, e2⟩ := List.getElem?_eq_some_iff.mp h0
    have hp := List.pairwise_iff_getElem.mp h
    by_cases c1 : i < i0
    · have := hp i i0 l1 l2 c1
      omega
    · by_cases c2 : i0 < i
      · have := hp i0 i l2 l1 c2
        omega
      · omega
  · rintro ⟨hx, hne⟩
    obtain ⟨i, hi, rfl⟩ := List.mem_iff_getElem.mp hx
    refine ⟨i, fun e => hne ?_, List.getElem?_eq_getElem hi⟩
    subst e
    rw [List.getElem?_eq_getElem hi] at h0
    exact Option.some.inj h0
theorem er_pw {L : List Nat} {i0 : Nat} (h : L.Pairwise (· < ·)) : (L.eraseIdx i0).Pairwise (· < ·) := h.sublist (List.eraseIdx_sublist _ _)
section AR
variable {g : Nat → zC} {D : List Nat} {M : zM}
theorem k_drop (W : WT g D M) {S : List Nat} (hS : SOK S) (hC : CG S g) {f l t : Nat} (hf : f < 16) (hl : l < 8) (ht : t < 16) {Q : Int32 → zM → Prop} (q0 : cde f l t ∉ S → Q 0 M) (q1 : ∀ (g' : Nat → zC) (M' : zM), cde f l t ∈ S → WT g' D M' → (∀ S' : List Nat, (∀ x, x ∈ S' ↔ x ∈ S ∧ x ≠ cde f l t) → S'.length + 1 = S.length → CG S' g') → Q 1 M') : z_T (F_X5_drop 7 (Int32.ofNat f) (Int32.ofNat l) (Int32.ofNat t)) M Q := by
  obtain ⟨ro, ri, h7, h8, h11, h9, h12, hR⟩ := hC
  have hcd : cde f l t = f * 128 + l * 16 + t := rfl
  obtain ⟨o1, o2, o3⟩ := hR.1 f hf
  obtain ⟨d1, d2, d3⟩ := hR.2 t ht
  have hmo : l * 16 + t ∈ ro f ↔ cde f l t ∈ S := by
    rw [o3 _ (by omega), show f * 128 + (l * 16 + t) = cde f l t by omega]
  have hmi : l * 16 + f ∈ ri t ↔ cde f l t ∈ S := by
    rw [d3 _ (by omega), show (l * 16 + f) % 16 * 128 + (l * 16 + f) / 16 * 16 + t = cde f l t by omega]
  have c7 : M[7]? = some (.inr (5, [.ref 8, .ref 11, .int (Int32.ofNat S.length)])) := by rw [W.g7, h7]
  have c8 : M[8]? = some (.inr (1, [.ref 9, .ref 10])) := by rw [W.g8, h8]
  have c11 : M[11]? = some (.inr (1, [.ref 12, .ref 13])) := by rw [W.g11, h11]
  have hl60 := hS.2.1
  unfold F_X5_drop F_X5_keyOf
  refine ht_bd (ht_ret ?_)
  rw [n_16]
  refine ht_bd (ht_ga c7 (x := some 8) rfl ?_)
  refine ht_bd (ht_rc c8 ?_)
  refine ht_bd (r_indexOf c8 W.g9 W.g10 h9 hf (by omega) (fun i hi => ?_) (fun hno => ?_))
  rotate_left
  · rw [if_neg (by decide)]
    exact ht_ret (q0 (fun h => hno (hmo.mpr h)))
  have hil : i < (ro f).length := (List.getElem?_eq_some_iff.mp hi).1
  have := h9.len hf
  have h00 : (0 : Int32) ≤ Int32.ofNat i := (n_le (a := 0) (by decide) (by omega)).mpr (Nat.zero_le _)
  rw [if_pos h00]
  have hin : cde f l t ∈ S := hmo.mp (List.mem_of_getElem? hi)
  have hpos : 0 < S.length := List.length_pos_of_mem hin
  refine ht_bd (ht_ga c7 (x := some 8) rfl ?_)
  refine ht_bd (ht_rc c8 ?_)
  refine ht_bd (r_remove (by decide) (by decide) (by decide) (by decide) c8 W.g9 W.g10 h9 hf (by omega) (hmo.mpr hin) fun i0 k9 k10 e1 hp => ?_)
  have m7 : ((M.set 9 k9).set 10 k10)[7]? = some (.inr (5, [.ref 8, .ref 11, .int (Int32.ofNat S.length)])) := by rw [z_go (by decide), z_go (by decide)]; exact c7
  have m11 : ((M.set 9 k9).set 10 k10)[11]? = some (.inr (1, [.ref 12, .ref 13])) := by rw [z_go (by decide), z_go (by decide)]; exact c11
  have m12 : ((M.set 9 k9).set 10 k10)[12]? = some (g 12) := by rw [z_go (by decide), z_go (by decide)]; exact W.g12
  have m13 : ((M.set 9 k9).set 10 k10)[13]? = some (g 13) := by rw [z_go (by decide), z_go (by decide)]; exact W.g13
  refine ht_bd (ht_ga m7 (x := some 11) rfl ?_)
  refine ht_bd (ht_ret ?_)
  rw [n_16]
  refine ht_bd (ht_rc m11 ?_)
  refine ht_bd (r_remove (by decide) (by decide) (by decide) (by decide) m11 m12 m13 h12 ht (by omega) (hmi.mpr hin) fun i1 k12 k13 u1 hq => ?_)
  have w7 : ((((M.set 9 k9).set 10 k10).set 12 k12).set 13 k13)[7]? = some (.inr (5, [.ref 8, .ref 11, .int (Int32.ofNat S.length)])) := by rw [z_go (by decide), z_go (by decide)]; exact m7
  refine ht_bd (ht_gi w7 rfl ?_)
  refine ht_bd (ht_pf (by decide) w7 (by simp) ?_)
  refine ht_ret (q1 _ _ hin (W.graph (c7 := .inr (5, [.ref 8, .ref 11, .int (Int32.ofNat S.length - 1)])) (c9 := k9) (c10 := k10) (c12 := k12) (c13 := k13)) (fun S' hS' hlen => ?_))
  refine ⟨_, _, ?_, h8, h11, hp, hq, ?_, ?_⟩
  · show Sum.inr (5, [Value.ref 8, Value.ref 11, Value.int (Int32.ofNat S.length - 1)]) = _
    rw [n_1 hpos, show S.length - 1 = S'.length by omega]
  · intro v hv
    obtain ⟨v1, v2, v3⟩ := hR.1 v hv
    unfold r_upd
    by_cases e : v = f
    · subst e
      rw [if_pos rfl]
      refine ⟨er_pw v1, fun k hk => v2 k (List.mem_of_mem_eraseIdx hk), fun k hk => ?_⟩
      rw [er_mem v1 e1, hS', ← v3 k hk]
      constructor
      · rintro ⟨h, hne⟩
        exact ⟨h, by omega⟩
      · rintro ⟨h, hne⟩
        exact ⟨h, by omega⟩
    · rw [if_neg e]
      refine ⟨v1, v2, fun k hk => ?_⟩
      rw [hS', ← v3 k hk]
      exact ⟨fun h => ⟨h, by omega⟩, fun h => h.1⟩
  · intro v hv
    obtain ⟨v1, v2, v3⟩ := hR.2 v hv
    unfold r_upd
    by_cases e : v = t
    · subst e
      rw [if_pos rfl]
      refine ⟨er_pw v1, fun k hk => v2 k (List.mem_of_mem_eraseIdx hk), fun k hk => ?_⟩
      rw [er_mem v1 u1, hS', ← v3 k hk]
      constructor
      · rintro ⟨h, hne⟩
        exact ⟨h, by omega⟩
      · rintro ⟨h, hne⟩
        exact ⟨h, by omega⟩
    · rw [if_neg e]
      refine ⟨v1, v2, fun k hk => ?_⟩
      rw [hS', ← v3 k hk]
      exact ⟨fun h => ⟨h, by omega⟩, fun h => h.1⟩
/-- what arc answers, and the arcs behind it -/
def aS (S : List Nat) (p0 p1 p2 p3 : Int32) : Int32 := if g_in 16 p0 = 0 then -1 else if g_in 8 p1 = 0 then -1 else if g_in 16 p2 = 0 then -1 else if p3 = 0 then (if cde p0.toNatClampNeg p1.toNatClampNeg p2.toNatClampNeg ∈ S then 1 else 0) else if cde p0.toNatClampNeg p1.toNatClampNeg p2.toNatClampNeg ∈ S then 0 else if g_full S p0.toNatClampNeg p2.toNatClampNeg then -2 else 1
def nS (S : List Nat) (p0 p1 p2 p3 : Int32) (S' : List Nat) : Prop := if aS S p0 p1 p2 p3 = 1 then (if p3 = 0 then (∀ x, x ∈ S' ↔ x ∈ S ∧ x ≠ cde p0.toNatClampNeg p1.toNatClampNeg p2.toNatClampNeg) ∧ S'.length + 1 = S.length else (∀ x, x ∈ S' ↔ x ∈ S ∨ x = cde p0.toNatClampNeg p1.toNatClampNeg p2.toNatClampNeg) ∧ S'.length = S.length + 1) else S' = S
theorem c_arc (W : WX g D M) {S : List Nat} (hS : SOK S) (hC : CG S g) {p0 p1 p2 p3 : Int32} {Q : Int32 → zM → Prop} (q : ∀ (x : Int32) (g' : Nat → zC) (M' : zM), x = aS S p0 p1 p2 p3 → WX g' D M' → (∀ S', nS S p0 p1 p2 p3 S' → CG S' g') → Q x M') : z_T (F_X10_arc 2 p0 p1 p2 p3) M Q := by
  refine k_len (w_F_X10_arc 2 p0 p1 p2 p3) ?_
  have same : ∀ x : Int32, x = aS S p0 p1 p2 p3 → ¬ x = 1 → (M.length = M.length → Q x M) := fun x hx hn _ => q x g M hx W (fun S' h => by
    unfold nS at h
    rw [← hx, if_neg hn] at h
    rw [h]; exact hC)
  unfold F_X10_arc F_X10_arc_21
  rw [e_n10, e_l10, e_n10]
  refine ht_bd (ht_ret (ht_if (fun h0 => ht_ret (same _ (by unfold aS; rw [if_pos h0]) (by decide))) (fun h0 => ?_)))
  refine ht_bd (ht_ret (ht_if (fun h1 => ht_ret (same _ (by unfold aS; rw [if_neg h0, if_pos h1]) (by decide))) (fun h1 => ?_)))
  refine ht_bd (ht_ret (ht_if (fun h2 => ht_ret (same _ (by unfold aS; rw [if_neg h0, if_neg h1, if_pos h2]) (by decide))) (fun h2 => ?_)))
  have hA : aS S p0 p1 p2 p3 = if p3 = 0 then (if cde p0.toNatClampNeg p1.toNatClampNeg p2.toNatClampNeg ∈ S then 1 else 0) else if cde p0.toNatClampNeg p1.toNatClampNeg p2.toNatClampNeg ∈ S then 0 else if g_full S p0.toNatClampNeg p2.toNatClampNeg then -2 else 1 := by unfold aS; rw [if_neg h0, if_neg h1, if_neg h2]
  obtain ⟨f, hf, e0⟩ := g_in_ok (N := 16) (by decide) h0
  obtain ⟨l, hl, e1⟩ := g_in_ok (N := 8) (by decide) h1
  obtain ⟨t, ht, e2⟩ := g_in_ok (N := 16) (by decide) h2
  subst e0 e1 e2
  have n0 : (Int32.ofNat f).toNatClampNeg = f := n_cl (by omega)
  have n1 : (Int32.ofNat l).toNatClampNeg = l := n_cl (by omega)
  have n2 : (Int32.ofNat t).toNatClampNeg = t := n_cl (by omega)
  have note : ∀ (g' : Nat → zC) (M1 : zM), (1 : Int32) = aS S (Int32.ofNat f) (Int32.ofNat l) (Int32.ofNat t) p3 → WT g' D M1 → (∀ S', nS S (Int32.ofNat f) (Int32.ofNat l) (Int32.ofNat t) p3 S' → CG S' g') → z_T (F_X10_arc_51 2 1) M1 fun a M' => M'.length = M.length → Q a M' := by
    intro g' M1 hx W1 hG
    unfold F_X10_arc_51 F_X10_arc_66 F_X9_noteArcs
    rw [if_pos rfl]
    refine ht_bd (ht_ga W1.top (x := some 39) rfl ?_)
    obtain ⟨l1, r1, hh1, hM1, hr1, hh2⟩ := W1.sol
    refine ht_bd (ht_rc hM1 ?_)
    refine ht_bd ?_
    refine ht_bd (ht_pf (by decide) hM1 (by simp) ?_)
    refine ht_ret ?_
    refine ht_ret (fun hlen => q 1 g' _ hx ⟨W1.set (a := 39) (t := 39) rfl ⟨l1, r1, 1, rfl, hr1, by decide, by decide⟩, by rw [hlen]; exact W.2⟩ hG)
  have dull : ∀ x : Int32, x = aS S (Int32.ofNat f) (Int32.ofNat l) (Int32.ofNat t) p3 → ¬ x = 1 → z_T (F_X10_arc_51 2 x) M fun a M' => M'.length = M.length → Q a M' := by
    intro x hx hn
    unfold F_X10_arc_51 F_X10_arc_66
    rw [if_neg hn]
    exact ht_ret (same x hx hn)
  obtain ⟨ro, ri, h7, h8, h11, h9, h12, hR⟩ := hC
  have c7 : M[7]? = some (.inr (5, [.ref 8, .ref 11, .int (Int32.ofNat S.length)])) := by rw [W.1.g7, h7]
  have hC : CG S g := ⟨ro, ri, h7, h8, h11, h9, h12, hR⟩
  rw [n0, n1, n2] at hA
  refine ht_if (fun h3 => ?_) (fun h3 => ?_)
  · rw [if_pos h3] at hA
    refine ht_bd (ht_ga W.1.top (x := some 7) rfl ?_)
    refine ht_bd (ht_rc c7 ?_)
    refine ht_bd (k_drop W.1 hS hC hf hl ht (fun hn => ?_) (fun g' M1 hin W1 hG => ?_))
    · exact dull 0 (by rw [hA, if_neg hn]) (by decide)
    · rw [if_pos hin] at hA
      refine note g' M1 hA.symm W1 (fun S' h => ?_)
      unfold nS at h
      rw [hA, if_pos rfl, if_pos h3, n0, n1, n2] at h
      exact hG S' h.1 h.2
  · rw [if_neg h3] at hA
    refine ht_bd (ht_ga W.1.top (x := some 7) rfl ?_)
    refine ht_bd (ht_rc c7 ?_)
    refine ht_bd (k_put W.1 hS hC hf hl ht (fun hin => ?_) (fun hn hfu => ?_) (fun g' M1 hn hfu W1 hG => ?_))
    · exact dull 0 (by rw [hA, if_pos hin]) (by decide)
    · exact dull (-2) (by rw [hA, if_neg hn, if_pos hfu]) (by decide)
    · rw [if_neg hn, if_neg hfu] at hA
      refine note g' M1 hA.symm W1 (fun S' h => ?_)
      unfold nS at h
      rw [hA, if_pos rfl, if_neg h3, n0, n1, n2] at h
      exact hG S' h.1 h.2
theorem c_arcs (W : WT g D M) {S : List Nat} (hC : CG S g) {Q : Int32 → zM → Prop} (q : Q (Int32.ofNat S.length) M) : z_T (F_X10_arcs 2) M Q := by
  obtain ⟨ro, ri, h7, -⟩ := hC
  unfold F_X10_arcs
  refine ht_bd (ht_ga W.top (x := some 7) rfl ?_)
  refine ht_bd (ht_gi (by rw [W.g7, h7]) rfl ?_)
  exact ht_ret q
end AR
