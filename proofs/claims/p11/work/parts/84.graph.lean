/-! THE CLASS's GRAPH HOLDS A SET OF ARCS; an arc as a number: from * 128 + label * 16 + to -/
abbrev cde (f l t : Nat) : Nat := f * 128 + l * 16 + t
def SOK (S : List Nat) : Prop := S.Nodup ∧ S.length ≤ 60 ∧ ∀ x ∈ S, x < 2048
def odeg (S : List Nat) (f : Nat) : Nat := (S.filter (fun x => decide (x / 128 = f))).length
def ideg (S : List Nat) (t : Nat) : Nat := (S.filter (fun x => decide (x % 16 = t))).length
def CR (S : List Nat) (ro ri : Nat → List Nat) : Prop := (∀ v, v < 16 → (ro v).Pairwise (· < ·) ∧ (∀ k ∈ ro v, k < 128) ∧ ∀ k, k < 128 → (k ∈ ro v ↔ v * 128 + k ∈ S)) ∧ ∀ w, w < 16 → (ri w).Pairwise (· < ·) ∧ (∀ k ∈ ri w, k < 128) ∧ ∀ k, k < 128 → (k ∈ ri w ↔ k % 16 * 128 + k / 16 * 16 + w ∈ S)
def CG (S : List Nat) (g : Nat → zC) : Prop := ∃ ro ri : Nat → List Nat, g 7 = .inr (5, [.ref 8, .ref 11, .int (Int32.ofNat S.length)]) ∧ g 8 = .inr (1, [.ref 9, .ref 10]) ∧ g 11 = .inr (1, [.ref 12, .ref 13]) ∧ pRow ro (g 9) (g 10) ∧ pRow ri (g 12) (g 13) ∧ CR S ro ri
theorem nd_lt {L : List Nat} (h : L.Pairwise (· < ·)) : L.Nodup := List.Pairwise.imp (fun h => Nat.ne_of_lt h) h
theorem CR.od {S : List Nat} {ro ri : Nat → List Nat} (h : CR S ro ri) (hS : SOK S) {v : Nat} (hv : v < 16) : (ro v).length = odeg S v := by
  obtain ⟨h1, h2, h3⟩ := h.1 v hv
  have n1 : ((ro v).map (fun k => v * 128 + k)).Nodup := List.pairwise_map.mpr (List.Pairwise.imp (fun h => by omega) h1)
  have n2 : (S.filter (fun x => decide (x / 128 = v))).Nodup := List.Pairwise.filter _ hS.1
  have p := (List.perm_ext_iff_of_nodup n1 n2).mpr (fun x => by
    rw [List.mem_map, List.mem_filter, decide_eq_true_eq]
    constructor
    · rintro ⟨k, hk, rfl⟩
      have := h2 k hk
      exact ⟨(h3 k this).mp hk, by omega⟩
    · rintro ⟨hx, hd⟩
      refine ⟨x % 128, (h3 _ (by omega)).mpr ?_, by omega⟩
      rw [show v * 128 + x % 128 = x by omega]
      exact hx)
  have := p.length_eq
  rw [List.length_map] at this
  exact this
theorem CR.id {S : List Nat} {ro ri : Nat → List Nat} (h : CR S ro ri) (hS : SOK S) {w : Nat} (hw : w < 16) : (ri w).length = ideg S w := by
  obtain ⟨h1, h2, h3⟩ := h.2 w hw
  have n1 : ((ri w).map (fun k => k % 16 * 128 + k / 16 * 16 + w)).Nodup := List.pairwise_map.mpr (List.Pairwise.imp_of_mem (fun {a b} ha hb h => by
    have := h2 a ha
    have := h2 b hb
    omega) h1)
  have n2 : (S.filter (fun x => decide (x % 16 = w))).Nodup := List.Pairwise.filter _ hS.1
  have p := (List.perm_ext_iff_of_nodup n1 n2).mpr (fun x => by
    rw [List.mem_map, List.mem_filter, decide_eq_true_eq]
    constructor
    · rintro ⟨k, hk, rfl⟩
      have := h2 k hk
      exact ⟨(h3 k this).mp hk, by omega⟩
    · rintro ⟨hx, hd⟩
      have hx2 := hS.2.2 x hx
      have hq : x / 128 < 16 := by omega
      have e3 : x / 128 * 128 + x / 16 % 8 * 16 + w = x := by omega
      have e1 : (x / 16 % 8 * 16 + x / 128) % 16 = x / 128 := by
        clear e3
        generalize x / 128 = q at hq ⊢
        generalize x / 16 % 8 = s
        omega
      have e2 : (x / 16 % 8 * 16 + x / 128) / 16 = x / 16 % 8 := by
        clear e3 e1
        generalize x / 128 = q at hq ⊢
        generalize x / 16 % 8 = s
        omega
      refine ⟨x / 16 % 8 * 16 + x / 128, (h3 _ (by omega)).mpr ?_, ?_⟩
      · rw [e1, e2, e3]
        exact hx
      · show (x / 16 % 8 * 16 + x / 128) % 16 * 128 + (x / 16 % 8 * 16 + x / 128) / 16 * 16 + w = x
        rw [e1, e2, e3])
  have := p.length_eq
  rw [List.length_map] at this
  exact this
theorem pRow.len {r : Nat → List Nat} {ck cc : zC} (h : pRow r ck cc) {v : Nat} (hv : v < 16) : (r v).length ≤ 4 := by
  obtain ⟨ks, cs, -, -, -, -, H⟩ := h
  exact (H v hv).1
theorem pRow.gk {r : Nat → List Nat} {ck cc : zC} (h : pRow r ck cc) : pI 64 (fun _ => True) ck ∧ pI 16 (rg 0 4) cc := by
  obtain ⟨ks, cs, rfl, rfl, hk, hc, H⟩ := h
  refine ⟨⟨ks, rfl, hk, fun _ _ => trivial⟩, cs, rfl, hc, fun x hx => ?_⟩
  obtain ⟨i, hi, rfl⟩ := List.mem_iff_getElem.mp hx
  obtain ⟨h1, h2, -⟩ := H i (by omega)
  rw [List.getElem?_eq_getElem hi] at h2
  have e := Option.some.inj h2
  rw [e]
  unfold rg
  rw [n_ti (by omega)]
  omega
theorem CG.gok {S : List Nat} {g : Nat → zC} (h : CG S g) : GOK g := by
  obtain ⟨ro, ri, h7, h8, h11, h9, h12, -⟩ := h
  exact ⟨⟨_, h7⟩, h8, h11, h9.gk.1, h9.gk.2, h12.gk.1, h12.gk.2⟩
theorem okc_g {g g' : Nat → zC} {D : List Nat} {t : Nat} (h : t < 7 ∨ 13 < t) : okc g D t = okc g' D t := by
  unfold okc
  split <;> first | rfl | omega
theorem okc_gs {g : Nat → zC} {D : List Nat} {t : Nat} (h1 : 7 ≤ t) (h2 : t ≤ 13) : okc g D t (g t) := by
  have : t = 7 ∨ t = 8 ∨ t = 9 ∨ t = 10 ∨ t = 11 ∨ t = 12 ∨ t = 13 := by omega
  rcases this with rfl | rfl | rfl | rfl | rfl | rfl | rfl <;> exact rfl
section GR
variable {g : Nat → zC} {D : List Nat} {M : zM}
theorem tag713 {i : Nat} (h1 : 7 ≤ i) (h2 : i ≤ 13) : (gB ++ D)[i]? = some i := by
  have : i = 7 ∨ i = 8 ∨ i = 9 ∨ i = 10 ∨ i = 11 ∨ i = 12 ∨ i = 13 := by omega
  rcases this with rfl | rfl | rfl | rfl | rfl | rfl | rfl <;> rfl
theorem WT.regraph (W : WT g D M) {g' : Nat → zC} {M' : zM} (hl : M'.length = M.length) (ho : ∀ i : Nat, (i < 7 ∨ 13 < i) → M'[i]? = M[i]?) (hn : ∀ i : Nat, 7 ≤ i → i ≤ 13 → M'[i]? = some (g' i)) : WT g' D M' := by
  refine ⟨by rw [hl]; exact W.1, fun i t hi => ⟨(W.2 i t hi).1, ?_⟩⟩
  by_cases hi7 : 7 ≤ i ∧ i ≤ 13
  · have e := tag713 (D := D) hi7.1 hi7.2
    rw [e] at hi
    cases hi
    exact ⟨_, hn i hi7.1 hi7.2, okc_gs hi7.1 hi7.2⟩
  · obtain ⟨c, h1, h2⟩ := (W.2 i t hi).2
    refine ⟨c, by rw [ho i (by omega)]; exact h1, ?_⟩
    have ht : t < 7 ∨ 13 < t := by
      rcases (W.2 i t hi).1 with e | e | e | e <;> omega
    rw [← okc_g (g := g) (g' := g') ht]
    exact h2
theorem n_16 {l t : Nat} : Int32.ofNat l * 16 + Int32.ofNat t = Int32.ofNat (l * 16 + t) := by
  rw [show (16 : Int32) = Int32.ofNat 16 from rfl, ← Int32.ofNat_mul, ← Int32.ofNat_add]
/-- the graph's cells, anew -/
def g_new (g : Nat → zC) (c7 c9 c10 c12 c13 : zC) : Nat → zC := fun i => if i = 7 then c7 else if i = 9 then c9 else if i = 10 then c10 else if i = 12 then c12 else if i = 13 then c13 else g i
theorem WT.graph (W : WT g D M) {c7 c9 c10 c12 c13 : zC} : WT (g_new g c7 c9 c10 c12 c13) D (((((M.set 9 c9).set 10 c10).set 12 c12).set 13 c13).set 7 c7) := by
  have l7 : 7 < M.length := (List.getElem?_eq_some_iff.mp W.g7).1
  have l13 : 13 < M.length := (List.getElem?_eq_some_iff.mp W.g13).1
  refine W.regraph (by simp) (fun i hi => ?_) (fun i h1 h2 => ?_)
  · rw [z_go (by omega), z_go (by omega), z_go (by omega), z_go (by omega), z_go (by omega)]
  · have : i = 7 ∨ i = 8 ∨ i = 9 ∨ i = 10 ∨ i = 11 ∨ i = 12 ∨ i = 13 := by omega
    rcases this with rfl | rfl | rfl | rfl | rfl | rfl | rfl
    · exact List.getElem?_set_self (by simp; omega)
    · rw [z_go (by decide), z_go (by decide), z_go (by decide), z_go (by decide), z_go (by decide)]; exact W.g8
    · rw [z_go (by decide), z_go (by decide), z_go (by decide), z_go (by decide)]; exact List.getElem?_set_self (by omega)
    · rw [z_go (by decide), z_go (by decide), z_go (by decide)]; exact List.getElem?_set_self (by simp; omega)
    · rw [z_go (by decide), z_go (by decide), z_go (by decide), z_go (by decide), z_go (by decide)]; exact W.g11
    · rw [z_go (by decide), z_go (by decide)]; exact List.getElem?_set_self (by simp; omega)
    · rw [z_go (by decide)]; exact List.getElem?_set_self (by simp; omega)
abbrev g_full (S : List Nat) (f t : Nat) : Prop := 60 ≤ S.length ∨ 4 ≤ odeg S f ∨ 4 ≤ ideg S t
/-- sorted rows, a key more -/
theorem ins_pw {L1 L2 : List Nat} {k : Nat} (h : (L1 ++ L2).Pairwise (· < ·)) (hk : k ∉ L1 ++ L2) (h2 : ∀ m ∈ L2, k < m) (h1 : ∀ m, L1.getLast? = some m → m ≤ k) : (L1 ++ k :: L2).Pairwise (· < ·) := by
  rw [List.pairwise_append] at h ⊢
  obtain ⟨p1, p2, p3⟩ := h
  have hL1 : ∀ m ∈ L1, m < k := by
    intro m hm
    have hne : L1 ≠ [] := fun e => by rw [e] at hm; cases hm
    have hl := h1 _ (List.getLast?_eq_some_getLast hne)
    have hle : m ≤ L1.getLast hne := by
      obtain ⟨i, hi, rfl⟩ := List.mem_iff_getElem.mp hm
      rw [List.getLast_eq_getElem]
      by_cases e : i = L1.length - 1
      · subst e; exact Nat.le_refl _
      · exact Nat.le_of_lt (List.pairwise_iff_getElem.mp p1 i (L1.length - 1) hi (by omega) (by omega))
    have hnk : m ≠ k := fun e => hk (by rw [← e]; exact List.mem_append_left _ hm)
    omega
  refine ⟨p1, List.pairwise_cons.mpr ⟨h2, p2⟩, fun a ha b hb => ?_⟩
  rcases List.mem_cons.mp hb with e | e
  · rw [e]; exact hL1 a ha
  · exact p3 a ha b e
theorem k_put (W : WT g D M) {S : List Nat} (hS : SOK S) (hC : CG S g) {f l t : Nat} (hf : f < 16) (hl : l < 8) (ht : t < 16) {Q : Int32 → zM → Prop} (q0 : cde f l t ∈ S → Q 0 M) (q2 : cde f l t ∉ S → g_full S f t → Q (-2) M) (q1 : ∀ (g' : Nat → zC) (M' : zM), cde f l t ∉ S → ¬ g_full S f t → WT g' D M' → (∀ S' : List Nat, (∀ x, x ∈ S' ↔ x ∈ S ∨ x = cde f l t) → S'.length = S.length + 1 → CG S' g') → Q 1 M') : z_T (F_X5_put 7 (Int32.ofNat f) (Int32.ofNat l) (Int32.ofNat t)) M Q := by
  obtain ⟨ro, ri, h7, h8, h11, h9, h12, hR⟩ := hC
  have hcd : cde f l t = f * 128 + l * 16 + t := rfl
  obtain ⟨o1, o2, o3⟩ := hR.1 f hf
  obtain ⟨d1, d2, d3⟩ := hR.2 t ht
  have hod := hR.od hS hf
  have hid := hR.id hS ht
  have hmo : l * 16 + t ∈ ro f ↔ cde f l t ∈ S := by
    rw [o3 _ (by omega), show f * 128 + (l * 16 + t) = cde f l t by omega]
  have hmi : l * 16 + f ∈ ri t ↔ cde f l t ∈ S := by
    rw [d3 _ (by omega), show (l * 16 + f) % 16 * 128 + (l * 16 + f) / 16 * 16 + t = cde f l t by omega]
  have c7 : M[7]? = some (.inr (5, [.ref 8, .ref 11, .int (Int32.ofNat S.length)])) := by rw [W.g7, h7]
  have c8 : M[8]? = some (.inr (1, [.ref 9, .ref 10])) := by rw [W.g8, h8]
  have c11 : M[11]? = some (.inr (1, [.ref 12, .ref 13])) := by rw [W.g11, h11]
  have hl60 := hS.2.1
  unfold F_X5_put F_X5_keyOf F_X5_put_53
  refine ht_bd (ht_ret ?_)
  rw [n_16]
  refine ht_bd (ht_ga c7 (x := some 8) rfl ?_)
  refine ht_bd (ht_rc c8 ?_)
  refine ht_bd (r_indexOf c8 W.g9 W.g10 h9 hf (by omega) (fun i hi => ?_) (fun hno => ?_))
  · have hil : i < (ro f).length := (List.getElem?_eq_some_iff.mp hi).1
    have := h9.len hf
    rw [if_neg (n_nn (by omega))]
    exact ht_ret (q0 (hmo.mp (List.mem_of_getElem? hi)))
  rw [if_pos (by decide)]
  have hn : cde f l t ∉ S := fun h => hno (hmo.mpr h)
  refine ht_bd (ht_gi c7 rfl ?_)
  refine ht_if (fun h60 => ?_) (fun h60 => ?_)
  · exact ht_ret (q2 hn (Or.inl ((n_le (a := 60) (by decide) (by omega)).mp h60)))
  have h60 : ¬ 60 ≤ S.length := fun e => h60 ((n_le (a := 60) (by decide) (by omega)).mpr e)
  refine ht_bd (ht_ga c7 (x := some 8) rfl ?_)
  refine ht_bd (ht_rc c8 ?_)
  refine ht_bd (r_isFull c8 W.g10 h9 hf (fun hfo => ?_) (fun hfo => ?_))
  rotate_left
  · rw [if_neg (by decide)]
    exact ht_ret (q2 hn (Or.inr (Or.inl (by omega))))
  rw [if_pos rfl]
  refine ht_bd (ht_ga c7 (x := some 11) rfl ?_)
  refine ht_bd (ht_rc c11 ?_)
  refine ht_bd (r_isFull c11 W.g13 h12 ht (fun hfi => ?_) (fun hfi => ?_))
  rotate_left
  · rw [if_neg (by decide)]
    exact ht_ret (q2 hn (Or.inr (Or.inr (by omega))))
  rw [if_pos rfl]
  refine ht_bd (ht_ga c7 (x := some 8) rfl ?_)
  refine ht_bd (ht_rc c8 ?_)
  refine ht_bd (r_insert (by decide) (by decide) (by decide) (by decide) c8 W.g9 W.g10 h9 hf (by omega) hfo fun L1 L2 k9 k10 e1 e2 e3 hp => ?_)
  have m7 : ((M.set 9 k9).set 10 k10)[7]? = some (.inr (5, [.ref 8, .ref 11, .int (Int32.ofNat S.length)])) := by rw [z_go (by decide), z_go (by decide)]; exact c7
  have m11 : ((M.set 9 k9).set 10 k10)[11]? = some (.inr (1, [.ref 12, .ref 13])) := by rw [z_go (by decide), z_go (by decide)]; exact c11
  have m12 : ((M.set 9 k9).set 10 k10)[12]? = some (g 12) := by rw [z_go (by decide), z_go (by decide)]; exact W.g12
  have m13 : ((M.set 9 k9).set 10 k10)[13]? = some (g 13) := by rw [z_go (by decide), z_go (by decide)]; exact W.g13
  refine ht_bd (ht_ga m7 (x := some 11) rfl ?_)
  refine ht_bd (ht_ret ?_)
  rw [n_16]
  refine ht_bd (ht_rc m11 ?_)
  refine ht_bd (r_insert (by decide) (by decide) (by decide) (by decide) m11 m12 m13 h12 ht (by omega) hfi fun N1 N2 k12 k13 u1 u2 u3 hq => ?_)
  have w7 : ((((M.set 9 k9).set 10 k10).set 12 k12).set 13 k13)[7]? = some (.inr (5, [.ref 8, .ref 11, .int (Int32.ofNat S.length)])) := by rw [z_go (by decide), z_go (by decide)]; exact m7
  refine ht_bd (ht_gi w7 rfl ?_)
  refine ht_bd (ht_pf (by decide) w7 (by simp) ?_)
  refine ht_ret (q1 _ _ hn (fun hfu => ?_) (W.graph (c7 := .inr (5, [.ref 8, .ref 11, .int (Int32.ofNat S.length + 1)])) (c9 := k9) (c10 := k10) (c12 := k12) (c13 := k13)) (fun S' hS' hlen => ?_))
  · rcases hfu with e | e | e
    · exact h60 e
    · omega
    · omega
  · refine ⟨_, _, ?_, h8, h11, hp, hq, ?_, ?_⟩
    · show Sum.inr (5, [Value.ref 8, Value.ref 11, Value.int (Int32.ofNat S.length + 1)]) = _
      rw [hlen, n_s]
    · intro v hv
      obtain ⟨v1, v2, v3⟩ := hR.1 v hv
      unfold r_upd
      by_cases e : v = f
      · subst e
        rw [if_pos rfl]
        refine ⟨ins_pw (by rw [← e1]; exact v1) (by rw [← e1]; exact hno) e2 e3, fun k hk => ?_, fun k hk => ?_⟩
        · rcases List.mem_append.mp hk with h | h
          · exact v2 k (by rw [e1]; exact List.mem_append_left _ h)
          · rcases List.mem_cons.mp h with h | h
            · rw [h]; omega
            · exact v2 k (by rw [e1]; exact List.mem_append_right _ h)
        · rw [hS', ← v3 k hk, e1]
          simp only [List.mem_append, List.mem_cons]
          constructor
          · rintro (h | h | h)
            · exact Or.inl (Or.inl h)
            · right; rw [h]; omega
            · exact Or.inl (Or.inr h)
          · rintro ((h | h) | h)
            · exact Or.inl h
            · exact Or.inr (Or.inr h)
            · right; left; omega
      · rw [if_neg e]
        refine ⟨v1, v2, fun k hk => ?_⟩
        rw [hS', ← v3 k hk]
        exact ⟨Or.inl, fun h => h.resolve_right (by omega)⟩
    · intro v hv
      obtain ⟨v1, v2, v3⟩ := hR.2 v hv
      unfold r_upd
      by_cases e : v = t
      · subst e
        rw [if_pos rfl]
        have hni : l * 16 + f ∉ ri v := fun h => hn (hmi.mp h)
        refine ⟨ins_pw (by rw [← u1]; exact v1) (by rw [← u1]; exact hni) u2 u3, fun k hk => ?_, fun k hk => ?_⟩
        · rcases List.mem_append.mp hk with h | h
          · exact v2 k (by rw [u1]; exact List.mem_append_left _ h)
          · rcases List.mem_cons.mp h with h | h
            · rw [h]; omega
            · exact v2 k (by rw [u1]; exact List.mem_append_right _ h)
        · rw [hS', ← v3 k hk, u1]
          simp only [List.mem_append, List.mem_cons]
          constructor
          · rintro (h | h | h)
            · exact Or.inl (Or.inl h)
            · right; rw [h]; omega
            · exact Or.inl (Or.inr h)
          · rintro ((h | h) | h)
            · exact Or.inl h
            · exact Or.inr (Or.inr h)
            · right; left; omega
      · rw [if_neg e]
        refine ⟨v1, v2, fun k hk => ?_⟩
        rw [hS', ← v3 k hk]
        exact ⟨Or.inl, fun h => h.resolve_right (by omega)⟩
end GR
