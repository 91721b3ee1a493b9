/-! THE CLASS's other -/
theorem srt_eq {A B : List Nat} (ha : A.Pairwise (· < ·)) (hb : B.Pairwise (· < ·)) (h : ∀ x, x ∈ A ↔ x ∈ B) : A = B := List.Perm.eq_of_pairwise (fun a b _ _ h1 h2 => by omega) ha hb ((List.perm_ext_iff_of_nodup (nd_lt ha) (nd_lt hb)).mpr h)
theorem oK_ro {S : List Nat} {ro ri : Nat → List Nat} (h : CR S ro ri) (hS : SOK S) {v : Nat} (hv : v < 16) {p1 : Int32} (h1 : ¬ p1 = 0) : oK S (Int32.ofNat v) p1 = ro v := by
  obtain ⟨g1, g2, g3⟩ := h.1 v hv
  refine srt_eq (List.Pairwise.filter _ List.pairwise_lt_range) g1 fun k => ?_
  unfold oK
  rw [List.mem_filter, List.mem_range]
  unfold oP
  rw [List.any_eq_true]
  constructor
  · rintro ⟨hk, x, hx, he⟩
    have hx2 := hS.2.2 x hx
    rw [if_neg h1, Bool.and_eq_true, decide_eq_true_eq, decide_eq_true_eq] at he
    have e1 := (n_e (by omega) (by omega)).mp he.1
    refine (g3 k hk).mpr ?_
    rw [show v * 128 + k = x by omega]
    exact hx
  · intro hk
    have hk2 := g2 k hk
    have hx := (g3 k hk2).mp hk
    refine ⟨hk2, v * 128 + k, hx, ?_⟩
    rw [if_neg h1, Bool.and_eq_true, decide_eq_true_eq, decide_eq_true_eq]
    exact ⟨by rw [show (v * 128 + k) / 128 = v by omega], by omega⟩
theorem oK_ri {S : List Nat} {ro ri : Nat → List Nat} (h : CR S ro ri) (hS : SOK S) {v : Nat} (hv : v < 16) : oK S (Int32.ofNat v) 0 = ri v := by
  obtain ⟨g1, g2, g3⟩ := h.2 v hv
  refine srt_eq (List.Pairwise.filter _ List.pairwise_lt_range) g1 fun k => ?_
  unfold oK
  rw [List.mem_filter, List.mem_range]
  unfold oP
  rw [List.any_eq_true]
  constructor
  · rintro ⟨hk, x, hx, he⟩
    have hx2 := hS.2.2 x hx
    rw [if_pos rfl, Bool.and_eq_true, decide_eq_true_eq, decide_eq_true_eq] at he
    have e1 := (n_e (by omega) (by omega)).mp he.1
    have e2 := he.2
    refine (g3 k hk).mpr ?_
    have hq : x / 128 < 16 := by omega
    have e3 : x / 128 * 128 + x / 16 % 8 * 16 + v = x := by omega
    have m1 : k % 16 = x / 128 := by
      clear e3 he
      generalize x / 128 = q at hq e2 ⊢
      generalize x / 16 % 8 = s at e2
      omega
    have m2 : k / 16 = x / 16 % 8 := by
      clear e3 he m1
      generalize x / 128 = q at hq e2
      generalize x / 16 % 8 = s at e2 ⊢
      omega
    rw [m1, m2, e3]
    exact hx
  · intro hk
    have hk2 := g2 k hk
    have hx := (g3 k hk2).mp hk
    refine ⟨hk2, k % 16 * 128 + k / 16 * 16 + v, hx, ?_⟩
    rw [if_pos rfl, Bool.and_eq_true, decide_eq_true_eq, decide_eq_true_eq]
    have hk8 : k / 16 < 8 := by omega
    have e1 : (k % 16 * 128 + k / 16 * 16 + v) / 128 = k % 16 := by
      generalize k % 16 = a
      generalize k / 16 = b at hk8 ⊢
      omega
    have e2 : (k % 16 * 128 + k / 16 * 16 + v) / 16 % 8 = k / 16 := by
      clear e1
      generalize k % 16 = a
      generalize k / 16 = b at hk8 ⊢
      omega
    exact ⟨by rw [show (k % 16 * 128 + k / 16 * 16 + v) % 16 = v by omega], by rw [e1, e2]; omega⟩
theorem oK_in {S : List Nat} (hS : SOK S) {p0 p1 : Int32} {k : Nat} (h : k ∈ oK S p0 p1) : ∃ v, v < 16 ∧ p0 = Int32.ofNat v := by
  unfold oK at h
  have h := (List.mem_filter.mp h).2
  unfold oP at h
  obtain ⟨x, hx, he⟩ := List.any_eq_true.mp h
  have hx2 := hS.2.2 x hx
  by_cases h1 : p1 = 0
  · rw [if_pos h1, Bool.and_eq_true, decide_eq_true_eq] at he
    exact ⟨x % 16, by omega, he.1⟩
  · rw [if_neg h1, Bool.and_eq_true, decide_eq_true_eq] at he
    exact ⟨x / 128, by omega, he.1⟩
theorem oK_4 {S : List Nat} {g : Nat → zC} (hC : CG S g) (hS : SOK S) (p0 p1 : Int32) : (oK S p0 p1).length ≤ 4 := by
  obtain ⟨ro, ri, -, -, -, r1, r2, hR⟩ := hC
  cases hL : oK S p0 p1 with
  | nil => exact Nat.zero_le _
  | cons k K =>
    obtain ⟨v, hv, rfl⟩ := oK_in hS (p0 := p0) (p1 := p1) (k := k) (by rw [hL]; exact List.mem_cons_self)
    rw [← hL]
    by_cases h1 : p1 = 0
    · subst h1
      rw [oK_ri hR hS hv]
      exact r2.len hv
    · rw [oK_ro hR hS hv h1]
      exact r1.len hv
/-- the graph's cells in any memory -/
def GM (g : Nat → zC) (M : zM) : Prop := M[2]? = some (.inr (10, [.ref 7, .ref 14, .ref 16, .ref 33, .ref 39])) ∧ ∀ i : Nat, 7 ≤ i → i ≤ 13 → M[i]? = some (g i)
section OT
variable {S : List Nat} {g : Nat → zC} {M : zM}
theorem hf_T {α β : Type} {x : zMn α} {f : α → zMn β} {M : zM} {P : α → zM → Prop} (h : z_T x M P) (k : ∀ a M', P a M' → (f a).1 M' = none) : (z_bd x f).1 M = none := by
  obtain ⟨⟨a, M'⟩, h1, h2⟩ := h
  rw [z_bd_eq h1]
  exact k a M' h2
theorem hf_n {α β : Type} {x : zMn α} {f : α → zMn β} {M : zM} (h : x.1 M = none) : (z_bd x f).1 M = none := by
  show (x.1 M).bind _ = none
  rw [h]; rfl
theorem ht_or1 {α : Type} {x y : zMn α} {M : zM} {Q : α → zM → Prop} (h : z_T x M Q) : z_T (z_or x y) M Q := by
  obtain ⟨r, h1, h2⟩ := h
  refine ⟨r, ?_, h2⟩
  show (match x.1 M with
    | some r => some r
    | none => y.1 M) = some r
  rw [h1]
theorem ht_or2 {α : Type} {x y : zMn α} {M : zM} {Q : α → zM → Prop} (hx : x.1 M = none) (h : z_T y M Q) : z_T (z_or x y) M Q := by
  obtain ⟨r, h1, h2⟩ := h
  refine ⟨r, ?_, h2⟩
  show (match x.1 M with
    | some r => some r
    | none => y.1 M) = some r
  rw [hx]
  exact h1
theorem o_row {p1 p0 : Int32} {v : Nat} (G : GM g M) (hC : CG S g) (hS : SOK S) (hv : v < 16) (hp0 : p0 = Int32.ofNat v) : ∃ (a ak ac : Nat) (r : Nat → List Nat), oK S p0 p1 = r v ∧ M[a]? = some (.inr (1, [.ref ak, .ref ac])) ∧ M[ak]? = some (g ak) ∧ M[ac]? = some (g ac) ∧ pRow r (g ak) (g ac) ∧ (∀ p2 : Int32, F_X10_other 2 p0 p1 p2 = z_bd (z_ret (g_in 16 p0)) fun x1 => if x1 = 0 then z_no else (z_bd (z_ga (some 2) 10 0) fun r4 => z_bd (z_ga r4 5 (if p1 = 0 then 1 else 0)) fun r5 => F_X10_other_38 2 p0 p2 r5)) ∧ (∀ p2 : Int32, F_X10_otherT 2 p0 p1 p2 = z_bd (z_ret (g_in 16 p0)) fun x1 => if x1 = 0 then z_thr else (z_bd (z_ga (some 2) 10 0) fun r4 => z_bd (z_ga r4 5 (if p1 = 0 then 1 else 0)) fun r5 => F_X10_otherT_38 2 p0 p2 r5)) ∧ ∃ s : Int32, M[7]? = some (.inr (5, [.ref 8, .ref 11, .int s])) ∧ a = (if p1 = 0 then 11 else 8) := by
  obtain ⟨ro, ri, c7, c8, c11, r1, r2, hR⟩ := hC
  have g7 := G.2 7 (by decide) (by decide)
  have g8 := G.2 8 (by decide) (by decide)
  have g11 := G.2 11 (by decide) (by decide)
  rw [c7] at g7
  rw [c8] at g8
  rw [c11] at g11
  subst hp0
  by_cases h1 : p1 = 0
  · subst h1
    refine ⟨11, 12, 13, ri, oK_ri hR hS hv, g11, G.2 12 (by decide) (by decide), G.2 13 (by decide) (by decide), r2, fun p2 => ?_, fun p2 => ?_, _, g7, by rw [if_pos rfl]⟩
    · unfold F_X10_other
      rw [e_n10, if_pos rfl, if_pos rfl]
    · unfold F_X10_otherT
      rw [e_n10, if_pos rfl, if_pos rfl]
  · refine ⟨8, 9, 10, ro, oK_ro hR hS hv h1, g8, G.2 9 (by decide) (by decide), G.2 10 (by decide) (by decide), r1, fun p2 => ?_, fun p2 => ?_, _, g7, by rw [if_neg h1]⟩
    · unfold F_X10_other
      rw [e_n10, if_neg h1, if_neg h1]
    · unfold F_X10_otherT
      rw [e_n10, if_neg h1, if_neg h1]
theorem g_in_v {v : Nat} (hv : v < 16) : ¬ g_in 16 (Int32.ofNat v) = 0 := by
  unfold g_in
  rw [if_neg (n_nn (by omega)), if_neg (fun e => by have := (n_le (a := 16) (by decide) (by omega)).mp e; omega)]
  decide
theorem o_yes (G : GM g M) (hC : CG S g) (hS : SOK S) {p0 p1 p2 : Int32} {i k : Nat} (hp2 : p2 = Int32.ofNat i) (hk : (oK S p0 p1)[i]? = some k) {Q : Int32 → zM → Prop} (q : Q (Int32.ofNat (k % 16)) M) : z_T (F_X10_other 2 p0 p1 p2) M Q := by
  have h4 := oK_4 hC hS p0 p1
  have hil := (List.getElem?_eq_some_iff.mp hk).1
  obtain ⟨v, hv, hp0⟩ := oK_in hS (List.mem_of_getElem? hk)
  obtain ⟨a, ak, ac, r, e1, ha, hak, hac, hr, hF, -, s, h7, ea⟩ := o_row (p1 := p1) G hC hS hv hp0
  have hk128 : k < 128 := by
    have := List.mem_of_getElem? hk
    unfold oK at this
    exact List.mem_range.mp (List.mem_filter.mp this).1
  rw [e1] at hk hil h4
  rw [hF]
  subst hp0 hp2
  refine ht_bd (ht_ret ?_)
  rw [if_neg (g_in_v hv)]
  refine ht_bd (ht_ga G.1 (x := some 7) rfl ?_)
  have go : z_T (F_X10_other_38 2 (Int32.ofNat v) (Int32.ofNat i) (some a)) M Q := by
    unfold F_X10_other_38 F_X5_otherOf
    rw [if_neg (n_nn (by omega))]
    refine ht_bd (ht_rc ha ?_)
    refine ht_bd (r_count ha hac hr hv ?_)
    rw [if_pos ((n_lt (by omega) (by omega)).mpr hil)]
    refine ht_bd (ht_rc ha ?_)
    refine ht_bd (r_key ha hak hr hv hk ?_)
    refine ht_bd (ht_ret ?_)
    rw [n_16m (by omega)]
    exact ht_ret q
  by_cases h1 : p1 = 0
  · rw [if_pos h1] at ea ⊢
    subst ea
    exact ht_bd (ht_ga h7 (x := some 11) rfl go)
  · rw [if_neg h1] at ea ⊢
    subst ea
    exact ht_bd (ht_ga h7 (x := some 8) rfl go)
abbrev o_junk : zC := .inr (999, List.replicate 6 .null)
theorem o_no (G : GM g M) (hC : CG S g) (hS : SOK S) {p0 p1 p2 : Int32} (hp : p2 < 0 ∨ Int32.ofNat (oK S p0 p1).length ≤ p2) : (F_X10_other 2 p0 p1 p2).1 M = none ∧ z_T (F_X10_otherT 2 p0 p1 p2) M fun _ M' => M' = M ++ [o_junk] := by
  have thr : z_T z_thr M fun _ M' => M' = M ++ [o_junk] := ht_bd (ht_nw (ht_ret rfl))
  by_cases h0 : g_in 16 p0 = 0
  · unfold F_X10_other F_X10_otherT
    rw [e_n10]
    refine ⟨?_, ht_bd (ht_ret ?_)⟩
    · show ((if g_in 16 p0 = 0 then z_no else _ : zMn Int32)).1 M = none
      rw [if_pos h0]; rfl
    · rw [if_pos h0]; exact thr
  obtain ⟨v, hv, hp0⟩ := g_in_ok (N := 16) (by decide) h0
  obtain ⟨a, ak, ac, r, e1, ha, hak, hac, hr, hF, hG, s, h7, ea⟩ := o_row (p1 := p1) G hC hS hv hp0
  have h4 := oK_4 hC hS p0 p1
  rw [e1] at hp h4
  rw [hF, hG]
  have n38 : (F_X10_other_38 2 p0 p2 (some a)).1 M = none := by
    unfold F_X10_other_38 F_X10_other_54
    by_cases hn : p2 < 0
    · rw [if_pos hn]; rfl
    rw [if_neg hn]
    have hle := hp.resolve_left hn
    refine hf_T (ht_rc (Q := fun b M' => b = a ∧ M' = M) ha ⟨rfl, rfl⟩) (fun b M' e => ?_)
    obtain ⟨rfl, rfl⟩ := e
    subst hp0
    refine hf_T (P := fun x M2 => x = Int32.ofNat (r v).length ∧ M2 = M') (r_count ha hac hr hv ⟨rfl, rfl⟩) (fun x M2 e => ?_)
    obtain ⟨rfl, rfl⟩ := e
    rw [if_neg (fun e => by have h1 := i_lt.mp e; have h2 := i_le.mp hle; omega)]
    rfl
  have t38 : z_T (F_X10_otherT_38 2 p0 p2 (some a)) M fun _ M' => M' = M ++ [o_junk] := by
    unfold F_X10_otherT_38 F_X10_otherT_54
    refine ht_if (fun _ => thr) (fun hn => ?_)
    have hle := hp.resolve_left hn
    subst hp0
    refine ht_bd (ht_rc ha ?_)
    refine ht_bd (r_count ha hac hr hv ?_)
    rw [if_neg (fun e => by have h1 := i_lt.mp e; have h2 := i_le.mp hle; omega)]
    exact thr
  refine ⟨?_, ht_bd (ht_ret ?_)⟩
  · show ((if g_in 16 p0 = 0 then z_no else _ : zMn Int32)).1 M = none
    rw [if_neg h0]
    refine hf_T (ht_ga (Q := fun b M' => b = some 7 ∧ M' = M) G.1 (x := some 7) rfl ⟨rfl, rfl⟩) (fun b M' e => ?_)
    obtain ⟨rfl, rfl⟩ := e
    by_cases h1 : p1 = 0
    · rw [if_pos h1] at ea ⊢
      subst ea
      refine hf_T (ht_ga (Q := fun b M2 => b = some 11 ∧ M2 = M') h7 (x := some 11) rfl ⟨rfl, rfl⟩) (fun b M2 e => ?_)
      obtain ⟨rfl, rfl⟩ := e
      exact n38
    · rw [if_neg h1] at ea ⊢
      subst ea
      refine hf_T (ht_ga (Q := fun b M2 => b = some 8 ∧ M2 = M') h7 (x := some 8) rfl ⟨rfl, rfl⟩) (fun b M2 e => ?_)
      obtain ⟨rfl, rfl⟩ := e
      exact n38
  · rw [if_neg h0]
    refine ht_bd (ht_ga G.1 (x := some 7) rfl ?_)
    by_cases h1 : p1 = 0
    · rw [if_pos h1] at ea ⊢
      subst ea
      exact ht_bd (ht_ga h7 (x := some 11) rfl t38)
    · rw [if_neg h1] at ea ⊢
      subst ea
      exact ht_bd (ht_ga h7 (x := some 8) rfl t38)
end OT
/-! SIZES of typed cells -/
theorem zs_le : ∀ {P : zM} {b : Nat}, (∀ c ∈ P, zn c ≤ b) → zsz P ≤ b * P.length
  | [], b, _ => by simp [zsz]
  | c :: P, b, h => by
    have h1 := h c List.mem_cons_self
    have h2 := zs_le (P := P) (b := b) (fun c' hc' => h c' (List.mem_cons_of_mem _ hc'))
    simp only [zsz, List.map_cons, List.sum_cons, List.length_cons] at h2 ⊢
    rw [Nat.mul_succ]
    omega
theorem pI_zn {n : Nat} {p : Int32 → Prop} {c : zC} (h : pI n p c) : zn c = n := by
  obtain ⟨vs, rfl, hl, -⟩ := h
  simp [zn, hl]
theorem okc_z {S : List Nat} {g : Nat → zC} {D : List Nat} (hC : CG S g) : ∀ {t : Nat} {c : zC}, okc g D t c → zn c ≤ 3200 ∧ (t = 0 ∨ t = 17 ∨ 69 ≤ t → zn c ≤ 525) := by
  obtain ⟨ro, ri, c7, c8, c11, r1, r2, -⟩ := hC
  obtain ⟨x1, x2⟩ := r1.gk
  obtain ⟨x3, x4⟩ := r2.gk
  intro t c h
  unfold okc at h
  split at h
  · subst h; exact ⟨by decide, fun _ => by decide⟩
  · subst h; exact ⟨by decide, fun e => by omega⟩
  · subst h; exact ⟨by decide, fun e => by omega⟩
  · obtain ⟨n, rfl, -⟩ := h; exact ⟨by simp [zn], fun e => by omega⟩
  · exact ⟨by rw [pI_zn h]; decide, fun e => by omega⟩
  · exact ⟨by rw [pI_zn h]; decide, fun e => by omega⟩
  · exact ⟨by rw [pI_zn h]; decide, fun e => by omega⟩
  · subst h; rw [c7]; exact ⟨by simp [zn], fun e => by omega⟩
  · subst h; rw [c8]; exact ⟨by simp [zn], fun e => by omega⟩
  · subst h; rw [pI_zn x1]; exact ⟨by decide, fun e => by omega⟩
  · subst h; rw [pI_zn x2]; exact ⟨by decide, fun e => by omega⟩
  · subst h; rw [c11]; exact ⟨by simp [zn], fun e => by omega⟩
  · subst h; rw [pI_zn x3]; exact ⟨by decide, fun e => by omega⟩
  · subst h; rw [pI_zn x4]; exact ⟨by decide, fun e => by omega⟩
  · obtain ⟨n, rfl, -⟩ := h; exact ⟨by simp [zn], fun e => by omega⟩
  · obtain ⟨es, rfl, hl, -⟩ := h; exact ⟨by simp [zn, hl], fun e => by omega⟩
  · subst h; exact ⟨by simp [zn], fun e => by omega⟩
  · obtain ⟨k, x, y, e, u, w, z, rfl, -⟩ := h; exact ⟨by simp [zn], fun _ => by simp [zn]⟩
  · obtain ⟨n, rfl, -⟩ := h; exact ⟨by simp [zn], fun e => by omega⟩
  · obtain ⟨n, rfl, -⟩ := h; exact ⟨by simp [zn], fun e => by omega⟩
  · exact ⟨by rw [pI_zn h]; decide, fun e => by omega⟩
  · exact ⟨by rw [pI_zn h]; decide, fun e => by omega⟩
  · exact ⟨by rw [pI_zn h]; decide, fun e => by omega⟩
  · exact ⟨by rw [pI_zn h]; decide, fun e => by omega⟩
  · obtain ⟨l, r, h', rfl, -⟩ := h; exact ⟨by simp [zn], fun e => by omega⟩
  · exact ⟨by rw [pI_zn h]; decide, fun e => by omega⟩
  · exact ⟨by rw [pI_zn h]; decide, fun e => by omega⟩
  · obtain ⟨n, o, l, s, rfl, -⟩ := h; exact ⟨by simp [zn], fun _ => by simp [zn]⟩
  · obtain ⟨ps, rfl, hl, -⟩ := h; exact ⟨by simp [zn]; omega, fun _ => by simp [zn]; omega⟩
  · obtain ⟨vs, rfl, hl⟩ := h; exact ⟨by simp [zn]; omega, fun _ => by simp [zn]; omega⟩
  · obtain ⟨w, pl, bg, o, i, r, rfl, -⟩ := h; exact ⟨by simp [zn], fun _ => by simp [zn]⟩
  · exact ⟨Nat.le_trans h (by decide), fun _ => h⟩
theorem gB_l : gB.length = 69 := by decide +kernel
theorem WX.sz {S : List Nat} {g : Nat → zC} {D : List Nat} {P : zM} (W : WX g D P) (hC : CG S g) : P.length = 69 + D.length ∧ zsz P ≤ 220800 + 525 * D.length := by
  have hl : P.length = 69 + D.length := by rw [← W.2, List.length_append, gB_l]
  have hcell : ∀ (i : Nat) (c : zC), P[i]? = some c → zn c ≤ 3200 ∧ (69 ≤ i → zn c ≤ 525) := by
    intro i c hi
    have hil : i < (gB ++ D).length := by rw [W.2]; exact (List.getElem?_eq_some_iff.mp hi).1
    have ht := List.getElem?_eq_getElem hil
    obtain ⟨htok, c', h1, h2⟩ := W.1.2 i _ ht
    rw [hi] at h1
    cases h1
    obtain ⟨k1, k2⟩ := okc_z hC h2
    refine ⟨k1, fun h69 => k2 ?_⟩
    rcases htok with e | e | e | e
    · right; right; omega
    · exact Or.inr (Or.inl e)
    · exact Or.inl e
    · right; right; omega
  refine ⟨hl, ?_⟩
  have e : zsz P = zsz (P.take 69) + zsz (P.drop 69) := by
    unfold zsz
    rw [← List.sum_append, ← List.map_append, List.take_append_drop]
  have h1 : zsz (P.take 69) ≤ 3200 * (P.take 69).length := zs_le fun c hc => by
    obtain ⟨i, hi, rfl⟩ := List.mem_iff_getElem.mp hc
    refine (hcell i _ ?_).1
    rw [List.getElem_take]
    exact List.getElem?_eq_getElem _
  have h2 : zsz (P.drop 69) ≤ 525 * (P.drop 69).length := zs_le fun c hc => by
    obtain ⟨i, hi, rfl⟩ := List.mem_iff_getElem.mp hc
    refine (hcell (69 + i) _ ?_).2 (by omega)
    rw [List.getElem_drop]
    exact List.getElem?_eq_getElem _
  rw [List.length_take, hl] at h1
  rw [List.length_drop, hl] at h2
  have : min 69 (69 + D.length) = 69 := by omega
  rw [this] at h1
  have : 69 + D.length - 69 = D.length := by omega
  rw [this] at h2
  omega
/-- blank cells of a typed picture -/
theorem WX.bl {g : Nat → zC} {D : List Nat} {P : zM} (W : WX g D P) {i : Nat} (h : i = 0 ∨ (42 ≤ i ∧ i < 69)) : P[i]? = some z_psn := by
  have ht : (gB ++ D)[i]? = some 0 := by
    rw [List.getElem?_append_left (by rw [gB_l]; omega)]
    rcases h with rfl | ⟨h1, h2⟩
    · rfl
    · unfold gB
      rw [List.getElem?_append_right (by simp; omega), List.getElem?_replicate, if_pos (by simp; omega)]
  obtain ⟨c, h1, h2⟩ := W.1.get ht
  have h2 : c = z_psn := h2
  rw [h1, h2]
theorem WX.gm {S : List Nat} {g : Nat → zC} {D : List Nat} {P M B : zM} {d : Nat} (W : WX g D P) (hC : CG S g) (hz : z_C B d P M) : GM g M := by
  obtain ⟨ro, ri, c7, c8, c11, r1, r2, -⟩ := hC
  have tag : ∀ i : Nat, i < 69 → (gB ++ D)[i]? = gB[i]? := fun i hi => List.getElem?_append_left (by rw [gB_l]; exact hi)
  refine ⟨?_, fun i h1 h2 => ?_⟩
  · obtain ⟨c, k1, k2⟩ := W.1.get (a := 2) (t := 2) (by rw [tag 2 (by decide)]; rfl)
    have k2 : c = .inr (10, [.ref 7, .ref 14, .ref 16, .ref 33, .ref 39]) := k2
    subst k2
    exact hz.at k1 (fun e => by cases e)
  · obtain ⟨c, k1, k2⟩ := W.1.get (tag713 h1 h2)
    have e : c = g i ∧ g i ≠ z_psn := by
      obtain ⟨_, _, q1, q2, -⟩ := r1
      obtain ⟨_, _, q3, q4, -⟩ := r2
      have : i = 7 ∨ i = 8 ∨ i = 9 ∨ i = 10 ∨ i = 11 ∨ i = 12 ∨ i = 13 := by omega
      rcases this with rfl | rfl | rfl | rfl | rfl | rfl | rfl
      · exact ⟨k2, by rw [c7]; exact fun e => by cases e⟩
      · exact ⟨k2, by rw [c8]; exact fun e => by cases e⟩
      · exact ⟨k2, by rw [q1]; exact fun e => by cases e⟩
      · exact ⟨k2, by rw [q2]; exact fun e => by cases e⟩
      · exact ⟨k2, by rw [c11]; exact fun e => by cases e⟩
      · exact ⟨k2, by rw [q3]; exact fun e => by cases e⟩
      · exact ⟨k2, by rw [q4]; exact fun e => by cases e⟩
    obtain ⟨rfl, hne⟩ := e
    exact hz.at k1 hne
