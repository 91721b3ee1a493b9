/-! THE REFERENCE's MEMORY, TYPED: the cells that only arc, expression and shape write stand exactly (h) -/
def pB (n : Nat) (c : zC) : Prop := ∃ vs : List Int32, c = .inl (4, vs.map .int) ∧ vs.length = n ∧ ∀ v ∈ vs, v = 0 ∨ v = 1
def pL (n : Nat) (c : zC) : Prop := ∃ vs : List Int64, c = .inl (3, vs.map .long) ∧ vs.length = n
def okr (h : Nat → zC) (i : Nat) : zC → Prop :=
  if i = 52 then pI 16 (rg 0 65535) else if i = 56 then pB 80000 else if i = 57 then pB 60 else if i = 58 then pI 60 (rg 0 59) else if i = 59 then pI 4 (fun _ => True) else if i = 60 then pI 60 (rg 0 59) else if i = 61 then pB 1300 else if i = 62 then pB 1300 else if i = 63 then pB 78000 else if i = 64 then pB 60 else if i = 65 then pL 1300 else if i = 66 then pL 1300 else if i = 67 then pI 16 (rg 0 65535) else fun c => c = h i
def RT (h : Nat → zC) (o : List Value) (M : zM) : Prop := M[42]? = some (.inr (11, o)) ∧ ∀ i, 43 ≤ i → i ≤ 67 → ∃ c, M[i]? = some c ∧ okr h i c
section RTs
variable {h : Nat → zC} {o : List Value} {M : zM}
theorem RT.ob (R : RT h o M) {o' : List Value} : RT h o' (M.set 42 (.inr (11, o'))) := by
  refine ⟨z_gs R.1, fun i h1 h2 => ?_⟩
  obtain ⟨c, hc, hk⟩ := R.2 i h1 h2
  exact ⟨c, by rw [z_go (by omega)]; exact hc, hk⟩
theorem RT.set (R : RT h o M) {i : Nat} {c' : zC} (h1 : 43 ≤ i) (h2 : i ≤ 67) (hc : okr h i c') : RT h o (M.set i c') := by
  refine ⟨by rw [z_go (by omega)]; exact R.1, fun j j1 j2 => ?_⟩
  by_cases e : i = j
  · subst e
    obtain ⟨c, k1, -⟩ := R.2 i h1 h2
    exact ⟨c', z_gs k1, hc⟩
  · obtain ⟨c, k1, k2⟩ := R.2 j j1 j2
    exact ⟨c, by rw [z_go e]; exact k1, k2⟩
/-- an exact cell -/
theorem RT.ex (R : RT h o M) {i : Nat} (h1 : 43 ≤ i) (h2 : i ≤ 67) (hx : okr h i = fun c => c = h i) : M[i]? = some (h i) := by
  obtain ⟨c, hc, hk⟩ := R.2 i h1 h2
  rw [hx] at hk
  rw [hc]; exact congrArg some hk
theorem RT.ar (R : RT h o M) {i n : Nat} {p : Int32 → Prop} (h1 : 43 ≤ i) (h2 : i ≤ 67) (hx : okr h i = pI n p) : ∃ c, M[i]? = some c ∧ pI n p c := by
  obtain ⟨c, hc, hk⟩ := R.2 i h1 h2
  rw [hx] at hk
  exact ⟨c, hc, hk⟩
theorem RT.bo (R : RT h o M) {i n : Nat} (h1 : 43 ≤ i) (h2 : i ≤ 67) (hx : okr h i = pB n) : ∃ c, M[i]? = some c ∧ pB n c := by
  obtain ⟨c, hc, hk⟩ := R.2 i h1 h2
  rw [hx] at hk
  exact ⟨c, hc, hk⟩
theorem RT.lo (R : RT h o M) {i n : Nat} (h1 : 43 ≤ i) (h2 : i ≤ 67) (hx : okr h i = pL n) : ∃ c, M[i]? = some c ∧ pL n c := by
  obtain ⟨c, hc, hk⟩ := R.2 i h1 h2
  rw [hx] at hk
  exact ⟨c, hc, hk⟩
theorem nlt0 {i : Int32} (h0 : 0 ≤ i.toInt) : ¬ i < 0 := fun e => by have := Int32.lt_iff_toInt_lt.mp e; have e0 : (0 : Int32).toInt = 0 := rfl; omega
theorem tr_si {n i : Nat} {p : Int32 → Prop} {k x : Int32} {Q : Unit → zM → Prop} (R : RT h o M) (h1 : 43 ≤ i) (h2 : i ≤ 67) (hx : okr h i = pI n p) (k0 : 0 ≤ k.toInt) (k1 : k.toInt < n) (hp : p x) (q : ∀ M', RT h o M' → (∀ b, b ≠ i → M'[b]? = M[b]?) → Q () M') : z_T (z_si (some i) k x) M Q := by
  obtain ⟨c, hc, vs, rfl, hl, hv⟩ := R.ar h1 h2 hx
  have hi : k.toNatClampNeg < vs.length := by show k.toInt.toNat < _; omega
  refine ht_si (Nat.le_trans (by decide) h1) hc (nlt0 k0) (by rw [List.length_map]; exact hi) ?_
  exact q _ (R.set h1 h2 (by rw [hx]; exact pI_set hl hv hp)) (fun b hb => z_go (fun e => hb e.symm))
theorem tr_lb {n i : Nat} {k : Int32} {Q : Int32 → zM → Prop} (R : RT h o M) (h1 : 43 ≤ i) (h2 : i ≤ 67) (hx : okr h i = pB n) (k0 : 0 ≤ k.toInt) (k1 : k.toInt < n) (q : ∀ x, x = 0 ∨ x = 1 → Q x M) : z_T (z_lb (some i) k) M Q := by
  obtain ⟨c, hc, vs, rfl, hl, hv⟩ := R.bo h1 h2 hx
  have hi : k.toNatClampNeg < vs.length := by show k.toInt.toNat < _; omega
  exact ht_lb hc (nlt0 k0) (x := vs[k.toNatClampNeg]) (by rw [List.getElem?_map, List.getElem?_eq_getElem hi]; rfl) (q _ (hv _ (List.getElem_mem hi)))
theorem tr_sb {n i : Nat} {k x : Int32} {Q : Unit → zM → Prop} (R : RT h o M) (h1 : 43 ≤ i) (h2 : i ≤ 67) (hx : okr h i = pB n) (k0 : 0 ≤ k.toInt) (k1 : k.toInt < n) (hp : x = 0 ∨ x = 1) (q : ∀ M', RT h o M' → (∀ b, b ≠ i → M'[b]? = M[b]?) → Q () M') : z_T (z_sb (some i) k x) M Q := by
  obtain ⟨c, hc, vs, rfl, hl, hv⟩ := R.bo h1 h2 hx
  have hi : k.toNatClampNeg < vs.length := by show k.toInt.toNat < _; omega
  refine ht_sb (Nat.le_trans (by decide) h1) hc hp (nlt0 k0) (by rw [List.length_map]; exact hi) ?_
  refine q _ (R.set h1 h2 ?_) (fun b hb => z_go (fun e => hb e.symm))
  rw [hx]
  refine ⟨vs.set k.toNatClampNeg x, by rw [List.map_set], by simpa using hl, fun v hv' => ?_⟩
  rcases List.mem_or_eq_of_mem_set hv' with e | e
  · exact hv v e
  · rw [e]; exact hp
theorem tr_ll {n i : Nat} {k : Int32} {Q : Int64 → zM → Prop} (R : RT h o M) (h1 : 43 ≤ i) (h2 : i ≤ 67) (hx : okr h i = pL n) (k0 : 0 ≤ k.toInt) (k1 : k.toInt < n) (q : ∀ x, Q x M) : z_T (z_ll (some i) k) M Q := by
  obtain ⟨c, hc, vs, rfl, hl⟩ := R.lo h1 h2 hx
  have hi : k.toNatClampNeg < vs.length := by show k.toInt.toNat < _; omega
  exact ht_ll hc (nlt0 k0) (x := vs[k.toNatClampNeg]) (by rw [List.getElem?_map, List.getElem?_eq_getElem hi]; rfl) (q _)
theorem tr_slo {n i : Nat} {k : Int32} {x : Int64} {Q : Unit → zM → Prop} (R : RT h o M) (h1 : 43 ≤ i) (h2 : i ≤ 67) (hx : okr h i = pL n) (k0 : 0 ≤ k.toInt) (k1 : k.toInt < n) (q : ∀ M', RT h o M' → (∀ b, b ≠ i → M'[b]? = M[b]?) → Q () M') : z_T (z_slo (some i) k x) M Q := by
  obtain ⟨c, hc, vs, rfl, hl⟩ := R.lo h1 h2 hx
  have hi : k.toNatClampNeg < vs.length := by show k.toInt.toNat < _; omega
  refine ht_slo (Nat.le_trans (by decide) h1) hc (nlt0 k0) (by rw [List.length_map]; exact hi) ?_
  refine q _ (R.set h1 h2 ?_) (fun b hb => z_go (fun e => hb e.symm))
  rw [hx]
  exact ⟨vs.set k.toNatClampNeg x, by rw [List.map_set], by simpa using hl⟩
/-! expressions: what each may say -/
def EXO (ks as bs : List Int32) (n : Nat) : Prop := ks.length = 60 ∧ as.length = 60 ∧ bs.length = 60 ∧ n ≤ 60 ∧ ∀ k, k < n → ∃ x a b : Int32, ks[k]? = some x ∧ as[k]? = some a ∧ bs[k]? = some b ∧ rg 0 5 x ∧ (2 ≤ x.toInt → x.toInt ≤ 4 → 0 ≤ a.toInt ∧ a.toInt < k) ∧ (2 ≤ x.toInt → x.toInt ≤ 3 → 0 ≤ b.toInt ∧ b.toInt < k) ∧ (x.toInt ≤ 1 → rg (-1) 15 b)
theorem EXO.add {ks as bs : List Int32} {n : Nat} (H : EXO ks as bs n) (hn : n < 60) {x a b : Int32} (hx : rg 0 5 x) (h1 : 2 ≤ x.toInt → x.toInt ≤ 4 → 0 ≤ a.toInt ∧ a.toInt < n) (h2 : 2 ≤ x.toInt → x.toInt ≤ 3 → 0 ≤ b.toInt ∧ b.toInt < n) (h3 : x.toInt ≤ 1 → rg (-1) 15 b) : EXO (ks.set n x) (as.set n a) (bs.set n b) (n + 1) := by
  obtain ⟨l1, l2, l3, l4, K⟩ := H
  refine ⟨by simpa using l1, by simpa using l2, by simpa using l3, by omega, fun k hk => ?_⟩
  by_cases e : k = n
  · subst e
    exact ⟨x, a, b, List.getElem?_set_self (by omega), List.getElem?_set_self (by omega), List.getElem?_set_self (by omega), hx, h1, h2, h3⟩
  · obtain ⟨x', a', b', k1, k2, k3, k4⟩ := K k (by omega)
    exact ⟨x', a', b', by rw [List.getElem?_set_ne (fun e' => e e'.symm)]; exact k1, by rw [List.getElem?_set_ne (fun e' => e e'.symm)]; exact k2, by rw [List.getElem?_set_ne (fun e' => e e'.symm)]; exact k3, k4⟩
end RTs
