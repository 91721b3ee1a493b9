/-! RULES FOR THE PURE PROGRAMS: z_T x M Q: on M the program x answers, and the answer and the memory behind it are as Q says -/
def z_T {α : Type} (x : zMn α) (M : zM) (Q : α → zM → Prop) : Prop := ∃ r, x.1 M = some r ∧ Q r.1 r.2
theorem z_T.mono {α : Type} {x : zMn α} {M : zM} {Q Q' : α → zM → Prop} (h : z_T x M Q) (hq : ∀ a M', Q a M' → Q' a M') : z_T x M Q' := by
  obtain ⟨r, h1, h2⟩ := h
  exact ⟨r, h1, hq _ _ h2⟩
theorem ht_ret {α : Type} {a : α} {M : zM} {Q : α → zM → Prop} (q : Q a M) : z_T (z_ret a) M Q := ⟨(a, M), rfl, q⟩
theorem ht_bd {α β : Type} {x : zMn α} {f : α → zMn β} {M : zM} {Q : β → zM → Prop} (h : z_T x M fun a M' => z_T (f a) M' Q) : z_T (z_bd x f) M Q := by
  obtain ⟨⟨a, M'⟩, h1, r, h2, h3⟩ := h
  exact ⟨r, by rw [z_bd_eq h1]; exact h2, h3⟩
/-- a call: what is known of it, and what follows -/
theorem ht_call {α β : Type} {x : zMn α} {f : α → zMn β} {M : zM} {P : α → zM → Prop} {Q : β → zM → Prop} (h : z_T x M P) (k : ∀ a M', P a M' → z_T (f a) M' Q) : z_T (z_bd x f) M Q := ht_bd (h.mono k)
theorem ht_if {α : Type} {P : Prop} [Decidable P] {x y : zMn α} {M : zM} {Q : α → zM → Prop} (h1 : P → z_T x M Q) (h2 : ¬ P → z_T y M Q) : z_T (if P then x else y) M Q := by
  by_cases h : P
  · rw [if_pos h]; exact h1 h
  · rw [if_neg h]; exact h2 h
theorem ht_rd {α : Type} {g : zM → Option α} {M : zM} {Q : α → zM → Prop} {x : α} (h : g M = some x) (q : Q x M) : z_T (z_rd g) M Q := ⟨(x, M), z_rd_eq h, q⟩
theorem ht_wr {g : zM → Option (Nat × zC)} {M : zM} {Q : Unit → zM → Prop} {a : Nat} {c c' : zC} (h : g M = some (a, c')) (hc : M[a]? = some c) (hn : zn c' = zn c) (hg : z_g0 ≤ a) (q : Q () (M.set a c')) : z_T (z_wr g) M Q := ⟨((), M.set a c'), z_wr_eq h hc hn hg, q⟩
section ZH
variable {M : zM} {a ci k : Nat} {fs vs : List Value} {i : Int32}
theorem ht_gi {x : Int32} {Q : Int32 → zM → Prop} (h : M[a]? = some (.inr (ci, fs))) (hv : fs[k]? = some (.int x)) (q : Q x M) : z_T (z_gi (some a) ci k) M Q := ht_rd (x := x) (by rw [z_ob_eq h, Option.bind_some, hv]; rfl) q
theorem ht_gl {x : Int64} {Q : Int64 → zM → Prop} (h : M[a]? = some (.inr (ci, fs))) (hv : fs[k]? = some (.long x)) (q : Q x M) : z_T (z_gl (some a) ci k) M Q := ht_rd (x := x) (by rw [z_ob_eq h, Option.bind_some, hv]; rfl) q
theorem ht_ga {x : Option Nat} {Q : Option Nat → zM → Prop} (h : M[a]? = some (.inr (ci, fs))) (hv : fs[k]? = some (va_rf x)) (q : Q x M) : z_T (z_ga (some a) ci k) M Q := ht_rd (x := x) (by rw [z_ob_eq h, Option.bind_some, hv]; exact z_rf_rf x) q
theorem ht_rc {Q : Nat → zM → Prop} (h : M[a]? = some (.inr (ci, fs))) (q : Q a M) : z_T (z_rc (some a) ci) M Q := ht_rd (x := a) (by rw [Option.bind_some, z_ob_eq h]; rfl) q
theorem ht_len {Q : Int32 → zM → Prop} (h : M[a]? = some (.inl (k, vs))) (q : Q (Int32.ofNat vs.length) M) : z_T (z_len (some a)) M Q := ht_rd (x := Int32.ofNat vs.length) (by rw [z_ar_eq h]; rfl) q
theorem ht_li {x : Int32} {Q : Int32 → zM → Prop} (h : M[a]? = some (.inl (k, vs))) (hk : k < 3) (hi : ¬ i < 0) (hv : vs[i.toNatClampNeg]? = some (.int x)) (q : Q x M) : z_T (z_li (some a) i) M Q := ht_rd (x := x) (by rw [z_ar_eq h, Option.bind_some, if_pos ⟨by simp [z_ki, hk], hi⟩, hv]; rfl) q
theorem ht_la {x : Option Nat} {Q : Option Nat → zM → Prop} (h : M[a]? = some (.inl (k, vs))) (hk : 8 ≤ k) (hi : ¬ i < 0) (hv : vs[i.toNatClampNeg]? = some (va_rf x)) (q : Q x M) : z_T (z_la (some a) i) M Q := ht_rd (x := x) (by rw [z_ar_eq h, Option.bind_some, if_pos ⟨hk, hi⟩, hv]; exact z_rf_rf x) q
theorem ht_ll {x : Int64} {Q : Int64 → zM → Prop} (h : M[a]? = some (.inl (3, vs))) (hi : ¬ i < 0) (hv : vs[i.toNatClampNeg]? = some (.long x)) (q : Q x M) : z_T (z_ll (some a) i) M Q := ht_rd (x := x) (by rw [z_ar_eq h, Option.bind_some, if_pos ⟨rfl, hi⟩, hv]; rfl) q
theorem ht_lb {x : Int32} {Q : Int32 → zM → Prop} (h : M[a]? = some (.inl (4, vs))) (hi : ¬ i < 0) (hv : vs[i.toNatClampNeg]? = some (.int x)) (q : Q x M) : z_T (z_lb (some a) i) M Q := ht_rd (x := x) (by rw [z_ar_eq h, Option.bind_some, if_pos ⟨rfl, hi⟩, hv]; rfl) q
theorem ht_pf {v : Value} {Q : Unit → zM → Prop} (hg : z_g0 ≤ a) (h : M[a]? = some (.inr (ci, fs))) (hk : k < fs.length) (q : Q () (M.set a (.inr (ci, fs.set k v)))) : z_T (z_pf (some a) ci k v) M Q := ht_wr (a := a) (c := .inr (ci, fs)) (c' := .inr (ci, fs.set k v)) (by rw [Option.bind_some, z_ob_eq h, Option.bind_some, if_pos hk]) h (by simp [zn]) hg q
theorem ht_si {x : Int32} {Q : Unit → zM → Prop} (hg : z_g0 ≤ a) (h : M[a]? = some (.inl (0, vs))) (hi : ¬ i < 0) (hl : i.toNatClampNeg < vs.length) (q : Q () (M.set a (.inl (0, vs.set i.toNatClampNeg (.int x))))) : z_T (z_si (some a) i x) M Q := ht_wr (a := a) (c := .inl (0, vs)) (c' := .inl (0, vs.set i.toNatClampNeg (.int x))) (by rw [Option.bind_some, z_ar_eq h, Option.bind_some, if_pos ⟨rfl, hi, hl⟩]) h (by simp [zn]) hg q
theorem ht_slo {x : Int64} {Q : Unit → zM → Prop} (hg : z_g0 ≤ a) (h : M[a]? = some (.inl (3, vs))) (hi : ¬ i < 0) (hl : i.toNatClampNeg < vs.length) (q : Q () (M.set a (.inl (3, vs.set i.toNatClampNeg (.long x))))) : z_T (z_slo (some a) i x) M Q := ht_wr (a := a) (c := .inl (3, vs)) (c' := .inl (3, vs.set i.toNatClampNeg (.long x))) (by rw [Option.bind_some, z_ar_eq h, Option.bind_some, if_pos ⟨rfl, hi, hl⟩]) h (by simp [zn]) hg q
theorem ht_sb {x : Int32} {Q : Unit → zM → Prop} (hg : z_g0 ≤ a) (h : M[a]? = some (.inl (4, vs))) (hx : x = 0 ∨ x = 1) (hi : ¬ i < 0) (hl : i.toNatClampNeg < vs.length) (q : Q () (M.set a (.inl (4, vs.set i.toNatClampNeg (.int x))))) : z_T (z_sb (some a) i x) M Q := ht_wr (a := a) (c := .inl (4, vs)) (c' := .inl (4, vs.set i.toNatClampNeg (.int x))) (by rw [Option.bind_some, z_ar_eq h, Option.bind_some, if_pos ⟨⟨rfl, hx⟩, hi, hl⟩]) h (by simp [zn]) hg q
theorem ht_sa {x : Option Nat} {Q : Unit → zM → Prop} (hg : z_g0 ≤ a) (h : M[a]? = some (.inl (k, vs))) (hk : 8 ≤ k) (hi : ¬ i < 0) (hl : i.toNatClampNeg < vs.length) (hx : x = none ∨ (z_ob M x (k - 8)).isSome = true) (q : Q () (M.set a (.inl (k, vs.set i.toNatClampNeg (va_rf x))))) : z_T (z_sa (some a) i x) M Q := ht_wr (a := a) (c := .inl (k, vs)) (c' := .inl (k, vs.set i.toNatClampNeg (va_rf x))) (by rw [Option.bind_some, z_ar_eq h, Option.bind_some, if_pos ⟨hk, hi, hl, hx⟩]) h (by simp [zn]) hg q
theorem ht_nw {c : zC} {Q : Nat → zM → Prop} (q : Q M.length (M ++ [c])) : z_T (z_nw c) M Q := ⟨_, z_nw_1, q⟩
theorem ht_nwa {d : Value} {n : Int32} {Q : Nat → zM → Prop} (hn : ¬ n < 0) (hb : n.toNatClampNeg ≤ 16777216) (q : Q M.length (M ++ [.inl (k, List.replicate n.toNatClampNeg d)])) : z_T (z_nwa k d n) M Q := by
  unfold z_nwa
  rw [if_pos ⟨hn, hb⟩]
  exact ht_nw q
theorem ht_rb {x : Int32} {Q : Int32 → zM → Prop} (hx : x = 0 ∨ x = 1) (q : Q x M) : z_T (z_rb x) M Q := by
  unfold z_rb
  rw [if_pos hx]
  exact ht_ret q
theorem ht_ck {P : Prop} [Decidable P] {Q : Unit → zM → Prop} (h : P) (q : Q () M) : z_T (z_ck P) M Q := by
  unfold z_ck
  rw [if_pos h]
  exact ht_ret q
theorem ht_nn {Q : Nat → zM → Prop} (q : Q a M) : z_T (z_nn (some a)) M Q := ht_rd (x := a) rfl q
end ZH
/-- a loop: a measure that falls, below the turns that it may take -/
theorem ht_fix {σ ρ : Type} {body : (σ → zMn ρ) → σ → zMn ρ} {I : Nat → σ → zM → Prop} {Q : ρ → zM → Prop}
    (h : ∀ (n : Nat) (s : σ) (M : zM) (ih : σ → zMn ρ), I n s M → (∀ (n' : Nat) (s' : σ) (M' : zM), n' < n → I n' s' M' → z_T (ih s') M' Q) → z_T (body ih s) M Q) :
    ∀ (N n : Nat) (s : σ) (M : zM), n < N → I n s M → z_T (z_fix body N s) M Q := by
  intro N
  induction N with
  | zero => intro n s M hn; omega
  | succ N ihN =>
    intro n s M hn hI
    rw [z_fix_s]
    exact h n s M (z_fix body N) hI (fun n' s' M' hn' hI' => ihN n' s' M' (by omega) hI')
/-- memories -/
theorem z_gs {M : zM} {a : Nat} {c c' : zC} (h : M[a]? = some c) : (M.set a c')[a]? = some c' := by rw [List.getElem?_set_self (List.getElem?_eq_some_iff.mp h).1]
theorem z_go {M : zM} {a b : Nat} {c' : zC} (h : a ≠ b) : (M.set a c')[b]? = M[b]? := List.getElem?_set_ne h
theorem z_gp {M : zM} {a : Nat} {c c' : zC} (h : M[a]? = some c) : (M ++ [c'])[a]? = some c := by rw [List.getElem?_append_left (List.getElem?_eq_some_iff.mp h).1]; exact h
theorem z_gn {M : zM} {c' : zC} : (M ++ [c'])[M.length]? = some c' := by simp
