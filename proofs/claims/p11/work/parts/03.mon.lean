/-! THE PURE PICTURE: a memory is a list of cells (an array: its kind and its elements; an object: its class's number and its fields); a program is a function on it that may fail; it never shrinks. -/
abbrev zC : Type := (Nat × List Value) ⊕ (Nat × List Value)
abbrev zM : Type := List zC
def zn (c : zC) : Nat := match c with
  | .inl a => a.2.length
  | .inr o => o.2.length
def zsz (M : zM) : Nat := (M.map zn).sum
def zgr (M M' : zM) : Prop := M.length ≤ M'.length ∧ zsz M ≤ zsz M'
theorem zgr_rf (M : zM) : zgr M M := ⟨Nat.le_refl _, Nat.le_refl _⟩
theorem zgr_tr {A B C : zM} (h : zgr A B) (k : zgr B C) : zgr A C := ⟨Nat.le_trans h.1 k.1, Nat.le_trans h.2 k.2⟩
theorem zsz_push (M : zM) (c : zC) : zsz (M ++ [c]) = zsz M + zn c := by simp [zsz]
theorem zgr_push (M : zM) (c : zC) : zgr M (M ++ [c]) := ⟨by simp, by rw [zsz_push]; omega⟩
theorem zsz_set : ∀ (M : zM) (a : Nat) (c c' : zC), M[a]? = some c → zn c' = zn c → zsz (M.set a c') = zsz M := by
  intro M
  induction M with
  | nil => intro a c c' h; simp at h
  | cons x M ih =>
    intro a c c' h hn
    cases a with
    | zero =>
      simp at h
      subst h
      simp [zsz, hn]
    | succ a =>
      have h' : M[a]? = some c := by simpa using h
      have := ih a c c' h' hn
      simp only [zsz, List.set_cons_succ, List.map_cons, List.sum_cons] at this ⊢
      omega
theorem zgr_set {M : zM} {a : Nat} {c c' : zC} (h : M[a]? = some c) (hn : zn c' = zn c) : zgr M (M.set a c') := ⟨by simp, by rw [zsz_set M a c c' h hn]; exact Nat.le_refl _⟩
def zMn (α : Type) : Type := { f : zM → Option (α × zM) // ∀ M r, f M = some r → zgr M r.2 }
def z_ret {α : Type} (a : α) : zMn α := ⟨fun M => some (a, M), fun M r h => by cases h; exact zgr_rf M⟩
def z_no {α : Type} : zMn α := ⟨fun _ => none, fun _ _ h => by cases h⟩
theorem z_bd_gr {α β : Type} (x : zMn α) (f : α → zMn β) (M : zM) (r : β × zM) (h : (x.1 M).bind (fun q => (f q.1).1 q.2) = some r) : zgr M r.2 := by
  cases hx : x.1 M with
  | none => rw [hx] at h; cases h
  | some q => rw [hx] at h; exact zgr_tr (x.2 M q hx) ((f q.1).2 q.2 r h)
def z_bd {α β : Type} (x : zMn α) (f : α → zMn β) : zMn β := ⟨fun M => (x.1 M).bind (fun q => (f q.1).1 q.2), z_bd_gr x f⟩
theorem z_bd_inv {α β : Type} {x : zMn α} {f : α → zMn β} {M : zM} {r : β × zM} (h : (z_bd x f).1 M = some r) : ∃ q, x.1 M = some q ∧ (f q.1).1 q.2 = some r := by
  cases hx : x.1 M with
  | none =>
    have h' : (x.1 M).bind (fun q => (f q.1).1 q.2) = some r := h
    rw [hx] at h'; cases h'
  | some q =>
    have h' : (x.1 M).bind (fun q => (f q.1).1 q.2) = some r := h
    rw [hx] at h'; exact ⟨q, rfl, h'⟩
theorem z_bd_eq {α β : Type} {x : zMn α} {f : α → zMn β} {M M' : zM} {a : α} (h : x.1 M = some (a, M')) : (z_bd x f).1 M = (f a).1 M' := by
  show (x.1 M).bind (fun q => (f q.1).1 q.2) = _
  rw [h]; rfl
theorem z_bd_ret {α β : Type} {a : α} {f : α → zMn β} {M : zM} : (z_bd (z_ret a) f).1 M = (f a).1 M := rfl
theorem z_ret_1 {α : Type} {a : α} {M : zM} : (z_ret a).1 M = some (a, M) := rfl
theorem z_if {α : Type} {P : Prop} [Decidable P] {x y : zMn α} {M : zM} : (if P then x else y).1 M = if P then x.1 M else y.1 M := by split <;> rfl
theorem z_ift {α : Type} {P : Prop} [Decidable P] {x y : zMn α} {M : zM} (h : P) : (if P then x else y).1 M = x.1 M := by rw [if_pos h]
theorem z_iff {α : Type} {P : Prop} [Decidable P] {x y : zMn α} {M : zM} (h : ¬ P) : (if P then x else y).1 M = y.1 M := by rw [if_neg h]
/-- a loop: at most n turns -/
def z_fix {σ ρ : Type} (body : (σ → zMn ρ) → σ → zMn ρ) : Nat → σ → zMn ρ := fun n => Nat.rec (fun _ => z_no) (fun _ ih => body ih) n
theorem z_fix_s {σ ρ : Type} (body : (σ → zMn ρ) → σ → zMn ρ) (n : Nat) (s : σ) : z_fix body (n + 1) s = body (z_fix body n) s := rfl
theorem z_fix_0 {σ ρ : Type} (body : (σ → zMn ρ) → σ → zMn ρ) (s : σ) : z_fix body 0 s = z_no := rfl
-- values
def z_int (v : Value) : Option Int32 := match v with
  | .int x => some x
  | _ => none
def z_lng (v : Value) : Option Int64 := match v with
  | .long x => some x
  | _ => none
def z_rf (v : Value) : Option (Option Nat) := match v with
  | .null => some none
  | .ref a => some (some a)
  | _ => none
theorem z_int_inv {v : Value} {x : Int32} (h : z_int v = some x) : v = .int x := by
  cases v <;> simp [z_int] at h
  rw [h]
theorem z_lng_inv {v : Value} {x : Int64} (h : z_lng v = some x) : v = .long x := by
  cases v <;> simp [z_lng] at h
  rw [h]
theorem z_rf_inv {v : Value} {x : Option Nat} (h : z_rf v = some x) : v = va_rf x := by
  cases v <;> simp [z_rf] at h <;> subst h <;> rfl
theorem z_rf_rf (x : Option Nat) : z_rf (va_rf x) = some x := by cases x <;> rfl
-- cells
def z_ob (M : zM) (v : Option Nat) (ci : Nat) : Option (List Value) := match v with
  | none => none
  | some a => match M[a]? with
    | some (.inr o) => if o.1 = ci then some o.2 else none
    | _ => none
def z_ar (M : zM) (v : Option Nat) : Option (Nat × List Value) := match v with
  | none => none
  | some a => match M[a]? with
    | some (.inl x) => some x
    | _ => none
theorem z_ob_inv {M : zM} {v : Option Nat} {ci : Nat} {fs : List Value} (h : z_ob M v ci = some fs) : ∃ a, v = some a ∧ M[a]? = some (.inr (ci, fs)) := by
  cases v with
  | none => cases h
  | some a =>
    refine ⟨a, rfl, ?_⟩
    unfold z_ob at h
    dsimp only at h
    split at h
    · rename_i o ho
      split at h
      · rename_i hc
        cases h
        rw [ho, ← hc]
      · cases h
    · cases h
theorem z_ob_eq {M : zM} {a ci : Nat} {fs : List Value} (h : M[a]? = some (.inr (ci, fs))) : z_ob M (some a) ci = some fs := by
  unfold z_ob
  dsimp only
  rw [h]
  simp
theorem z_ar_inv {M : zM} {v : Option Nat} {x : Nat × List Value} (h : z_ar M v = some x) : ∃ a, v = some a ∧ M[a]? = some (.inl x) := by
  cases v with
  | none => cases h
  | some a =>
    refine ⟨a, rfl, ?_⟩
    unfold z_ar at h
    dsimp only at h
    split at h
    · rename_i o ho
      cases h
      exact ho
    · cases h
theorem z_ar_eq {M : zM} {a : Nat} {x : Nat × List Value} (h : M[a]? = some (.inl x)) : z_ar M (some a) = some x := by
  unfold z_ar
  dsimp only
  rw [h]
/-- reads: the memory stays -/
def z_rd {α : Type} (g : zM → Option α) : zMn α := ⟨fun M => (g M).map fun x => (x, M), fun M r h => by
  dsimp only at h
  cases hg : g M with
  | none => rw [hg] at h; cases h
  | some x => rw [hg] at h; cases h; exact zgr_rf M⟩
theorem z_rd_inv {α : Type} {g : zM → Option α} {M : zM} {r : α × zM} (h : (z_rd g).1 M = some r) : ∃ x, g M = some x ∧ r = (x, M) := by
  have h' : (g M).map (fun x => (x, M)) = some r := h
  cases hg : g M with
  | none => rw [hg] at h'; cases h'
  | some x => rw [hg] at h'; cases h'; exact ⟨x, rfl, rfl⟩
theorem z_rd_eq {α : Type} {g : zM → Option α} {M : zM} {x : α} (h : g M = some x) : (z_rd g).1 M = some (x, M) := by
  show (g M).map (fun x => (x, M)) = _
  rw [h]; rfl
def z_nn (v : Option Nat) : zMn Nat := z_rd fun _ => v
def z_gi (v : Option Nat) (ci k : Nat) : zMn Int32 := z_rd fun M => (z_ob M v ci).bind fun fs => (fs[k]?).bind z_int
def z_ga (v : Option Nat) (ci k : Nat) : zMn (Option Nat) := z_rd fun M => (z_ob M v ci).bind fun fs => (fs[k]?).bind z_rf
def z_len (v : Option Nat) : zMn Int32 := z_rd fun M => (z_ar M v).map fun x => Int32.ofNat x.2.length
/-- kinds of arrays: 0 int[] made here, 1 the script, 2 the table of powers, 3 long[], 4 boolean[]; from 8 on arrays of objects of class k - 8 -/
def z_ki (k : Nat) : Bool := k < 3
def z_li (v : Option Nat) (i : Int32) : zMn Int32 := z_rd fun M => (z_ar M v).bind fun x => if z_ki x.1 = true ∧ ¬ i < 0 then (x.2[i.toNatClampNeg]?).bind z_int else none
def z_la (v : Option Nat) (i : Int32) : zMn (Option Nat) := z_rd fun M => (z_ar M v).bind fun x => if 8 ≤ x.1 ∧ ¬ i < 0 then (x.2[i.toNatClampNeg]?).bind z_rf else none
/-- how many of the first cells are given: the script and tables; nobody writes there -/
def z_g0 : Nat := 2
/-- a write into a cell: its size stays -/
def z_wr (g : zM → Option (Nat × zC)) : zMn Unit := ⟨fun M => (g M).bind fun q => match M[q.1]? with
    | some c => if zn q.2 = zn c ∧ z_g0 ≤ q.1 then some ((), M.set q.1 q.2) else none
    | none => none, fun M r h => by
  dsimp only at h
  cases hg : g M with
  | none => rw [hg] at h; cases h
  | some q =>
    rw [hg] at h
    simp only [Option.bind_some] at h
    split at h
    · rename_i c hc
      split at h
      · rename_i hn
        cases h
        exact zgr_set hc hn.1
      · cases h
    · cases h⟩
theorem z_wr_inv {g : zM → Option (Nat × zC)} {M : zM} {r : Unit × zM} (h : (z_wr g).1 M = some r) : ∃ a c c', g M = some (a, c') ∧ M[a]? = some c ∧ zn c' = zn c ∧ z_g0 ≤ a ∧ r = ((), M.set a c') := by
  have h' : ((g M).bind fun q => match M[q.1]? with
    | some c => if zn q.2 = zn c ∧ z_g0 ≤ q.1 then some ((), M.set q.1 q.2) else none
    | none => none) = some r := h
  cases hg : g M with
  | none => rw [hg] at h'; cases h'
  | some q =>
    rw [hg] at h'
    simp only [Option.bind_some] at h'
    split at h'
    · rename_i c hc
      split at h'
      · rename_i hn
        cases h'
        exact ⟨q.1, c, q.2, rfl, hc, hn.1, hn.2, rfl⟩
      · cases h'
    · cases h'
theorem z_wr_eq {g : zM → Option (Nat × zC)} {M : zM} {a : Nat} {c c' : zC} (h : g M = some (a, c')) (hc : M[a]? = some c) (hn : zn c' = zn c) (hg : z_g0 ≤ a) : (z_wr g).1 M = some ((), M.set a c') := by
  show ((g M).bind fun q => match M[q.1]? with
    | some c => if zn q.2 = zn c ∧ z_g0 ≤ q.1 then some ((), M.set q.1 q.2) else none
    | none => none) = _
  rw [h]
  simp only [Option.bind_some]
  rw [hc]
  simp only
  rw [if_pos ⟨hn, hg⟩]
def z_pf (v : Option Nat) (ci k : Nat) (x : Value) : zMn Unit := z_wr fun M => v.bind fun a => (z_ob M v ci).bind fun fs => if k < fs.length then some (a, .inr (ci, fs.set k x)) else none
def z_pi (v : Option Nat) (ci k : Nat) (x : Int32) : zMn Unit := z_pf v ci k (.int x)
def z_pb (v : Option Nat) (ci k : Nat) (x : Int32) : zMn Unit := if x = 0 ∨ x = 1 then z_pf v ci k (.int x) else z_no
def z_pa (v : Option Nat) (ci k : Nat) (x : Option Nat) : zMn Unit := z_pf v ci k (va_rf x)
def z_si (v : Option Nat) (i x : Int32) : zMn Unit := z_wr fun M => v.bind fun a => (z_ar M v).bind fun y => if y.1 = 0 ∧ ¬ i < 0 ∧ i.toNatClampNeg < y.2.length then some (a, .inl (y.1, y.2.set i.toNatClampNeg (.int x))) else none
def z_sa (v : Option Nat) (i : Int32) (x : Option Nat) : zMn Unit := z_wr fun M => v.bind fun a => (z_ar M v).bind fun y => if 8 ≤ y.1 ∧ ¬ i < 0 ∧ i.toNatClampNeg < y.2.length ∧ (x = none ∨ (z_ob M x (y.1 - 8)).isSome = true) then some (a, .inl (y.1, y.2.set i.toNatClampNeg (va_rf x))) else none
/-- a new cell: its address is the memory's length -/
def z_nw (c : zC) : zMn Nat := ⟨fun M => some (M.length, M ++ [c]), fun M r h => by cases h; exact zgr_push M c⟩
theorem z_nw_1 {c : zC} {M : zM} : (z_nw c).1 M = some (M.length, M ++ [c]) := rfl
def z_nwa (k : Nat) (d : Value) (n : Int32) : zMn Nat := if ¬ n < 0 ∧ n.toNatClampNeg ≤ 16777216 then z_nw (.inl (k, List.replicate n.toNatClampNeg d)) else z_no
def z_rb (x : Int32) : zMn Int32 := if x = 0 ∨ x = 1 then z_ret x else z_no
/-- a number behind the machine's division: the divisor isn't 0 -/
def z_ck (P : Prop) [Decidable P] : zMn Unit := if P then z_ret () else z_no
def z_N : Nat := 1048576
/-- a throw: one cell more, that nobody looks into -/
def z_thr : zMn Unit := z_bd (z_nw (.inr (999, List.replicate 6 .null))) fun _ => z_ret ()
