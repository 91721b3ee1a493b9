/-! THE CLASS'S MEMORY, TYPED: tags say what each cell holds; D: the tags of the cells made later (100 a place, 101 an array of places, 102 an int[], 103 an expression); g: the graph's cells, exactly -/
def rg (lo hi : Int) (v : Int32) : Prop := lo ≤ v.toInt ∧ v.toInt ≤ hi
def pI (n : Nat) (p : Int32 → Prop) (c : zC) : Prop := ∃ vs : List Int32, c = .inl (0, vs.map .int) ∧ vs.length = n ∧ ∀ v ∈ vs, p v
def pTab (e : Nat) (c : zC) : Prop := ∃ n : Int32, c = .inr (2, [.ref (e + 1), .ref (e + 2), .ref (e + 3), .int n]) ∧ rg 0 525 n
def gB : List Nat := [0, 1, 2, 3, 4, 5, 6, 7, 8, 9, 10, 11, 12, 13, 14, 15, 16, 17, 17, 17, 17, 17, 17, 17, 17, 17, 17, 17, 17, 17, 17, 17, 17, 33, 34, 35, 36, 37, 38, 39, 40, 41] ++ List.replicate 27 0
def pShape (D : List Nat) (c : zC) : Prop := ∃ (k x y : Int32) (e : Option Nat) (u w z : Int32), c = .inr (8, [.int k, .int x, .int y, va_rf e, .int u, .int w, .int z]) ∧ rg 0 1 w ∧ (k = 1 ∨ k = 2 ∨ k = 3 → rg 0 15 x) ∧ (k = 1 ∨ k = 2 → rg 0 15 y) ∧ ∀ a, e = some a → (gB ++ D)[a]? = some 103
def pPlace (c : zC) : Prop := ∃ n o l s : Int32, c = .inr (7, [.int n, .int o, .int l, .int s]) ∧ rg 0 1 o ∧ rg 0 7 l ∧ rg (-1) 15 s
def pPlaces (D : List Nat) (c : zC) : Prop := ∃ ps : List Nat, c = .inl (15, ps.map .ref) ∧ ps.length ≤ 5 ∧ ∀ a ∈ ps, (gB ++ D)[a]? = some 100
def pBags (c : zC) : Prop := ∃ vs : List Int32, c = .inl (0, vs.map .int) ∧ vs.length ≤ 525
def pExpr (D : List Nat) (c : zC) : Prop := ∃ (w : Int32) (pl bg : Nat) (o i r : Int32), c = .inr (3, [.int w, .ref pl, .ref bg, .int o, .int i, .int r]) ∧ rg 0 1 w ∧ (gB ++ D)[pl]? = some 101 ∧ (gB ++ D)[bg]? = some 102
def okc (g : Nat → zC) (D : List Nat) : Nat → zC → Prop
  | 0 => fun c => c = z_psn
  | 1 => fun c => c = .inl (2, zP)
  | 2 => fun c => c = .inr (10, [.ref 7, .ref 14, .ref 16, .ref 33, .ref 39])
  | 3 => pTab 3
  | 4 => pI 3125 (rg 0 525)
  | 5 => pI 525 (fun v => (v &&& 16383).toInt < 3125)
  | 6 => pI 525 (fun _ => True)
  | 7 => fun c => c = g 7
  | 8 => fun c => c = g 8
  | 9 => fun c => c = g 9
  | 10 => fun c => c = g 10
  | 11 => fun c => c = g 11
  | 12 => fun c => c = g 12
  | 13 => fun c => c = g 13
  | 14 => fun c => ∃ n : Int32, c = .inr (4, [.ref 15, .ref 3, .int n]) ∧ rg 0 60 n
  | 15 => fun c => ∃ es : List (Option Nat), c = .inl (11, es.map va_rf) ∧ es.length = 60 ∧ ∀ a, some a ∈ es → (gB ++ D)[a]? = some 103
  | 16 => fun c => c = .inl (16, (List.range 16).map fun i => .ref (17 + i))
  | 17 => pShape D
  | 33 => fun c => ∃ n : Int32, c = .inr (6, [.ref 7, .ref 3, .ref 34, .ref 38, .int n]) ∧ rg 0 8 n
  | 34 => pTab 34
  | 35 => pI 3125 (rg 0 525)
  | 36 => pI 525 (fun v => (v &&& 16383).toInt < 3125)
  | 37 => pI 525 (fun _ => True)
  | 38 => pI 8 (fun _ => True)
  | 39 => fun c => ∃ l r h : Int32, c = .inr (9, [.ref 16, .ref 33, .ref 40, .ref 41, .int l, .int r, .int h]) ∧ rg 0 1 r ∧ rg 0 1 h
  | 40 => pI 16 (fun _ => True)
  | 41 => pI 16 (fun _ => True)
  | 100 => pPlace
  | 101 => pPlaces D
  | 102 => pBags
  | 103 => pExpr D
  | _ => fun c => zn c ≤ 525
def tok (i t : Nat) : Prop := i = t ∨ t = 17 ∨ t = 0 ∨ 100 ≤ t
def WT (g : Nat → zC) (D : List Nat) (M : zM) : Prop := (gB ++ D).length ≤ M.length ∧ ∀ (i t : Nat), (gB ++ D)[i]? = some t → tok i t ∧ ∃ c, M[i]? = some c ∧ okc g D t c
section WTs
variable {g : Nat → zC} {D : List Nat} {M : zM}
theorem WT.get (W : WT g D M) {a t : Nat} (h : (gB ++ D)[a]? = some t) : ∃ c, M[a]? = some c ∧ okc g D t c := (W.2 a t h).2
theorem WT.set (W : WT g D M) {a t : Nat} {c' : zC} (h : (gB ++ D)[a]? = some t) (hc : okc g D t c') : WT g D (M.set a c') := by
  refine ⟨by simpa using W.1, fun i s hi => ⟨(W.2 i s hi).1, ?_⟩⟩
  by_cases e : a = i
  · subst e
    rw [h] at hi
    cases hi
    obtain ⟨c, h1, -⟩ := (W.2 a t h).2
    exact ⟨c', z_gs h1, hc⟩
  · obtain ⟨c, h1, h2⟩ := (W.2 i s hi).2
    exact ⟨c, by rw [z_go e]; exact h1, h2⟩
theorem WT.far (W : WT g D M) {a : Nat} {c' : zC} (h : (gB ++ D).length ≤ a) : WT g D (M.set a c') := by
  refine ⟨by simpa using W.1, fun i s hi => ⟨(W.2 i s hi).1, ?_⟩⟩
  obtain ⟨c, h1, h2⟩ := (W.2 i s hi).2
  have : i < (gB ++ D).length := (List.getElem?_eq_some_iff.mp hi).1
  exact ⟨c, by rw [z_go (by omega)]; exact h1, h2⟩
theorem WT.app (W : WT g D M) {c' : zC} : WT g D (M ++ [c']) := by
  refine ⟨by have := W.1; simp only [List.length_append] at this ⊢; omega, fun i s hi => ⟨(W.2 i s hi).1, ?_⟩⟩
  obtain ⟨c, h1, h2⟩ := (W.2 i s hi).2
  exact ⟨c, z_gp h1, h2⟩
/-- reading and writing an int[] -/
theorem ri_li {n : Nat} {p : Int32 → Prop} {a : Nat} {c : zC} {i : Int32} {Q : Int32 → zM → Prop} (hc : M[a]? = some c) (hp : pI n p c) (h0 : 0 ≤ i.toInt) (h1 : i.toInt < n) (q : ∀ x, p x → Q x M) : z_T (z_li (some a) i) M Q := by
  obtain ⟨vs, rfl, hl, hv⟩ := hp
  have hi : i.toNatClampNeg < vs.length := by show i.toInt.toNat < _; omega
  refine ht_li hc (by decide) (fun e => by have := Int32.lt_iff_toInt_lt.mp e; have e0 : (0 : Int32).toInt = 0 := rfl; omega) (x := vs[i.toNatClampNeg]) ?_ (q _ (hv _ (List.getElem_mem hi)))
  rw [List.getElem?_map, List.getElem?_eq_getElem hi]
  rfl
theorem pI_set {n : Nat} {p : Int32 → Prop} {vs : List Int32} {k : Nat} {x : Int32} (hl : vs.length = n) (hv : ∀ v ∈ vs, p v) (hx : p x) : pI n p (.inl (0, (vs.map Value.int).set k (.int x))) := by
  refine ⟨vs.set k x, by rw [List.map_set], by simpa using hl, fun v h => ?_⟩
  rcases List.mem_or_eq_of_mem_set h with e | e
  · exact hv v e
  · rw [e]; exact hx
theorem ri_si {n t : Nat} {p : Int32 → Prop} {a : Nat} {i x : Int32} {Q : Unit → zM → Prop} (W : WT g D M) (hg : (gB ++ D)[a]? = some t) (ht : okc g D t = pI n p) (ha : 2 ≤ a) (h0 : 0 ≤ i.toInt) (h1 : i.toInt < n) (hx : p x) (q : ∀ M', WT g D M' → M'.length = M.length → Q () M') : z_T (z_si (some a) i x) M Q := by
  obtain ⟨c, hc, hk⟩ := W.get hg
  rw [ht] at hk
  obtain ⟨vs, rfl, hl, hv⟩ := hk
  have hi : i.toNatClampNeg < vs.length := by show i.toInt.toNat < _; omega
  refine ht_si ha hc (fun e => by have := Int32.lt_iff_toInt_lt.mp e; have e0 : (0 : Int32).toInt = 0 := rfl; omega) (by rw [List.length_map]; exact hi) ?_
  refine q _ (W.set hg ?_) (by simp)
  rw [ht]
  exact pI_set hl hv hx
end WTs
/-- numbers by their values -/
theorem i_add {a b : Int32} (h1 : -2147483648 ≤ a.toInt + b.toInt) (h2 : a.toInt + b.toInt ≤ 2147483647) : (a + b).toInt = a.toInt + b.toInt := by
  rw [Int32.toInt_add, Int.bmod_eq_of_le (by omega) (by omega)]
theorem i_sub {a b : Int32} (h1 : -2147483648 ≤ a.toInt - b.toInt) (h2 : a.toInt - b.toInt ≤ 2147483647) : (a - b).toInt = a.toInt - b.toInt := by
  rw [Int32.toInt_sub, Int.bmod_eq_of_le (by omega) (by omega)]
theorem i_mul {a b : Int32} (h1 : -2147483648 ≤ a.toInt * b.toInt) (h2 : a.toInt * b.toInt ≤ 2147483647) : (a * b).toInt = a.toInt * b.toInt := by
  rw [Int32.toInt_mul, Int.bmod_eq_of_le (by omega) (by omega)]
theorem i_le {a b : Int32} : a ≤ b ↔ a.toInt ≤ b.toInt := Int32.le_iff_toInt_le
theorem i_lt {a b : Int32} : a < b ↔ a.toInt < b.toInt := Int32.lt_iff_toInt_lt
theorem i_nle {a b : Int32} : ¬ a ≤ b ↔ b.toInt < a.toInt := by rw [i_le]; omega
theorem i_nlt {a b : Int32} : ¬ a < b ↔ b.toInt ≤ a.toInt := by rw [i_lt]; omega
theorem i_s {a : Int32} (h : a.toInt < 2147483647) : (a + 1).toInt = a.toInt + 1 := i_add (b := 1) (by have : (1 : Int32).toInt = 1 := rfl; have := Int32.le_toInt a; omega) (by have : (1 : Int32).toInt = 1 := rfl; omega)
theorem i_ne {a b : Int32} : ¬ a = b ↔ a.toInt ≠ b.toInt := by rw [Ne, Int32.toInt_inj]
theorem i_and {a : Int32} {m : Nat} (hm : m < 2147483648) : 0 ≤ (a &&& Int32.ofNat m).toInt ∧ (a &&& Int32.ofNat m).toInt ≤ m := by
  have e : (a &&& Int32.ofNat m).toInt = ((a &&& Int32.ofNat m).toBitVec).toInt := rfl
  have hle : ((a &&& Int32.ofNat m).toBitVec).toNat ≤ m := by
    have h1 : (a &&& Int32.ofNat m).toBitVec = a.toBitVec &&& BitVec.ofNat 32 m := rfl
    rw [h1, BitVec.toNat_and, BitVec.toNat_ofNat, Nat.mod_eq_of_lt (by omega)]
    exact Nat.and_le_right
  rw [e, BitVec.toInt_eq_toNat_of_lt (by omega)]
  omega
