/-! THE MACHINE BESIDE THE PURE PICTURE. E: the given cells' addresses, the first address of what is made here, the classes' and the arrays' numbers in the machine. -/
abbrev zE : Type := List Nat × Nat × (Nat → ClassId) × (Nat → Nat → Nat) × (Nat → ClassId)
def z_al (E : zE) (i : Nat) : Nat := if i < z_g0 then E.1.getD i 0 else E.2.1 + (i - z_g0)
def z_sh (E : zE) (v : Value) : Value := match v with
  | .ref a => .ref (z_al E a)
  | v => v
theorem z_sh_rf (E : zE) (r : Option Nat) : z_sh E (va_rf r) = va_rf (r.map (z_al E)) := by cases r <;> rfl
/-- values on the stack and in the locals, by their type -/
abbrev zV : Type := Int32 ⊕ (Option Nat) ⊕ Int64
abbrev zi (x : Int32) : zV := .inl x
abbrev za (x : Option Nat) : zV := .inr (.inl x)
abbrev zl (x : Int64) : zV := .inr (.inr x)
def z_v (v : zV) : Value := match v with
  | .inl x => .int x
  | .inr (.inl r) => va_rf r
  | .inr (.inr x) => .long x
def z_c2 (v : zV) : Bool := match v with
  | .inr (.inr _) => true
  | _ => false
def z_cv (E : zE) (v : zV) : Value := match v with
  | .inl x => .int x
  | .inr (.inl r) => va_rf (r.map (z_al E))
  | .inr (.inr x) => .long x
theorem z_cv_eq (E : zE) (v : zV) : z_cv E v = z_sh E (z_v v) := by
  rcases v with x | x | x
  · rfl
  · exact (z_sh_rf E x).symm
  · rfl
theorem z_cv_cat (E : zE) (v : zV) : ((z_cv E v).category == 2) = z_c2 v := by
  rcases v with x | x | x
  · rfl
  · cases x <;> rfl
  · rfl
theorem z_sh_cat (E : zE) (v : Value) : (z_sh E v).category = v.category := by cases v <;> rfl
/-- what an array's cell holds; of a table that was there before (kind 2) no more is known than its first elements, and its length as the machine tells it -/
def z_ct (E : zE) (k : Nat) (vs : List Value) (cell : Cell) : Prop := if k = 2 then vs.length ≤ cell.slots.size ∧ cell.slots.size.toInt32 = Int32.ofNat vs.length ∧ ∀ (j : Nat) (v : Value), vs[j]? = some v → cell.slots[j]? = some (z_sh E v) else cell.slots.toList = vs.map (z_sh E)
theorem z_ct_ne {E : zE} {k : Nat} {vs : List Value} {cell : Cell} (h : k ≠ 2) : z_ct E k vs cell ↔ cell.slots.toList = vs.map (z_sh E) := by unfold z_ct; rw [if_neg h]
theorem z_ct_of {E : zE} {k : Nat} {vs : List Value} {cell : Cell} (h : z_ct E k vs cell) : vs.length ≤ cell.slots.size ∧ cell.slots.size.toInt32 = Int32.ofNat vs.length ∧ ∀ (j : Nat) (v : Value), vs[j]? = some v → cell.slots[j]? = some (z_sh E v) := by
  by_cases h2 : k = 2
  · unfold z_ct at h
    rw [if_pos h2] at h
    exact h
  · rw [z_ct_ne h2] at h
    have hz : cell.slots.size = vs.length := by rw [← Array.length_toList, h, List.length_map]
    refine ⟨by omega, by rw [hz], fun j v hv => ?_⟩
    rw [← Array.getElem?_toList, h, List.getElem?_map, hv]; rfl
def z_at (E : zE) (H : Heap) (i : Nat) (c : zC) : Prop := match c with
  | .inl a => a.1 ∈ z_ks ∧ ∃ cell : Cell, H[z_al E i]? = some cell ∧ cell.cls = E.2.2.2.2 a.1 ∧ cell.vm ≠ .unknown ∧ (∀ q, cell.vm ≠ .statics q) ∧ z_ct E a.1 a.2 cell
  | .inr o => (o.1 = 999 ∧ ∃ cell : Cell, H[z_al E i]? = some cell ∧ cell.vm.isStatics = false) ∨ ∃ r : vw_C, vwCl[o.1]? = some r ∧ o.2.length = r.2.2 ∧ t_OB (z_al E i) (E.2.2.1 o.1) r.2.2 (E.2.2.2.1 o.1) H (vp_V (o.2.map (z_sh E)))
def z_eok (E : zE) : Prop := E.1.length = z_g0 ∧ ∀ a ∈ E.1, a < E.2.1
theorem z_al_lo {E : zE} (h : z_eok E) {i : Nat} (hi : i < z_g0) : z_al E i < E.2.1 := by
  unfold z_al
  rw [if_pos hi]
  apply h.2
  rw [List.getD_eq_getElem?_getD, List.getElem?_eq_getElem (by rw [h.1]; exact hi)]
  exact List.getElem_mem _
theorem z_al_hi {E : zE} {i : Nat} (hi : z_g0 ≤ i) : z_al E i = E.2.1 + (i - z_g0) := by
  unfold z_al
  rw [if_neg (Nat.not_lt.mpr hi)]
theorem z_al_ge {E : zE} {i : Nat} (hi : z_g0 ≤ i) : E.2.1 ≤ z_al E i := by rw [z_al_hi hi]; omega
/-- two cells of which one is made here lie apart -/
theorem z_al_ne {E : zE} (h : z_eok E) {i j : Nat} (hi : z_g0 ≤ i) (hne : j ≠ i) : z_al E j ≠ z_al E i := by
  intro e
  rw [z_al_hi hi] at e
  by_cases hj : j < z_g0
  · have := z_al_lo h hj
    omega
  · rw [z_al_hi (Nat.not_lt.mp hj)] at e
    omega
def z_ok (E : zE) (M : zM) (H : Heap) : Prop := z_g0 ≤ M.length ∧ H.size = E.2.1 + (M.length - z_g0) ∧ ∀ (i : Nat) (c : zC), M[i]? = some c → z_at E H i c
theorem z_at_kept {E : zE} {H H1 : Heap} {i : Nat} {c : zC} (h : z_at E H i c) (hq : H1[z_al E i]? = H[z_al E i]?) : z_at E H1 i c := by
  cases c with
  | inl a =>
    obtain ⟨hk, cell, h1, h2⟩ := h
    exact ⟨hk, cell, by rw [hq]; exact h1, h2⟩
  | inr o =>
    rcases h with ⟨h, cell, hc, hs⟩ | ⟨r, h1, h2, h3⟩
    · exact Or.inl ⟨h, cell, by rw [hq]; exact hc, hs⟩
    · exact Or.inr ⟨r, h1, h2, h3.kept hq⟩
theorem z_ok_set {E : zE} (hE : z_eok E) {M : zM} {H H1 : Heap} (h : z_ok E M H) {a : Nat} {c' : zC} (ha : a < M.length) (hg : z_g0 ≤ a) (hz : H1.size = H.size) (hc : z_at E H1 a c') (ho : ∀ q : Nat, q ≠ z_al E a → H1[q]? = H[q]?) : z_ok E (M.set a c') H1 := by
  refine ⟨by simpa using h.1, by rw [hz, List.length_set]; exact h.2.1, fun i c hi => ?_⟩
  by_cases e : i = a
  · subst e
    rw [List.getElem?_set_self ha] at hi
    cases hi
    exact hc
  · rw [List.getElem?_set_ne (Ne.symm e)] at hi
    exact z_at_kept (h.2.2 i c hi) (ho _ (z_al_ne hE hg e))
theorem z_ok_lt {E : zE} (hE : z_eok E) {M : zM} {H : Heap} (h : z_ok E M H) {i : Nat} (hi : i < M.length) : z_al E i < H.size := by
  rw [h.2.1]
  have h0 := h.1
  by_cases hj : i < z_g0
  · have := z_al_lo hE hj
    omega
  · rw [z_al_hi (Nat.not_lt.mp hj)]
    omega
theorem z_ok_push {E : zE} (hE : z_eok E) {M : zM} {H H1 : Heap} (h : z_ok E M H) {c' : zC} (hz : H1.size = H.size + 1) (hc : z_at E H1 M.length c') (ho : ∀ q : Nat, q < H.size → H1[q]? = H[q]?) : z_ok E (M ++ [c']) H1 := by
  have h0 := h.1
  refine ⟨by simp; omega, by rw [hz, h.2.1]; simp; omega, fun i c hi => ?_⟩
  by_cases e : i < M.length
  · rw [List.getElem?_append_left e] at hi
    exact z_at_kept (h.2.2 i c hi) (ho _ (z_ok_lt hE h e))
  · rw [List.getElem?_append_right (by omega)] at hi
    have hl : i - M.length < 1 := (List.getElem?_eq_some_iff.mp hi).1
    have e2 : i = M.length := by omega
    subst e2
    rw [Nat.sub_self] at hi
    cases hi
    exact hc
theorem z_ok_new {E : zE} {M : zM} {H : Heap} (h : z_ok E M H) : z_al E M.length = H.size := by
  rw [z_al_hi h.1, h.2.1]
/-- types of arrays by their kinds -/
def z_aty (k : Nat) : Option FieldType := if k < 3 then some .int else if k = 3 then some .long else if k = 4 then some .boolean else if 8 ≤ k then (vwCl[k - 8]?).map fun r => .object r.1 else none
theorem z_ks_ty : ∀ k ∈ z_ks, ∃ ty, z_aty k = some ty := by
  have h : ∀ k ∈ z_ks, (z_aty k).isSome = true := by decide +kernel
  intro k hk
  exact Option.isSome_iff_exists.mp (h k hk)
/-- what a throw needs: tables' words, texts, statics that hold some reference or null -/
def z_KT (E : zE) (U : State) : Prop := (∀ w ∈ z_tw, va_Nw w U) ∧ (∀ q ∈ z_str, ∃ a, vk_R q.1 q.2.1 q.2.2 a U) ∧ ∀ q ∈ z_sq, va_Zq q.1 q.2.1 q.2.2 (fun a => E.2.1 ≤ a) U U.heap ∧ (Cond.laysStatic q.1 q.2.1 q.2.2).before #[] U = true
theorem z_tw_kind : ∀ w ∈ z_tw, goodWord w = true ∨ (∃ x, w = .declares x) ∨ ∃ a b, w = .castable a b := by
  have h : ∀ w ∈ z_tw, (goodWord w || (match w with
    | .declares _ => true
    | .castable _ _ => true
    | _ => false)) = true := by decide +kernel
  intro w hw
  have h1 := h w hw
  rw [Bool.or_eq_true] at h1
  rcases h1 with h1 | h1
  · exact Or.inl h1
  · split at h1
    · exact Or.inr (Or.inl ⟨_, rfl⟩)
    · exact Or.inr (Or.inr ⟨_, _, rfl⟩)
    · cases h1
theorem z_ls_moved {u U : State} {C n d : String} {A : Nat → Prop} (ha : u.vm.Alike U.vm) (hh : ∀ q : Nat, q < u.heap.size → ¬ A q → U.heap[q]? = u.heap[q]?) (hz : va_Zq C n d A u u.heap) (hl : (Cond.laysStatic C n d).before #[] u = true) : (Cond.laysStatic C n d).before #[] U = true := by
  have h1 := Cond.laysStatic_setVm (vm' := U.vm) ha hl
  obtain ⟨c, k, i, f, a, cell, hc, hi, hst, hsa, hcell, hs, hcls, hlt, hty⟩ := Cond.laysStatic_spec h1
  have hi' : U.fieldFound? C n d = some (c, k, i, f) := hi
  have hcell' : u.heap[a]? = some cell := hcell
  have hA : ¬ A a := by
    rcases va_Zq.moved ha hz with h | ⟨t, h⟩ <;>
    · obtain ⟨cf, kf, fi, f0, a0, cell0, g1, -, -, g4, -, -, -, g8⟩ := h
      have e1 := hi'.symm.trans g1
      simp only [Option.some.injEq, Prod.mk.injEq] at e1
      obtain ⟨-, e2, -, -⟩ := e1
      rw [← e2] at g4
      have e3 : a = a0 := Option.some.inj (hsa.symm.trans g4)
      rw [e3]
      exact g8
  exact Cond.laysStatic_of (show U.vm.findClass C = some c from hc) hi' hst hsa (by rw [hh a (Array.getElem?_eq_some_iff.mp hcell').1 hA]; exact hcell') hs hcls hlt hty
theorem z_KT.moved {E : zE} {u U : State} (hW : u.WarmedH U.vm) (hh : ∀ q : Nat, q < u.heap.size → ¬ E.2.1 ≤ q → U.heap[q]? = u.heap[q]?) (h : z_KT E u) : z_KT E U := by
  refine ⟨fun w hw => ?_, fun q hq => ?_, fun q hq => ⟨((h.2.2 q hq).1.moved hW.alike).kept hh, z_ls_moved hW.alike hh (h.2.2 q hq).1 (h.2.2 q hq).2⟩⟩
  · rcases z_tw_kind w hw with h1 | ⟨x, rfl⟩ | ⟨a, b, rfl⟩
    · exact word_at hW (good_of_word h1) (h.1 w hw)
    · exact va_Nw.warmD hW (h.1 _ hw)
    · exact va_Nw.warmC hW (h.1 _ hw)
  · obtain ⟨a, ha⟩ := h.2.1 q hq
    exact ⟨a, ha.warm hW⟩
theorem z_KT.same {E : zE} {u U : State} (hv : u.vm = U.vm) (hh : U.heap = u.heap) (h : z_KT E u) : z_KT E U := by
  have ha : u.vm.Alike U.vm := by rw [hv]; exact Vm.Alike.refl _
  have ht : ∀ w ∈ z_tw, w.onTables = true := by decide +kernel
  refine ⟨fun w hw => va_Nw.same (ht w hw) hv (h.1 w hw), fun q hq => ?_, fun q hq => ⟨((h.2.2 q hq).1.moved ha).kept (fun q _ _ => by rw [hh]), z_ls_moved ha (fun q _ _ => by rw [hh]) (h.2.2 q hq).1 (h.2.2 q hq).2⟩⟩
  obtain ⟨a, hq⟩ := h.2.1 q hq
  exact ⟨a, hq.same hv.symm⟩
/-- what the tables say: the classes, the arrays of kinds z_ks, statics (z_zs: class, name, descriptor, which of the given cells), constructors of nest mates (z_nws), arrays over classes (z_aos), casts (z_cst) -/
def z_K (E : zE) (U : State) : Prop := z_eok E ∧ (∀ (c : Nat) (q : vw_C), vwCl[c]? = some q → u_Kn U q.1 q.2.1 q.2.2 (E.2.2.1 c) (E.2.2.2.1 c)) ∧ (∀ (k : Nat) (ty : FieldType), k ∈ z_ks → z_aty k = some ty → ArrOfT U (E.2.2.2.2 k) ty ∧ (k ≠ 1 → k ≠ 2 → va_RA U (E.2.2.2.2 k) ty)) ∧ (∀ q ∈ z_zs, va_Z q.1 q.2.1 q.2.2.1 (.ref (E.1.getD q.2.2.2 0)) (fun a => E.2.1 ≤ a) U U.heap) ∧ (∀ q ∈ z_nws, va_Nw (.methodLinkNest q.1 q.2.1 q.2.2.1 q.2.2.2) U) ∧ (∀ C ∈ z_aos, va_AO C U) ∧ (∀ q ∈ z_cst, va_Nw (.castable q.1 q.2) U) ∧ z_KT E U
theorem z_K.moved {E : zE} {u U : State} (hW : u.WarmedH U.vm) (hh : ∀ q : Nat, q < u.heap.size → ¬ E.2.1 ≤ q → U.heap[q]? = u.heap[q]?) (h : z_K E u) : z_K E U := by
  obtain ⟨h1, h2, h3, h4, h5, h6, h7, h8⟩ := h
  exact ⟨h1, fun c q hq => u_Kn_moved hW.alike (h2 c q hq), fun k ty hk ht => ⟨arrOfT_moved hW.alike (h3 k ty hk ht).1, fun n1 n2 => ((h3 k ty hk ht).2 n1 n2).moved hW.alike⟩, fun q hq => ((h4 q hq).moved hW.alike).kept hh, fun q hq => va_Nw.warmM hW (h5 q hq), fun C hC => (h6 C hC).moved hW.alike, fun q hq => va_Nw.warmC hW (h7 q hq), h8.moved hW hh⟩
theorem z_K.same {E : zE} {u U : State} (hv : u.vm = U.vm) (hh : U.heap = u.heap) (h : z_K E u) : z_K E U := by
  obtain ⟨h1, h2, h3, h4, h5, h6, h7, h8⟩ := h
  have ha : u.vm.Alike U.vm := by rw [hv]; exact Vm.Alike.refl _
  exact ⟨h1, fun c q hq => u_Kn_moved ha (h2 c q hq), fun k ty hk ht => ⟨arrOfT_moved ha (h3 k ty hk ht).1, fun n1 n2 => ((h3 k ty hk ht).2 n1 n2).moved ha⟩, fun q hq => ((h4 q hq).moved ha).kept (fun q _ _ => by rw [hh]), fun q hq => va_Nw.same rfl hv (h5 q hq), fun C hC => (h6 C hC).moved ha, fun q hq => va_Nw.same rfl hv (h7 q hq), h8.same hv hh⟩

/-- a contract's start and end -/
def z_Pc (E : zE) (as : List zV) (M : zM) : Array Value → State → Prop := fun v U => v = (as.map (z_cv E)).toArray ∧ z_ok E M U.heap ∧ z_K E U
def z_Qc (E : zE) (r : Option zV) (M : zM) : Array Value → State → Outcome → State → Prop := fun _ st o t => o = .returned (r.map (z_cv E)) ∧ z_ok E M t.heap ∧ va_F (fun q => E.2.1 ≤ q) st t
theorem z_Pc_blind {E : zE} {as : List zV} {M : zM} : FrameBlind (z_Pc E as M) := fun a U g mk q => ⟨q.1, q.2.1, z_K.same (u := U) (U := U.calling g mk a) rfl rfl q.2.2⟩
def z_rm (fr lo : Nat) (M M' : zM) : Room := { frames := fr, cells := M'.length - M.length, slots := zsz M' - zsz M, locals := lo }
/-- y's contract at its arguments as: where the pure program answers, the machine does, with the same answer and memory -/
def z_Met {α : Type} (l : Launch) (E : zE) (y : MethodName) (ws : List Cond) (fr lo : Nat) (as : List zV) (rz : α → Option zV) (f : zMn α) : Prop :=
  ∀ (M : zM) (r : α × zM), f.1 M = some r → Met l y ws (z_rm fr lo M r.2) (z_Pc E as M) (z_Qc E (rz r.1) r.2) (r.2.length - M.length) (zsz r.2 - zsz M) (fun q => E.2.1 ≤ q)
def z_ri (x : Int32) : Option zV := some (zi x)
def z_ra (x : Option Nat) : Option zV := some (za x)
def z_rl (x : Int64) : Option zV := some (zl x)
def z_rv (_ : Unit) : Option zV := none
/-- what stays the same while a method runs: M0 its memory at the start, Mf at its end -/
def z_X (p : Program) (R : Room) (s : State) (m : MethodId) (args : Array Value) (meth : Method) (c : Code) (E : zE) (cc : ByteArray) (nL : Nat) (own : String) (Ts : List Cond) (fr lo : Nat) (M0 Mf : zM) : Prop :=
  CallFix p m c cc nL s args Ts own ∧ z_K E s ∧ R.frames = fr ∧ R.locals = lo ∧ Mf.length - M0.length ≤ R.cells ∧ zsz Mf - zsz M0 ≤ R.slots ∧ meth.locks = false
def z_W (p : Program) (l : Launch) (e : Env) (R : Room) (s : State) (m : MethodId) (args : Array Value) (below : List Frame) (meth : Method) (c : Code) (Q : State → Prop) (E : zE) (nL : Nat) (M0 M : zM) (pc : Nat) (lv : List (Nat × zV)) (st : List zV) : Prop :=
  ∀ (H : Heap) (locs : List Loc) (ls : Array Slot), z_ok E M H → va_S (fun q => E.2.1 ≤ q) s.heap H locs → zgr M0 M → lv_has ls nL (lv.map fun q => (q.1, z_cv E q.2)) → W p l e R s m args below meth c H locs (M.length - M0.length) (zsz M - zsz M0) Q (F0 m pc ls (st.map (z_cv E)))
/-- the machine at pc, and what the pure program still has to do there -/
def z_S {ρ : Type} (p : Program) (l : Launch) (e : Env) (R : Room) (s : State) (m : MethodId) (args : Array Value) (below : List Frame) (meth : Method) (c : Code) (Q : State → Prop) (E : zE) (nL : Nat) (M0 : zM) (fin : ρ × zM) (M : zM) (pc : Nat) (lv : List (Nat × zV)) (st : List zV) (f : zMn ρ) : Prop :=
  f.1 M = some fin → z_W p l e R s m args below meth c Q E nL M0 M pc lv st
theorem z_lv_at {E : zE} {ls : Array Slot} {nL k i : Nat} {lv : List (Nat × zV)} {v : zV} (h : lv_has ls nL (lv.map fun q => (q.1, z_cv E q.2))) (hk : lv[k]? = some (i, v)) : ls[i]? = some (.val (z_cv E v)) := lv_at h k (by rw [List.getElem?_map, hk]; rfl)
def z_flt (i : Nat) (lv : List (Nat × zV)) : List (Nat × zV) := lv.filter (fun q => !(q.1 == i) && !(q.1 + 1 == i && z_c2 q.2))
theorem z_lv_f {E : zE} {i : Nat} (lv : List (Nat × zV)) : (lv.map fun q => (q.1, z_cv E q.2)).filter (fun q => !(q.1 == i) && !(q.1 + 1 == i && q.2.category == 2)) = (z_flt i lv).map fun q => (q.1, z_cv E q.2) := by
  unfold z_flt
  rw [List.filter_map]
  congr 1
  apply List.filter_congr
  intro q _
  simp only [Function.comp_def, z_cv_cat]
def z_flt2 (i : Nat) (lv : List (Nat × zV)) : List (Nat × zV) := lv.filter (fun q => !(q.1 == i) && (!(q.1 == i + 1) && !(q.1 + 1 == i && z_c2 q.2)))
theorem z_lv_f2 {E : zE} {i : Nat} (lv : List (Nat × zV)) : (lv.map fun q => (q.1, z_cv E q.2)).filter (fun q => !(q.1 == i) && (!(q.1 == i + 1) && !(q.1 + 1 == i && q.2.category == 2))) = (z_flt2 i lv).map fun q => (q.1, z_cv E q.2) := by
  unfold z_flt2
  rw [List.filter_map]
  congr 1
  apply List.filter_congr
  intro q _
  simp only [Function.comp_def, z_cv_cat]
theorem z_cat1 {E : zE} {v : zV} (h : z_c2 v = false) : (z_cv E v).category = 1 := by
  rcases v with x | x | x
  · rfl
  · cases x <;> rfl
  · cases h

section ZS
variable {ρ : Type} {p : Program} {l : Launch} {e : Env} {R : Room} {s : State} {m : MethodId} {args : Array Value} {below : List Frame} {meth : Method} {c : Code} {Q : State → Prop} {E : zE} {cc : ByteArray} {nL : Nat} {own : String} {Ts : List Cond} {fr lo : Nat} {M0 : zM} {fin : ρ × zM} {M : zM} {pc : Nat} {lv lv' : List (Nat × zV)} {st : List zV} {f : zMn ρ}
theorem s_iconst (X : z_X p R s m args meth c E cc nL own Ts fr lo M0 fin.2) {n : Int} (v : Int32) (hd : decode cc pc = .ok (.iconst n, 1)) (hv : Int32.ofInt n = v)
    (k : z_S p l e R s m args below meth c Q E nL M0 fin M (pc + 1) lv (zi v :: st) f) : z_S p l e R s m args below meth c Q E nL M0 fin M pc lv st f :=
  fun hF H locs ls h1 h2 h3 h5 => lv_iconst X.1.1 X.1.2.1 hd hv (k hF H locs ls h1 h2 h3 h5)
theorem s_bipush (X : z_X p R s m args meth c E cc nL own Ts fr lo M0 fin.2) {n : Int} (v : Int32) (hd : decode cc pc = .ok (.bipush n, 2)) (hv : (Int8.ofInt n).toInt32 = v)
    (k : z_S p l e R s m args below meth c Q E nL M0 fin M (pc + 2) lv (zi v :: st) f) : z_S p l e R s m args below meth c Q E nL M0 fin M pc lv st f :=
  fun hF H locs ls h1 h2 h3 h5 => lv_bipush X.1.1 X.1.2.1 hd hv (k hF H locs ls h1 h2 h3 h5)
theorem s_sipush (X : z_X p R s m args meth c E cc nL own Ts fr lo M0 fin.2) {n : Int} (v : Int32) (hd : decode cc pc = .ok (.sipush n, 3)) (hv : (Int16.ofInt n).toInt32 = v)
    (k : z_S p l e R s m args below meth c Q E nL M0 fin M (pc + 3) lv (zi v :: st) f) : z_S p l e R s m args below meth c Q E nL M0 fin M pc lv st f :=
  fun hF H locs ls h1 h2 h3 h5 => lv_sipush X.1.1 X.1.2.1 hd hv (k hF H locs ls h1 h2 h3 h5)
theorem s_lconst (X : z_X p R s m args meth c E cc nL own Ts fr lo M0 fin.2) {n : Fin 2} (v : Int64) (hd : decode cc pc = .ok (.lconst n, 1)) (hv : Int64.ofNat (n : Nat) = v)
    (k : z_S p l e R s m args below meth c Q E nL M0 fin M (pc + 1) lv (zl v :: st) f) : z_S p l e R s m args below meth c Q E nL M0 fin M pc lv st f :=
  fun hF H locs ls h1 h2 h3 h5 => lv_lconst X.1.1 X.1.2.1 hd hv (k hF H locs ls h1 h2 h3 h5)
theorem s_ldc (X : z_X p R s m args meth c E cc nL own Ts fr lo M0 fin.2) {index : Nat} (v : Int32) (hd : decode cc pc = .ok (.ldc index, 2)) (hw : Cond.constant own index v ∈ Ts)
    (k : z_S p l e R s m args below meth c Q E nL M0 fin M (pc + 2) lv (zi v :: st) f) : z_S p l e R s m args below meth c Q E nL M0 fin M pc lv st f :=
  fun hF H locs ls h1 h2 h3 h5 => lv_ldc X.1.1 X.1.2.1 X.1.2.2.2.1 (X.1.2.2.2.2 _ hw) hd (k hF H locs ls h1 h2 h3 h5)
theorem s_ldcw (X : z_X p R s m args meth c E cc nL own Ts fr lo M0 fin.2) {index : Nat} (v : Int32) (hd : decode cc pc = .ok (.ldc_w index, 3)) (hw : Cond.constant own index v ∈ Ts)
    (k : z_S p l e R s m args below meth c Q E nL M0 fin M (pc + 3) lv (zi v :: st) f) : z_S p l e R s m args below meth c Q E nL M0 fin M pc lv st f :=
  fun hF H locs ls h1 h2 h3 h5 => lv_ldcw X.1.1 X.1.2.1 X.1.2.2.2.1 (X.1.2.2.2.2 _ hw) hd (k hF H locs ls h1 h2 h3 h5)
theorem s_ldc2 (X : z_X p R s m args meth c E cc nL own Ts fr lo M0 fin.2) {index : Nat} (v : Int64) (hd : decode cc pc = .ok (.ldc2_w index, 3)) (hw : Cond.constantLong own index v ∈ Ts)
    (k : z_S p l e R s m args below meth c Q E nL M0 fin M (pc + 3) lv (zl v :: st) f) : z_S p l e R s m args below meth c Q E nL M0 fin M pc lv st f :=
  fun hF H locs ls h1 h2 h3 h5 => lv_ldc2 X.1.1 X.1.2.1 X.1.2.2.2.1 (X.1.2.2.2.2 _ hw) hd (k hF H locs ls h1 h2 h3 h5)
theorem s_null (X : z_X p R s m args meth c E cc nL own Ts fr lo M0 fin.2)  (hd : decode cc pc = .ok (.aconst_null, 1))
    (k : z_S p l e R s m args below meth c Q E nL M0 fin M (pc + 1) lv (za none :: st) f) : z_S p l e R s m args below meth c Q E nL M0 fin M pc lv st f :=
  fun hF H locs ls h1 h2 h3 h5 => lv_null X.1.1 X.1.2.1 hd (k hF H locs ls h1 h2 h3 h5)
theorem s_iload_n (X : z_X p R s m args meth c E cc nL own Ts fr lo M0 fin.2) {kn : Fin 4} {x : Int32} (hd : decode cc pc = .ok (.iload_n kn, 1)) (j : Nat) (hj : lv[j]? = some (kn.val, zi x))
    (k : z_S p l e R s m args below meth c Q E nL M0 fin M (pc + 1) lv (zi x :: st) f) : z_S p l e R s m args below meth c Q E nL M0 fin M pc lv st f :=
  fun hF H locs ls h1 h2 h3 h5 => lv_iload_n X.1.1 X.1.2.1 hd rfl (z_lv_at h5 hj) (k hF H locs ls h1 h2 h3 h5)
theorem s_iload (X : z_X p R s m args meth c E cc nL own Ts fr lo M0 fin.2) {i : Nat} {x : Int32} (hd : decode cc pc = .ok (.iload i, 2)) (j : Nat) (hj : lv[j]? = some (i, zi x))
    (k : z_S p l e R s m args below meth c Q E nL M0 fin M (pc + 2) lv (zi x :: st) f) : z_S p l e R s m args below meth c Q E nL M0 fin M pc lv st f :=
  fun hF H locs ls h1 h2 h3 h5 => lv_iload X.1.1 X.1.2.1 hd (z_lv_at h5 hj) (k hF H locs ls h1 h2 h3 h5)
theorem s_lload_n (X : z_X p R s m args meth c E cc nL own Ts fr lo M0 fin.2) {kn : Fin 4} {x : Int64} (hd : decode cc pc = .ok (.lload_n kn, 1)) (j : Nat) (hj : lv[j]? = some (kn.val, zl x))
    (k : z_S p l e R s m args below meth c Q E nL M0 fin M (pc + 1) lv (zl x :: st) f) : z_S p l e R s m args below meth c Q E nL M0 fin M pc lv st f :=
  fun hF H locs ls h1 h2 h3 h5 => lv_lload_n X.1.1 X.1.2.1 hd rfl (z_lv_at h5 hj) (k hF H locs ls h1 h2 h3 h5)
theorem s_lload (X : z_X p R s m args meth c E cc nL own Ts fr lo M0 fin.2) {i : Nat} {x : Int64} (hd : decode cc pc = .ok (.lload i, 2)) (j : Nat) (hj : lv[j]? = some (i, zl x))
    (k : z_S p l e R s m args below meth c Q E nL M0 fin M (pc + 2) lv (zl x :: st) f) : z_S p l e R s m args below meth c Q E nL M0 fin M pc lv st f :=
  fun hF H locs ls h1 h2 h3 h5 => lv_lload X.1.1 X.1.2.1 hd (z_lv_at h5 hj) (k hF H locs ls h1 h2 h3 h5)
theorem s_aload_n (X : z_X p R s m args meth c E cc nL own Ts fr lo M0 fin.2) {kn : Fin 4} {x : Option Nat} (hd : decode cc pc = .ok (.aload_n kn, 1)) (j : Nat) (hj : lv[j]? = some (kn.val, za x))
    (k : z_S p l e R s m args below meth c Q E nL M0 fin M (pc + 1) lv (za x :: st) f) : z_S p l e R s m args below meth c Q E nL M0 fin M pc lv st f := by
  intro hF H locs ls h1 h2 h3 h5
  have g := z_lv_at h5 hj
  have kk := k hF H locs ls h1 h2 h3 h5
  cases x with
  | none => exact lv_aload_nN X.1.1 X.1.2.1 hd rfl g kk
  | some a => exact lv_aload_n X.1.1 X.1.2.1 hd rfl g kk
theorem s_aload (X : z_X p R s m args meth c E cc nL own Ts fr lo M0 fin.2) {i : Nat} {x : Option Nat} (hd : decode cc pc = .ok (.aload i, 2)) (j : Nat) (hj : lv[j]? = some (i, za x))
    (k : z_S p l e R s m args below meth c Q E nL M0 fin M (pc + 2) lv (za x :: st) f) : z_S p l e R s m args below meth c Q E nL M0 fin M pc lv st f := by
  intro hF H locs ls h1 h2 h3 h5
  have g := z_lv_at h5 hj
  have kk := k hF H locs ls h1 h2 h3 h5
  cases x with
  | none => exact lv_aloadN X.1.1 X.1.2.1 hd g kk
  | some a => exact lv_aload X.1.1 X.1.2.1 hd g kk
theorem s_istore_n (X : z_X p R s m args meth c E cc nL own Ts fr lo M0 fin.2) {kn : Fin 4} {x : Int32} (hd : decode cc pc = .ok (.istore_n kn, 1)) (hn : kn.val < nL) (lv' : List (Nat × zV)) (hl : (kn.val, zi x) :: z_flt kn.val lv = lv')
    (k : z_S p l e R s m args below meth c Q E nL M0 fin M (pc + 1) lv' st f) : z_S p l e R s m args below meth c Q E nL M0 fin M pc lv (zi x :: st) f :=
  fun hF H locs ls h1 h2 h3 h5 => lv_istore_n X.1.1 X.1.2.1 hd rfl h5 hn (lv' := lv'.map fun q => (q.1, z_cv E q.2)) (by rw [z_lv_f, ← hl]; rfl) (fun ls' h' => k hF H locs ls' h1 h2 h3 h')
theorem s_lstore_n (X : z_X p R s m args meth c E cc nL own Ts fr lo M0 fin.2) {kn : Fin 4} {x : Int64} (hd : decode cc pc = .ok (.lstore_n kn, 1)) (hn : kn.val + 1 < nL) (lv' : List (Nat × zV)) (hl : (kn.val, zl x) :: z_flt2 kn.val lv = lv')
    (k : z_S p l e R s m args below meth c Q E nL M0 fin M (pc + 1) lv' st f) : z_S p l e R s m args below meth c Q E nL M0 fin M pc lv (zl x :: st) f :=
  fun hF H locs ls h1 h2 h3 h5 => lv_lstore_n X.1.1 X.1.2.1 hd rfl h5 hn (lv' := lv'.map fun q => (q.1, z_cv E q.2)) (by rw [z_lv_f2, ← hl]; rfl) (fun ls' h' => k hF H locs ls' h1 h2 h3 h')
theorem s_astore_n (X : z_X p R s m args meth c E cc nL own Ts fr lo M0 fin.2) {kn : Fin 4} {x : Option Nat} (hd : decode cc pc = .ok (.astore_n kn, 1)) (hn : kn.val < nL) (lv' : List (Nat × zV)) (hl : (kn.val, za x) :: z_flt kn.val lv = lv')
    (k : z_S p l e R s m args below meth c Q E nL M0 fin M (pc + 1) lv' st f) : z_S p l e R s m args below meth c Q E nL M0 fin M pc lv (za x :: st) f := by
  intro hF H locs ls h1 h2 h3 h5
  cases x with
  | none => exact lv_astore_nN X.1.1 X.1.2.1 hd rfl h5 hn (lv' := lv'.map fun q => (q.1, z_cv E q.2)) (by rw [z_lv_f, ← hl]; rfl) (fun ls' h' => k hF H locs ls' h1 h2 h3 h')
  | some a => exact lv_astore_n X.1.1 X.1.2.1 hd rfl h5 hn (lv' := lv'.map fun q => (q.1, z_cv E q.2)) (by rw [z_lv_f, ← hl]; rfl) (fun ls' h' => k hF H locs ls' h1 h2 h3 h')
theorem s_istore (X : z_X p R s m args meth c E cc nL own Ts fr lo M0 fin.2) {i : Nat} {x : Int32} (hd : decode cc pc = .ok (.istore i, 2)) (hn : i < nL) (lv' : List (Nat × zV)) (hl : (i, zi x) :: z_flt i lv = lv')
    (k : z_S p l e R s m args below meth c Q E nL M0 fin M (pc + 2) lv' st f) : z_S p l e R s m args below meth c Q E nL M0 fin M pc lv (zi x :: st) f :=
  fun hF H locs ls h1 h2 h3 h5 => lv_istore X.1.1 X.1.2.1 hd h5 hn (lv' := lv'.map fun q => (q.1, z_cv E q.2)) (by rw [z_lv_f, ← hl]; rfl) (fun ls' h' => k hF H locs ls' h1 h2 h3 h')
theorem s_lstore (X : z_X p R s m args meth c E cc nL own Ts fr lo M0 fin.2) {i : Nat} {x : Int64} (hd : decode cc pc = .ok (.lstore i, 2)) (hn : i + 1 < nL) (lv' : List (Nat × zV)) (hl : (i, zl x) :: z_flt2 i lv = lv')
    (k : z_S p l e R s m args below meth c Q E nL M0 fin M (pc + 2) lv' st f) : z_S p l e R s m args below meth c Q E nL M0 fin M pc lv (zl x :: st) f :=
  fun hF H locs ls h1 h2 h3 h5 => lv_lstore X.1.1 X.1.2.1 hd h5 hn (lv' := lv'.map fun q => (q.1, z_cv E q.2)) (by rw [z_lv_f2, ← hl]; rfl) (fun ls' h' => k hF H locs ls' h1 h2 h3 h')
theorem s_astore (X : z_X p R s m args meth c E cc nL own Ts fr lo M0 fin.2) {i : Nat} {x : Option Nat} (hd : decode cc pc = .ok (.astore i, 2)) (hn : i < nL) (lv' : List (Nat × zV)) (hl : (i, za x) :: z_flt i lv = lv')
    (k : z_S p l e R s m args below meth c Q E nL M0 fin M (pc + 2) lv' st f) : z_S p l e R s m args below meth c Q E nL M0 fin M pc lv (za x :: st) f := by
  intro hF H locs ls h1 h2 h3 h5
  cases x with
  | none => exact lv_astoreN X.1.1 X.1.2.1 hd h5 hn (lv' := lv'.map fun q => (q.1, z_cv E q.2)) (by rw [z_lv_f, ← hl]; rfl) (fun ls' h' => k hF H locs ls' h1 h2 h3 h')
  | some a => exact lv_astore X.1.1 X.1.2.1 hd h5 hn (lv' := lv'.map fun q => (q.1, z_cv E q.2)) (by rw [z_lv_f, ← hl]; rfl) (fun ls' h' => k hF H locs ls' h1 h2 h3 h')
theorem s_iinc (X : z_X p R s m args meth c E cc nL own Ts fr lo M0 fin.2) {i : Nat} {n : Int} {x : Int32} (v : Int32) (hd : decode cc pc = .ok (.iinc i n, 3)) (j : Nat) (hj : lv[j]? = some (i, zi x)) (hv : Int32.ofInt n = v) (hn : i < nL) (lv' : List (Nat × zV)) (hl : (i, zi (x + v)) :: z_flt i lv = lv')
    (k : z_S p l e R s m args below meth c Q E nL M0 fin M (pc + 3) lv' st f) : z_S p l e R s m args below meth c Q E nL M0 fin M pc lv st f :=
  fun hF H locs ls h1 h2 h3 h5 => lv_iinc (k := j) (x := x) X.1.1 X.1.2.1 hd h5 (by rw [List.getElem?_map, hj]; rfl) (by rw [hv]) hn (lv' := lv'.map fun q => (q.1, z_cv E q.2)) (by rw [z_lv_f, ← hl]; rfl) (fun ls' h' => k hF H locs ls' h1 h2 h3 h')
theorem s_iadd (X : z_X p R s m args meth c E cc nL own Ts fr lo M0 fin.2) {x y : Int32} (hd : decode cc pc = .ok (.iadd, 1))
    (k : z_S p l e R s m args below meth c Q E nL M0 fin M (pc + 1) lv (zi (x + y) :: st) f) : z_S p l e R s m args below meth c Q E nL M0 fin M pc lv (zi y :: zi x :: st) f :=
  fun hF H locs ls h1 h2 h3 h5 => lv_iadd X.1.1 X.1.2.1 hd (k hF H locs ls h1 h2 h3 h5)
theorem s_isub (X : z_X p R s m args meth c E cc nL own Ts fr lo M0 fin.2) {x y : Int32} (hd : decode cc pc = .ok (.isub, 1))
    (k : z_S p l e R s m args below meth c Q E nL M0 fin M (pc + 1) lv (zi (x - y) :: st) f) : z_S p l e R s m args below meth c Q E nL M0 fin M pc lv (zi y :: zi x :: st) f :=
  fun hF H locs ls h1 h2 h3 h5 => lv_isub X.1.1 X.1.2.1 hd (k hF H locs ls h1 h2 h3 h5)
theorem s_imul (X : z_X p R s m args meth c E cc nL own Ts fr lo M0 fin.2) {x y : Int32} (hd : decode cc pc = .ok (.imul, 1))
    (k : z_S p l e R s m args below meth c Q E nL M0 fin M (pc + 1) lv (zi (x * y) :: st) f) : z_S p l e R s m args below meth c Q E nL M0 fin M pc lv (zi y :: zi x :: st) f :=
  fun hF H locs ls h1 h2 h3 h5 => lv_imul X.1.1 X.1.2.1 hd (k hF H locs ls h1 h2 h3 h5)
theorem s_iand (X : z_X p R s m args meth c E cc nL own Ts fr lo M0 fin.2) {x y : Int32} (hd : decode cc pc = .ok (.iand, 1))
    (k : z_S p l e R s m args below meth c Q E nL M0 fin M (pc + 1) lv (zi (x &&& y) :: st) f) : z_S p l e R s m args below meth c Q E nL M0 fin M pc lv (zi y :: zi x :: st) f :=
  fun hF H locs ls h1 h2 h3 h5 => lv_iand X.1.1 X.1.2.1 hd (k hF H locs ls h1 h2 h3 h5)
theorem s_ior (X : z_X p R s m args meth c E cc nL own Ts fr lo M0 fin.2) {x y : Int32} (hd : decode cc pc = .ok (.ior, 1))
    (k : z_S p l e R s m args below meth c Q E nL M0 fin M (pc + 1) lv (zi (x ||| y) :: st) f) : z_S p l e R s m args below meth c Q E nL M0 fin M pc lv (zi y :: zi x :: st) f :=
  fun hF H locs ls h1 h2 h3 h5 => lv_ior X.1.1 X.1.2.1 hd (k hF H locs ls h1 h2 h3 h5)
theorem s_ixor (X : z_X p R s m args meth c E cc nL own Ts fr lo M0 fin.2) {x y : Int32} (hd : decode cc pc = .ok (.ixor, 1))
    (k : z_S p l e R s m args below meth c Q E nL M0 fin M (pc + 1) lv (zi (x ^^^ y) :: st) f) : z_S p l e R s m args below meth c Q E nL M0 fin M pc lv (zi y :: zi x :: st) f :=
  fun hF H locs ls h1 h2 h3 h5 => lv_ixor X.1.1 X.1.2.1 hd (k hF H locs ls h1 h2 h3 h5)
theorem s_ishl (X : z_X p R s m args meth c E cc nL own Ts fr lo M0 fin.2) {x y : Int32} (hd : decode cc pc = .ok (.ishl, 1))
    (k : z_S p l e R s m args below meth c Q E nL M0 fin M (pc + 1) lv (zi (x <<< (y &&& 31)) :: st) f) : z_S p l e R s m args below meth c Q E nL M0 fin M pc lv (zi y :: zi x :: st) f :=
  fun hF H locs ls h1 h2 h3 h5 => lv_ishl X.1.1 X.1.2.1 hd (k hF H locs ls h1 h2 h3 h5)
theorem s_ishr (X : z_X p R s m args meth c E cc nL own Ts fr lo M0 fin.2) {x y : Int32} (hd : decode cc pc = .ok (.ishr, 1))
    (k : z_S p l e R s m args below meth c Q E nL M0 fin M (pc + 1) lv (zi (x >>> (y &&& 31)) :: st) f) : z_S p l e R s m args below meth c Q E nL M0 fin M pc lv (zi y :: zi x :: st) f :=
  fun hF H locs ls h1 h2 h3 h5 => lv_ishr X.1.1 X.1.2.1 hd (k hF H locs ls h1 h2 h3 h5)
theorem s_idiv (X : z_X p R s m args meth c E cc nL own Ts fr lo M0 fin.2) {x y : Int32} (hd : decode cc pc = .ok (.idiv, 1)) (hne : ¬ y = 0)
    (k : z_S p l e R s m args below meth c Q E nL M0 fin M (pc + 1) lv (zi (x / y) :: st) f) : z_S p l e R s m args below meth c Q E nL M0 fin M pc lv (zi y :: zi x :: st) f :=
  fun hF H locs ls h1 h2 h3 h5 => lv_idiv X.1.1 X.1.2.1 hd hne (k hF H locs ls h1 h2 h3 h5)
theorem s_irem (X : z_X p R s m args meth c E cc nL own Ts fr lo M0 fin.2) {x y : Int32} (hd : decode cc pc = .ok (.irem, 1)) (hne : ¬ y = 0)
    (k : z_S p l e R s m args below meth c Q E nL M0 fin M (pc + 1) lv (zi (x - x / y * y) :: st) f) : z_S p l e R s m args below meth c Q E nL M0 fin M pc lv (zi y :: zi x :: st) f :=
  fun hF H locs ls h1 h2 h3 h5 => lv_irem X.1.1 X.1.2.1 hd hne (k hF H locs ls h1 h2 h3 h5)
theorem s_iushr (X : z_X p R s m args meth c E cc nL own Ts fr lo M0 fin.2) {x y : Int32} (hd : decode cc pc = .ok (.iushr, 1))
    (k : z_S p l e R s m args below meth c Q E nL M0 fin M (pc + 1) lv (zi ((x.toUInt32 >>> (y.toUInt32 &&& Int32.toUInt32 31)).toInt32) :: st) f) : z_S p l e R s m args below meth c Q E nL M0 fin M pc lv (zi y :: zi x :: st) f :=
  fun hF H locs ls h1 h2 h3 h5 => lv_iushr X.1.1 X.1.2.1 hd rfl (k hF H locs ls h1 h2 h3 h5)
theorem s_ladd (X : z_X p R s m args meth c E cc nL own Ts fr lo M0 fin.2) {x y : Int64} (hd : decode cc pc = .ok (.ladd, 1))
    (k : z_S p l e R s m args below meth c Q E nL M0 fin M (pc + 1) lv (zl (x + y) :: st) f) : z_S p l e R s m args below meth c Q E nL M0 fin M pc lv (zl y :: zl x :: st) f :=
  fun hF H locs ls h1 h2 h3 h5 => lv_ladd X.1.1 X.1.2.1 hd (k hF H locs ls h1 h2 h3 h5)
theorem s_ineg (X : z_X p R s m args meth c E cc nL own Ts fr lo M0 fin.2) {x : Int32} (hd : decode cc pc = .ok (.ineg, 1))
    (k : z_S p l e R s m args below meth c Q E nL M0 fin M (pc + 1) lv (zi (-x) :: st) f) : z_S p l e R s m args below meth c Q E nL M0 fin M pc lv (zi x :: st) f :=
  fun hF H locs ls h1 h2 h3 h5 => lv_ineg X.1.1 X.1.2.1 hd (k hF H locs ls h1 h2 h3 h5)
theorem s_i2l (X : z_X p R s m args meth c E cc nL own Ts fr lo M0 fin.2) {x : Int32} (hd : decode cc pc = .ok (.i2l, 1))
    (k : z_S p l e R s m args below meth c Q E nL M0 fin M (pc + 1) lv (zl x.toInt64 :: st) f) : z_S p l e R s m args below meth c Q E nL M0 fin M pc lv (zi x :: st) f :=
  fun hF H locs ls h1 h2 h3 h5 => lv_i2l X.1.1 X.1.2.1 hd rfl (k hF H locs ls h1 h2 h3 h5)
theorem s_l2i (X : z_X p R s m args meth c E cc nL own Ts fr lo M0 fin.2) {x : Int64} (hd : decode cc pc = .ok (.l2i, 1))
    (k : z_S p l e R s m args below meth c Q E nL M0 fin M (pc + 1) lv (zi x.toInt32 :: st) f) : z_S p l e R s m args below meth c Q E nL M0 fin M pc lv (zl x :: st) f :=
  fun hF H locs ls h1 h2 h3 h5 => lv_l2i X.1.1 X.1.2.1 hd rfl (k hF H locs ls h1 h2 h3 h5)
theorem s_if_eq (X : z_X p R s m args meth c E cc nL own Ts fr lo M0 fin.2) {x : Int32} {off : Int} (tgt : Nat) {f g : zMn ρ} (hd : decode cc pc = .ok (.ifCond .eq off, 3)) (ht : (pc : Int) + off = (tgt : Int))
    (kt : x = 0 → z_S p l e R s m args below meth c Q E nL M0 fin M tgt lv st f) (kf : ¬ x = 0 → z_S p l e R s m args below meth c Q E nL M0 fin M (pc + 3) lv st g) : z_S p l e R s m args below meth c Q E nL M0 fin M pc lv (zi x :: st) (if x = 0 then f else g) := by
  intro hF H locs ls h1 h2 h3 h5
  refine lv_if_eq X.1.1 X.1.2.1 hd ht (fun q => kt q ?_ H locs ls h1 h2 h3 h5) (fun q => kf q ?_ H locs ls h1 h2 h3 h5)
  · rw [z_ift q] at hF; exact hF
  · rw [z_iff q] at hF; exact hF
theorem s_icmp_eq (X : z_X p R s m args meth c E cc nL own Ts fr lo M0 fin.2) {x y : Int32} {off : Int} (tgt : Nat) {f g : zMn ρ} (hd : decode cc pc = .ok (.if_icmp .eq off, 3)) (ht : (pc : Int) + off = (tgt : Int))
    (kt : x = y → z_S p l e R s m args below meth c Q E nL M0 fin M tgt lv st f) (kf : ¬ x = y → z_S p l e R s m args below meth c Q E nL M0 fin M (pc + 3) lv st g) : z_S p l e R s m args below meth c Q E nL M0 fin M pc lv (zi y :: zi x :: st) (if x = y then f else g) := by
  intro hF H locs ls h1 h2 h3 h5
  refine lv_icmp_eq X.1.1 X.1.2.1 hd ht (fun q => kt q ?_ H locs ls h1 h2 h3 h5) (fun q => kf q ?_ H locs ls h1 h2 h3 h5)
  · rw [z_ift q] at hF; exact hF
  · rw [z_iff q] at hF; exact hF
theorem s_if_ne (X : z_X p R s m args meth c E cc nL own Ts fr lo M0 fin.2) {x : Int32} {off : Int} (tgt : Nat) {f g : zMn ρ} (hd : decode cc pc = .ok (.ifCond .ne off, 3)) (ht : (pc : Int) + off = (tgt : Int))
    (kt : ¬ x = 0 → z_S p l e R s m args below meth c Q E nL M0 fin M tgt lv st f) (kf : x = 0 → z_S p l e R s m args below meth c Q E nL M0 fin M (pc + 3) lv st g) : z_S p l e R s m args below meth c Q E nL M0 fin M pc lv (zi x :: st) (if x = 0 then g else f) := by
  intro hF H locs ls h1 h2 h3 h5
  refine lv_if_ne X.1.1 X.1.2.1 hd ht (fun q => kt q ?_ H locs ls h1 h2 h3 h5) (fun q => kf q ?_ H locs ls h1 h2 h3 h5)
  · rw [z_iff q] at hF; exact hF
  · rw [z_ift q] at hF; exact hF
theorem s_icmp_ne (X : z_X p R s m args meth c E cc nL own Ts fr lo M0 fin.2) {x y : Int32} {off : Int} (tgt : Nat) {f g : zMn ρ} (hd : decode cc pc = .ok (.if_icmp .ne off, 3)) (ht : (pc : Int) + off = (tgt : Int))
    (kt : ¬ x = y → z_S p l e R s m args below meth c Q E nL M0 fin M tgt lv st f) (kf : x = y → z_S p l e R s m args below meth c Q E nL M0 fin M (pc + 3) lv st g) : z_S p l e R s m args below meth c Q E nL M0 fin M pc lv (zi y :: zi x :: st) (if x = y then g else f) := by
  intro hF H locs ls h1 h2 h3 h5
  refine lv_icmp_ne X.1.1 X.1.2.1 hd ht (fun q => kt q ?_ H locs ls h1 h2 h3 h5) (fun q => kf q ?_ H locs ls h1 h2 h3 h5)
  · rw [z_iff q] at hF; exact hF
  · rw [z_ift q] at hF; exact hF
theorem s_if_lt (X : z_X p R s m args meth c E cc nL own Ts fr lo M0 fin.2) {x : Int32} {off : Int} (tgt : Nat) {f g : zMn ρ} (hd : decode cc pc = .ok (.ifCond .lt off, 3)) (ht : (pc : Int) + off = (tgt : Int))
    (kt : x < 0 → z_S p l e R s m args below meth c Q E nL M0 fin M tgt lv st f) (kf : ¬ x < 0 → z_S p l e R s m args below meth c Q E nL M0 fin M (pc + 3) lv st g) : z_S p l e R s m args below meth c Q E nL M0 fin M pc lv (zi x :: st) (if x < 0 then f else g) := by
  intro hF H locs ls h1 h2 h3 h5
  refine lv_if_lt X.1.1 X.1.2.1 hd ht (fun q => kt q ?_ H locs ls h1 h2 h3 h5) (fun q => kf q ?_ H locs ls h1 h2 h3 h5)
  · rw [z_ift q] at hF; exact hF
  · rw [z_iff q] at hF; exact hF
theorem s_icmp_lt (X : z_X p R s m args meth c E cc nL own Ts fr lo M0 fin.2) {x y : Int32} {off : Int} (tgt : Nat) {f g : zMn ρ} (hd : decode cc pc = .ok (.if_icmp .lt off, 3)) (ht : (pc : Int) + off = (tgt : Int))
    (kt : x < y → z_S p l e R s m args below meth c Q E nL M0 fin M tgt lv st f) (kf : ¬ x < y → z_S p l e R s m args below meth c Q E nL M0 fin M (pc + 3) lv st g) : z_S p l e R s m args below meth c Q E nL M0 fin M pc lv (zi y :: zi x :: st) (if x < y then f else g) := by
  intro hF H locs ls h1 h2 h3 h5
  refine lv_icmp_lt X.1.1 X.1.2.1 hd ht (fun q => kt q ?_ H locs ls h1 h2 h3 h5) (fun q => kf q ?_ H locs ls h1 h2 h3 h5)
  · rw [z_ift q] at hF; exact hF
  · rw [z_iff q] at hF; exact hF
theorem s_if_ge (X : z_X p R s m args meth c E cc nL own Ts fr lo M0 fin.2) {x : Int32} {off : Int} (tgt : Nat) {f g : zMn ρ} (hd : decode cc pc = .ok (.ifCond .ge off, 3)) (ht : (pc : Int) + off = (tgt : Int))
    (kt : 0 ≤ x → z_S p l e R s m args below meth c Q E nL M0 fin M tgt lv st f) (kf : ¬ 0 ≤ x → z_S p l e R s m args below meth c Q E nL M0 fin M (pc + 3) lv st g) : z_S p l e R s m args below meth c Q E nL M0 fin M pc lv (zi x :: st) (if 0 ≤ x then f else g) := by
  intro hF H locs ls h1 h2 h3 h5
  refine lv_if_ge X.1.1 X.1.2.1 hd ht (fun q => kt q ?_ H locs ls h1 h2 h3 h5) (fun q => kf q ?_ H locs ls h1 h2 h3 h5)
  · rw [z_ift q] at hF; exact hF
  · rw [z_iff q] at hF; exact hF
theorem s_icmp_ge (X : z_X p R s m args meth c E cc nL own Ts fr lo M0 fin.2) {x y : Int32} {off : Int} (tgt : Nat) {f g : zMn ρ} (hd : decode cc pc = .ok (.if_icmp .ge off, 3)) (ht : (pc : Int) + off = (tgt : Int))
    (kt : y ≤ x → z_S p l e R s m args below meth c Q E nL M0 fin M tgt lv st f) (kf : ¬ y ≤ x → z_S p l e R s m args below meth c Q E nL M0 fin M (pc + 3) lv st g) : z_S p l e R s m args below meth c Q E nL M0 fin M pc lv (zi y :: zi x :: st) (if y ≤ x then f else g) := by
  intro hF H locs ls h1 h2 h3 h5
  refine lv_icmp_ge X.1.1 X.1.2.1 hd ht (fun q => kt q ?_ H locs ls h1 h2 h3 h5) (fun q => kf q ?_ H locs ls h1 h2 h3 h5)
  · rw [z_ift q] at hF; exact hF
  · rw [z_iff q] at hF; exact hF
theorem s_if_gt (X : z_X p R s m args meth c E cc nL own Ts fr lo M0 fin.2) {x : Int32} {off : Int} (tgt : Nat) {f g : zMn ρ} (hd : decode cc pc = .ok (.ifCond .gt off, 3)) (ht : (pc : Int) + off = (tgt : Int))
    (kt : 0 < x → z_S p l e R s m args below meth c Q E nL M0 fin M tgt lv st f) (kf : ¬ 0 < x → z_S p l e R s m args below meth c Q E nL M0 fin M (pc + 3) lv st g) : z_S p l e R s m args below meth c Q E nL M0 fin M pc lv (zi x :: st) (if 0 < x then f else g) := by
  intro hF H locs ls h1 h2 h3 h5
  refine lv_if_gt X.1.1 X.1.2.1 hd ht (fun q => kt q ?_ H locs ls h1 h2 h3 h5) (fun q => kf q ?_ H locs ls h1 h2 h3 h5)
  · rw [z_ift q] at hF; exact hF
  · rw [z_iff q] at hF; exact hF
theorem s_icmp_gt (X : z_X p R s m args meth c E cc nL own Ts fr lo M0 fin.2) {x y : Int32} {off : Int} (tgt : Nat) {f g : zMn ρ} (hd : decode cc pc = .ok (.if_icmp .gt off, 3)) (ht : (pc : Int) + off = (tgt : Int))
    (kt : y < x → z_S p l e R s m args below meth c Q E nL M0 fin M tgt lv st f) (kf : ¬ y < x → z_S p l e R s m args below meth c Q E nL M0 fin M (pc + 3) lv st g) : z_S p l e R s m args below meth c Q E nL M0 fin M pc lv (zi y :: zi x :: st) (if y < x then f else g) := by
  intro hF H locs ls h1 h2 h3 h5
  refine lv_icmp_gt X.1.1 X.1.2.1 hd ht (fun q => kt q ?_ H locs ls h1 h2 h3 h5) (fun q => kf q ?_ H locs ls h1 h2 h3 h5)
  · rw [z_ift q] at hF; exact hF
  · rw [z_iff q] at hF; exact hF
theorem s_if_le (X : z_X p R s m args meth c E cc nL own Ts fr lo M0 fin.2) {x : Int32} {off : Int} (tgt : Nat) {f g : zMn ρ} (hd : decode cc pc = .ok (.ifCond .le off, 3)) (ht : (pc : Int) + off = (tgt : Int))
    (kt : x ≤ 0 → z_S p l e R s m args below meth c Q E nL M0 fin M tgt lv st f) (kf : ¬ x ≤ 0 → z_S p l e R s m args below meth c Q E nL M0 fin M (pc + 3) lv st g) : z_S p l e R s m args below meth c Q E nL M0 fin M pc lv (zi x :: st) (if x ≤ 0 then f else g) := by
  intro hF H locs ls h1 h2 h3 h5
  refine lv_if_le X.1.1 X.1.2.1 hd ht (fun q => kt q ?_ H locs ls h1 h2 h3 h5) (fun q => kf q ?_ H locs ls h1 h2 h3 h5)
  · rw [z_ift q] at hF; exact hF
  · rw [z_iff q] at hF; exact hF
theorem s_icmp_le (X : z_X p R s m args meth c E cc nL own Ts fr lo M0 fin.2) {x y : Int32} {off : Int} (tgt : Nat) {f g : zMn ρ} (hd : decode cc pc = .ok (.if_icmp .le off, 3)) (ht : (pc : Int) + off = (tgt : Int))
    (kt : x ≤ y → z_S p l e R s m args below meth c Q E nL M0 fin M tgt lv st f) (kf : ¬ x ≤ y → z_S p l e R s m args below meth c Q E nL M0 fin M (pc + 3) lv st g) : z_S p l e R s m args below meth c Q E nL M0 fin M pc lv (zi y :: zi x :: st) (if x ≤ y then f else g) := by
  intro hF H locs ls h1 h2 h3 h5
  refine lv_icmp_le X.1.1 X.1.2.1 hd ht (fun q => kt q ?_ H locs ls h1 h2 h3 h5) (fun q => kf q ?_ H locs ls h1 h2 h3 h5)
  · rw [z_ift q] at hF; exact hF
  · rw [z_iff q] at hF; exact hF
theorem s_goto (X : z_X p R s m args meth c E cc nL own Ts fr lo M0 fin.2) {off : Int} (tgt : Nat) (hd : decode cc pc = .ok (.goto off, 3)) (ht : (pc : Int) + off = (tgt : Int))
    (k : z_S p l e R s m args below meth c Q E nL M0 fin M tgt lv st f) : z_S p l e R s m args below meth c Q E nL M0 fin M pc lv st f :=
  fun hF H locs ls h1 h2 h3 h5 => lv_goto X.1.1 X.1.2.1 hd ht (k hF H locs ls h1 h2 h3 h5)
theorem s_ifnull (X : z_X p R s m args meth c E cc nL own Ts fr lo M0 fin.2) {x : Option Nat} {off : Int} (tgt : Nat) {f g : zMn ρ} (hd : decode cc pc = .ok (.ifnull off, 3)) (ht : (pc : Int) + off = (tgt : Int))
    (kt : x = none → z_S p l e R s m args below meth c Q E nL M0 fin M tgt lv st f) (kf : ¬ x = none → z_S p l e R s m args below meth c Q E nL M0 fin M (pc + 3) lv st g) : z_S p l e R s m args below meth c Q E nL M0 fin M pc lv (za x :: st) (if x = none then f else g) := by
  intro hF H locs ls h1 h2 h3 h5
  cases x with
  | none =>
    rw [z_ift rfl] at hF
    exact lv_ifnullN X.1.1 X.1.2.1 hd ht (kt rfl hF H locs ls h1 h2 h3 h5)
  | some a =>
    have q : ¬ (some a : Option Nat) = none := fun q => by cases q
    rw [z_iff q] at hF
    exact lv_ifnull X.1.1 X.1.2.1 hd (kf q hF H locs ls h1 h2 h3 h5)
theorem s_ifnonnull (X : z_X p R s m args meth c E cc nL own Ts fr lo M0 fin.2) {x : Option Nat} {off : Int} (tgt : Nat) {f g : zMn ρ} (hd : decode cc pc = .ok (.ifnonnull off, 3)) (ht : (pc : Int) + off = (tgt : Int))
    (kt : ¬ x = none → z_S p l e R s m args below meth c Q E nL M0 fin M tgt lv st f) (kf : x = none → z_S p l e R s m args below meth c Q E nL M0 fin M (pc + 3) lv st g) : z_S p l e R s m args below meth c Q E nL M0 fin M pc lv (za x :: st) (if x = none then g else f) := by
  intro hF H locs ls h1 h2 h3 h5
  cases x with
  | none =>
    rw [z_ift rfl] at hF
    exact lv_ifnonnullN X.1.1 X.1.2.1 hd (kf rfl hF H locs ls h1 h2 h3 h5)
  | some a =>
    have q : ¬ (some a : Option Nat) = none := fun q => by cases q
    rw [z_iff q] at hF
    exact lv_ifnonnull X.1.1 X.1.2.1 hd ht (kt q hF H locs ls h1 h2 h3 h5)
theorem s_dup (X : z_X p R s m args meth c E cc nL own Ts fr lo M0 fin.2) {va : zV} (hd : decode cc pc = .ok (.dup, 1)) (hva : z_c2 va = false)
    (k : z_S p l e R s m args below meth c Q E nL M0 fin M (pc + 1) lv (va :: va :: st) f) : z_S p l e R s m args below meth c Q E nL M0 fin M pc lv (va :: st) f :=
  fun hF H locs ls h1 h2 h3 h5 => lv_dup X.1.1 X.1.2.1 hd (z_cat1 hva) (k hF H locs ls h1 h2 h3 h5)
theorem s_pop (X : z_X p R s m args meth c E cc nL own Ts fr lo M0 fin.2) {va : zV} (hd : decode cc pc = .ok (.pop, 1)) (hva : z_c2 va = false)
    (k : z_S p l e R s m args below meth c Q E nL M0 fin M (pc + 1) lv (st) f) : z_S p l e R s m args below meth c Q E nL M0 fin M pc lv (va :: st) f :=
  fun hF H locs ls h1 h2 h3 h5 => lv_pop X.1.1 X.1.2.1 hd (z_cat1 hva) (k hF H locs ls h1 h2 h3 h5)
theorem s_dup_x1 (X : z_X p R s m args meth c E cc nL own Ts fr lo M0 fin.2) {va vb : zV} (hd : decode cc pc = .ok (.dup_x1, 1)) (hva : z_c2 va = false) (hvb : z_c2 vb = false)
    (k : z_S p l e R s m args below meth c Q E nL M0 fin M (pc + 1) lv (va :: vb :: va :: st) f) : z_S p l e R s m args below meth c Q E nL M0 fin M pc lv (va :: vb :: st) f :=
  fun hF H locs ls h1 h2 h3 h5 => lv_dup_x1 X.1.1 X.1.2.1 hd (z_cat1 hva) (z_cat1 hvb) (k hF H locs ls h1 h2 h3 h5)
theorem s_dup_x2 (X : z_X p R s m args meth c E cc nL own Ts fr lo M0 fin.2) {va vb vd : zV} (hd : decode cc pc = .ok (.dup_x2, 1)) (hva : z_c2 va = false) (hvb : z_c2 vb = false) (hvd : z_c2 vd = false)
    (k : z_S p l e R s m args below meth c Q E nL M0 fin M (pc + 1) lv (va :: vb :: vd :: va :: st) f) : z_S p l e R s m args below meth c Q E nL M0 fin M pc lv (va :: vb :: vd :: st) f :=
  fun hF H locs ls h1 h2 h3 h5 => lv_dup_x2 X.1.1 X.1.2.1 hd (z_cat1 hva) (z_cat1 hvb) (z_cat1 hvd) (k hF H locs ls h1 h2 h3 h5)
theorem s_dup2 (X : z_X p R s m args meth c E cc nL own Ts fr lo M0 fin.2) {va vb : zV} (hd : decode cc pc = .ok (.dup2, 1)) (hva : z_c2 va = false) (hvb : z_c2 vb = false)
    (k : z_S p l e R s m args below meth c Q E nL M0 fin M (pc + 1) lv (va :: vb :: va :: vb :: st) f) : z_S p l e R s m args below meth c Q E nL M0 fin M pc lv (va :: vb :: st) f :=
  fun hF H locs ls h1 h2 h3 h5 => lv_dup2_11 X.1.1 X.1.2.1 hd (z_cat1 hva) (z_cat1 hvb) (k hF H locs ls h1 h2 h3 h5)
/-- a number gets a name -/
theorem s_let {x : Int32} {g : Int32 → zMn ρ} (k : ∀ y : Int32, z_S p l e R s m args below meth c Q E nL M0 fin M pc lv (zi y :: st) (g y)) : z_S p l e R s m args below meth c Q E nL M0 fin M pc lv (zi x :: st) (z_bd (z_ret x) g) := fun hF => k x hF
theorem s_letc {x : Int32} {g : Int32 → zMn ρ} {lv1 : Int32 → List (Nat × zV)} (k : ∀ y : Int32, z_S p l e R s m args below meth c Q E nL M0 fin M pc (lv1 y) st (g y)) : z_S p l e R s m args below meth c Q E nL M0 fin M pc (lv1 x) st (z_bd (z_ret x) g) := fun hF => k x hF
theorem s_eq {f' : zMn ρ} (h : f = f') (k : z_S p l e R s m args below meth c Q E nL M0 fin M pc lv st f') : z_S p l e R s m args below meth c Q E nL M0 fin M pc lv st f := h ▸ k
theorem s_lv (lv' : List (Nat × zV)) (is : List Nat) (h : is.filterMap (fun i => lv[i]?) = lv') (k : z_S p l e R s m args below meth c Q E nL M0 fin M pc lv' st f) : z_S p l e R s m args below meth c Q E nL M0 fin M pc lv st f := by
  intro hF H locs ls h1 h2 h3 h5
  refine k hF H locs ls h1 h2 h3 ⟨h5.1, h5.2.1, fun q hq => ?_⟩
  obtain ⟨r, hr, rfl⟩ := List.mem_map.mp hq
  rw [← h] at hr
  obtain ⟨i, -, hi⟩ := List.mem_filterMap.mp hr
  exact h5.2.2 _ (List.mem_map.mpr ⟨r, List.mem_of_getElem? hi, rfl⟩)
/-- a loop -/
theorem s_fix {σ : Type} {body : (σ → zMn ρ) → σ → zMn ρ} {lv1 : σ → List (Nat × zV)} {st1 : σ → List zV} (h : ∀ ih : σ → zMn ρ, (∀ (a : σ) (M : zM), z_S p l e R s m args below meth c Q E nL M0 fin M pc (lv1 a) (st1 a) (ih a)) → ∀ (a : σ) (M : zM), z_S p l e R s m args below meth c Q E nL M0 fin M pc (lv1 a) (st1 a) (body ih a)) : ∀ (n : Nat) (a : σ) (M : zM), z_S p l e R s m args below meth c Q E nL M0 fin M pc (lv1 a) (st1 a) (z_fix body n a) := by
  intro n
  induction n with
  | zero => intro a M hF; cases hF
  | succ n ih => intro a M; exact h _ ih a M
end ZS
