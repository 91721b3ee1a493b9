/-! clone of an int[], System.arraycopy between two int[] from their beginnings, Arrays.copyOf -/
def z_isI (v : Value) : Bool := match v with
  | .int _ => true
  | _ => false
def z_ia (v : Option Nat) : zMn (List Value) := z_rd fun M => (z_ar M v).bind fun x => if x.1 = 0 ∧ x.2.all z_isI = true then some x.2 else none
theorem z_ia_inv {v : Option Nat} {M : zM} {r : List Value × zM} (h : (z_ia v).1 M = some r) : ∃ b, v = some b ∧ M[b]? = some (.inl (0, r.1)) ∧ r.1.all z_isI = true ∧ r.2 = M := by
  obtain ⟨vs, hx, rfl⟩ := z_rd_inv h
  cases hA : z_ar M v with
  | none => rw [hA] at hx; cases hx
  | some y =>
    obtain ⟨k, ws⟩ := y
    rw [hA] at hx
    simp only [Option.bind_some] at hx
    split at hx
    · rename_i hc
      cases hx
      obtain ⟨b, hb, hM⟩ := z_ar_inv hA
      have hk : k = 0 := hc.1
      subst hk
      exact ⟨b, hb, hM, hc.2, rfl⟩
    · cases hx
def z_cp (v w : Option Nat) (n : Int32) : zMn Unit := z_wr fun M => w.bind fun b => (z_ar M v).bind fun x => (z_ar M w).bind fun y => if (x.1 = 0 ∧ y.1 = 0 ∧ x.2.all z_isI = true) ∧ ¬ n < 0 ∧ n.toNatClampNeg ≤ x.2.length ∧ n.toNatClampNeg ≤ y.2.length then some (b, .inl (0, x.2.take n.toNatClampNeg ++ y.2.drop n.toNatClampNeg)) else none
theorem z_cp_inv {v w : Option Nat} {n : Int32} {M : zM} {r : Unit × zM} (h : (z_cp v w n).1 M = some r) : ∃ a b vs us, v = some a ∧ w = some b ∧ M[a]? = some (.inl (0, vs)) ∧ M[b]? = some (.inl (0, us)) ∧ vs.all z_isI = true ∧ ¬ n < 0 ∧ n.toNatClampNeg ≤ vs.length ∧ n.toNatClampNeg ≤ us.length ∧ z_g0 ≤ b ∧ r = ((), M.set b (.inl (0, vs.take n.toNatClampNeg ++ us.drop n.toNatClampNeg))) := by
  obtain ⟨b, c0, c', hg, hc, -, hg0, rfl⟩ := z_wr_inv h
  cases w with
  | none => cases hg
  | some b' =>
    simp only [Option.bind_some] at hg
    cases hA : z_ar M v with
    | none => rw [hA] at hg; cases hg
    | some x =>
      rw [hA] at hg
      simp only [Option.bind_some] at hg
      cases hB : z_ar M (some b') with
      | none => rw [hB] at hg; cases hg
      | some y =>
        rw [hB] at hg
        simp only [Option.bind_some] at hg
        split at hg
        · rename_i hq
          obtain ⟨k, vs⟩ := x
          obtain ⟨k2, us⟩ := y
          obtain ⟨⟨e1, e2, e3⟩, e4, e5, e6⟩ := hq
          have e1' : k = 0 := e1
          have e2' : k2 = 0 := e2
          subst e1'; subst e2'
          cases hg
          obtain ⟨a, ha, hMa⟩ := z_ar_inv hA
          obtain ⟨b2, hb2, hMb⟩ := z_ar_inv hB
          cases hb2
          exact ⟨a, _, vs, us, ha, rfl, hMa, hMb, e3, e4, e5, e6, hg0, rfl⟩
        · cases hg
theorem z_pairs (xs : List Value) : ∀ (c : Cell) (i : Nat), i + xs.length ≤ c.slots.size → (c.storePairs 0 (xs.zipIdx i)).slots.toList = c.slots.toList.take i ++ xs ++ c.slots.toList.drop (i + xs.length) ∧ (c.storePairs 0 (xs.zipIdx i)).cls = c.cls ∧ (c.storePairs 0 (xs.zipIdx i)).vm = c.vm := by
  induction xs with
  | nil =>
    intro c i _
    refine ⟨?_, rfl, rfl⟩
    show c.slots.toList = _
    simp
  | cons x xs ih =>
    intro c i hi
    have hlen : i < c.slots.size := by simp at hi; omega
    have e : c.storePairs 0 ((x :: xs).zipIdx i) = (c.setSlot (0 + i) x).storePairs 0 (xs.zipIdx (i + 1)) := by
      rw [List.zipIdx_cons]; rfl
    rw [e, Nat.zero_add]
    have hs : (c.setSlot i x).slots.toList = c.slots.toList.set i x := Array.toList_setIfInBounds
    have hz : (c.setSlot i x).slots.size = c.slots.size := by
      rw [← Array.length_toList, hs, List.length_set, Array.length_toList]
    obtain ⟨a1, a2, a3⟩ := ih (c.setSlot i x) (i + 1) (by rw [hz]; simp at hi; omega)
    refine ⟨?_, a2, a3⟩
    rw [a1, hs]
    have hl : i < c.slots.toList.length := by rw [Array.length_toList]; exact hlen
    have t1 : (c.slots.toList.set i x).take (i + 1) = c.slots.toList.take i ++ [x] := by
      rw [List.take_add_one, List.take_set_of_le (Nat.le_refl i), List.getElem?_set_self hl]
      rfl
    have t2 : (c.slots.toList.set i x).drop (i + 1 + xs.length) = c.slots.toList.drop (i + (x :: xs).length) := by
      rw [List.drop_set_of_lt (by omega)]
      congr 1
      simp; omega
    rw [t1, t2]
    simp
theorem z_stretch {E : zE} {cs : Cell} {vs : List Value} {n : Nat} (h : cs.slots.toList = vs.map (z_sh E)) (hn : n ≤ vs.length) : cs.stretch 0 n = (vs.take n).map (z_sh E) := by
  unfold Cell.stretch
  apply List.ext_getElem?
  intro j
  by_cases hj : j < n
  · rw [List.getElem?_map, List.getElem?_range hj, List.getElem?_map, List.getElem?_take_of_lt hj]
    simp only [Option.map_some, Nat.zero_add]
    rw [Array.getD_eq_getD_getElem?, ← Array.getElem?_toList, h, List.getElem?_map, List.getElem?_eq_getElem (by omega)]
    rfl
  · rw [List.getElem?_eq_none (by simp; omega), List.getElem?_eq_none (by simp; omega)]
section ZJ
variable {ρ : Type} {p : Program} {l : Launch} {e : Env} {R : Room} {s : State} {m : MethodId} {args : Array Value} {below : List Frame} {meth : Method} {c : Code} {Q : State → Prop} {E : zE} {cc : ByteArray} {nL : Nat} {own : String} {Ts : List Cond} {fr lo : Nat} {M0 : zM} {fin : ρ × zM} {M : zM} {pc : Nat} {lv lv' : List (Nat × zV)} {st : List zV} {f : zMn ρ}
theorem z_nmI (hK : z_K E s) : s.vm.findClass "[I" = some (E.2.2.2.2 0) := (hK.2.2.1 0 .int (by decide) rfl).2 (by decide) (by decide)
theorem z_isI_fit {vs : List Value} (h : vs.all z_isI = true) {v : Value} (hv : v ∈ vs.map (z_sh E)) : fits .int v = true := by
  obtain ⟨u, hu, rfl⟩ := List.mem_map.mp hv
  have := List.all_eq_true.mp h u hu
  cases u <;> first | rfl | cases this
theorem s_clone (X : z_X p R s m args meth c E cc nL own Ts fr lo M0 fin.2) {a : Option Nat} {g : Nat → zMn ρ} {index : Nat} (hl : Cond.methodLink own index ⟨"[I", "clone", "()Ljava/lang/Object;"⟩ ∈ Ts) (hsame : Cond.sameMethod "[I" "java/lang/Object" "clone" "()Ljava/lang/Object;" ∈ Ts) (hnat : Cond.native ⟨"java/lang/Object", "clone", "()Ljava/lang/Object;"⟩ ∈ Ts) (hinst : Cond.instanceMethod ⟨"java/lang/Object", "clone", "()Ljava/lang/Object;"⟩ ∈ Ts) (hsel : Cond.selects "[I" ⟨"[I", "clone", "()Ljava/lang/Object;"⟩ ⟨"java/lang/Object", "clone", "()Ljava/lang/Object;"⟩ ∈ Ts) (hcst : ("[I", "java/lang/Cloneable") ∈ z_cst) (hR : 1 ≤ fr ∧ (st.map z_wt).sum + 14 ≤ lo) (hd : decode cc pc = .ok (.invokevirtual index, 3))
    (kk : ∀ (b : Nat) (M : zM), z_S p l e R s m args below meth c Q E nL M0 fin M (pc + 3) lv (za (some b) :: st) (g b)) : z_S p l e R s m args below meth c Q E nL M0 fin M pc lv (za a :: st) (z_bd (z_ia a) fun vs => z_bd (z_nw (.inl (0, vs))) g) := by
  intro hF H locs ls h1 h2 h3 h5
  obtain ⟨⟨vs, M'⟩, hq, hG⟩ := z_bd_inv hF
  clear hF
  obtain ⟨b, rfl, hM, hall, hM'⟩ := z_ia_inv hq
  dsimp only at hM hall hM' hG
  subst hM'
  obtain ⟨q2, hq2, hK9⟩ := z_bd_inv hG
  clear hG
  cases hq2
  obtain ⟨cell, g1, g2, g3, g4, g5, g6, g7⟩ := z_ar_at X.2.1 h1 hM (ty := .int) rfl (by decide)
  have hts := X.1.2.2.2.2
  have hnm := z_nmI X.2.1
  have hfin := (g M'.length).2 _ _ hK9
  dsimp only at hfin
  obtain ⟨el, es⟩ := z_len_push (c0 := .inl (0, vs)) h3
  have en : zn (.inl (0, vs)) = vs.length := rfl
  rw [en] at es
  have hsz := z_slots_size g5
  obtain ⟨c0, t0', f1, f2, f3⟩ := Cond.castable_spec (va_Nw.use (A := args) rfl (X.2.1.2.2.2.2.2.2.1 _ hcst))
  cases hnm.symm.trans f1
  intro T hT XS
  obtain ⟨-, kA, hkA, comp, hkind⟩ := State.isArrayOf_alike XS.warmed.alike ((X.2.1.2.2.1 0 .int (by decide) rfl).1 0 (fun _ => .null))
  obtain ⟨-, kS, hkS, compS, hkindS⟩ := (X.2.1.2.2.1 0 .int (by decide) rfl).1 0 (fun _ => .null)
  obtain ⟨vm', X', stp⟩ := XS.cloneArray X.1.1 X.1.2.2.2.1 (hts _ hl) (hts _ hsame) (hts _ hnat) (hts _ hinst) (hts _ hsel) (a := z_al E b) (cell := cell) (by rw [hT]; exact g1) g4 g3 (by rw [g6]; exact hnm) f2 (by rw [g6]; exact f3)
    (fun i v hv => by
      rw [g6]
      have hk' : T.vm.classes[E.2.2.2.2 0]? = some kA := hkA
      have hmem : v ∈ vs.map (z_sh E) := by rw [← g5]; exact List.mem_of_getElem? (i := i) (by rw [Array.getElem?_toList]; exact hv)
      simpa [State.fitsSlot, State.slotType?, hk', hkind] using z_isI_fit hall hmem)
    (g := F0 m pc ls (.ref (z_al E b) :: st.map (z_cv E))) rfl (by rw [X.1.2.2.1]; exact h5.1) rfl (by rw [X.1.2.1]; exact hd) (by rw [X.2.2.1]; exact hR.1) (by rw [X.2.2.2.1, z_wt_eq]; show 2 * 0 + _ + 14 ≤ _; have := hR.2; omega) (by have := X.2.2.2.2.1; have := hfin.1; omega) (by rw [hsz]; have := X.2.2.2.2.2.1; have := hfin.2; omega) (hloader := by rw [g6]; exact Vm.clonesLoader_of_array hkS hkindS)
  rw [hsz] at X'
  have hal : z_al E M'.length = H.size := z_ok_new h1
  generalize hH1 : H.push ({ cls := cell.cls, slots := cell.slots } : Cell) = H1
  have z1 : H1.size = H.size + 1 := by rw [← hH1, Array.size_push]
  have e1 : H1[H.size]? = some ({ cls := cell.cls, slots := cell.slots } : Cell) := by rw [← hH1, Array.getElem?_push_size]
  have o1 : ∀ q : Nat, q < H.size → H1[q]? = H[q]? := fun q hq => by rw [← hH1, Array.getElem?_push, if_neg (Nat.ne_of_lt hq)]
  have K := kk M'.length _ hK9 H1 locs ls (z_ok_push X.2.1.1 h1 z1 ⟨g7, ({ cls := cell.cls, slots := cell.slots } : Cell), by rw [hal]; exact e1, g6, (fun h => by cases h), (fun q h => by cases h), (z_ct_ne (k := 0) (by decide)).mpr g5⟩ o1) (z_S_push h2 z1 o1) (zgr_tr h3 (zgr_push M' _)) h5
  rw [el, es] at K
  have K2 : W p l e R s m args below meth c H1 locs (M'.length - M0.length + 1) (zsz M' - zsz M0 + vs.length) Q (F0 m (pc + 3) ls (.ref (z_al E M'.length) :: st.map (z_cv E))) := K
  rw [hal] at K2
  obtain ⟨t, b1, b2⟩ := K2 ((T.setVm vm').pushCell { cls := cell.cls, slots := cell.slots }) (by rw [← hH1, ← hT]; rfl) X'
  refine ⟨t, stp t ?_, b2⟩
  rw [hT]
  exact b1
/-- a cast of an int[] to int[] -/
theorem s_castI (X : z_X p R s m args meth c E cc nL own Ts fr lo M0 fin.2) {b : Nat} {index : Nat} (hl : Cond.classLink own index "[I" ∈ Ts) (hd : decode cc pc = .ok (.checkcast index, 3))
    (k : z_S p l e R s m args below meth c Q E nL M0 fin M (pc + 3) lv (za (some b) :: st) f) : z_S p l e R s m args below meth c Q E nL M0 fin M pc lv (za (some b) :: st) (z_bd (z_ia (some b)) fun _ => f) := by
  intro hF H locs ls h1 h2 h3 h5
  obtain ⟨⟨vs, M'⟩, hq, hG⟩ := z_bd_inv hF
  clear hF
  obtain ⟨b', hb', hM, hall, hM'⟩ := z_ia_inv hq
  cases hb'
  dsimp only at hM hall hM' hG
  subst hM'
  obtain ⟨cell, g1, g2, g3, g4, g5, g6, g7⟩ := z_ar_at X.2.1 h1 hM (ty := .int) rfl (by decide)
  have K := k hG H locs ls h1 h2 h3 h5
  intro T hT XS
  obtain ⟨vm', X', stp⟩ := XS.checkcastYes X.1.1 X.1.2.2.2.1 (X.1.2.2.2.2 _ hl) (by rw [hT]; exact g1) (by cases hv : cell.vm <;> first | rfl | exact absurd hv (g4 _)) (z_nmI X.2.1) (by rw [g6]; exact va_asg _ _) (g := F0 m pc ls (.ref (z_al E b) :: st.map (z_cv E))) rfl rfl (by rw [X.1.2.1]; exact hd)
  obtain ⟨t, a1, b1⟩ := K (T.setVm vm') hT X'
  exact ⟨t, stp t a1, b1⟩
theorem s_copy (X : z_X p R s m args meth c E cc nL own Ts fr lo M0 fin.2) {v w : Option Nat} {n : Int32} {g : Unit → zMn ρ} {index : Nat} (hl : Cond.methodLink own index arraycopyName ∈ Ts) (hnat : Cond.native arraycopyName ∈ Ts) (hstat : Cond.static arraycopyName ∈ Ts) (hini : Cond.initialized "java/lang/System" ∈ Ts) (hR : 1 ≤ fr ∧ (st.map z_wt).sum + (nativeFrameWords "java/lang/System" "arraycopy" 5 + 11) ≤ lo) (hd : decode cc pc = .ok (.invokestatic index, 3))
    (kk : ∀ M : zM, z_S p l e R s m args below meth c Q E nL M0 fin M (pc + 3) lv st (g ())) : z_S p l e R s m args below meth c Q E nL M0 fin M pc lv (zi n :: zi 0 :: za w :: zi 0 :: za v :: st) (z_bd (z_cp v w n) g) := by
  intro hF H locs ls h1 h2 h3 h5
  obtain ⟨q, hq, hG⟩ := z_bd_inv hF
  clear hF
  have hgr := (z_cp v w n).2 M q hq
  obtain ⟨a, b, vs, us, rfl, rfl, hMa, hMb, hall, hn0, hn1, hn2, hg0, rfl⟩ := z_cp_inv hq
  have hts := X.1.2.2.2.2
  obtain ⟨cs, g1, g2, g3, g4, g5, g6, g7⟩ := z_ar_at X.2.1 h1 hMa (ty := .int) rfl (by decide)
  obtain ⟨cd, k1, k2, k3, k4, k5, k6, k7⟩ := z_ar_at X.2.1 h1 hMb (ty := .int) rfl (by decide)
  have hz : zsz (M.set b (.inl (0, vs.take n.toNatClampNeg ++ us.drop n.toNatClampNeg))) = zsz M := zsz_set M b _ _ hMb (by simp [zn]; omega)
  obtain ⟨-, ks, hks, sc, hsk⟩ := g2
  obtain ⟨-, kd, hkd, dc, hdk⟩ := k2
  have nn : n.toInt = (n.toNatClampNeg : Int) := by
    have hz0 : (0 : Int) ≤ n.toInt := by
      have := Int32.not_lt.mp hn0
      simpa using Int32.le_iff_toInt_le.mp this
    show n.toInt = ((n.toInt.toNat : Nat) : Int)
    omega
  intro T hT XS
  obtain ⟨vm', X', stp⟩ := XS.arraycopy X.1.1 X.1.2.2.2.1 (hts _ hl) (hts _ hnat) (hts _ hstat) (hts _ hini) (src := z_al E a) (dst := z_al E b) (cs := cs) (cd := cd) (srcPos := 0) (destPos := 0) (n := n) (by rw [hT]; exact g1) (by rw [hT]; exact k1) g4 k4 g3 k3 hks hkd hsk hdk (by decide) (by decide) (by decide) hn0
    (by rw [z_slots_size g5, nn]; show ¬ ((0 : Int) + _ > _); omega) (by rw [z_slots_size k5, nn]; show ¬ ((0 : Int) + _ > _); omega)
    (fun vm₁ _ i hi => by
      have hlt : i < vs.length := by omega
      have ev : cs.slots.getD ((0 : Int32).toNatClampNeg + i) .null = z_sh E vs[i] := by
        rw [show (0 : Int32).toNatClampNeg = 0 from rfl, Nat.zero_add, Array.getD_eq_getD_getElem?, ← Array.getElem?_toList, g5, List.getElem?_map, List.getElem?_eq_getElem hlt]
        rfl
      rw [ev]
      have hI := List.all_eq_true.mp hall vs[i] (List.getElem_mem hlt)
      revert hI
      cases vs[i] <;> intro hI <;> first | exact ⟨rfl, trivial⟩ | cases hI)
    (g := F0 m pc ls (.int n :: .int 0 :: .ref (z_al E b) :: .int 0 :: .ref (z_al E a) :: st.map (z_cv E))) rfl (by rw [X.1.2.2.1]; exact h5.1) (rest := st.map (z_cv E)) rfl (by rw [X.1.2.1]; exact hd) (by rw [X.2.2.1]; exact hR.1) (by rw [X.2.2.2.1, z_wt_eq]; show 2 * 0 + _ + _ ≤ _; have := hR.2; omega)
  have hst : cs.stretch (0 : Int32).toNatClampNeg n.toNatClampNeg = (vs.take n.toNatClampNeg).map (z_sh E) := z_stretch g5 hn1
  have hlen : ((vs.take n.toNatClampNeg).map (z_sh E)).length = n.toNatClampNeg := by simp; omega
  obtain ⟨p1, p2, p3⟩ := z_pairs ((vs.take n.toNatClampNeg).map (z_sh E)) cd 0 (by rw [hlen, z_slots_size k5]; omega)
  generalize hnew : copied cs cd 0 0 n = cn at X' stp
  have hcn : cn = cd.storePairs 0 (((vs.take n.toNatClampNeg).map (z_sh E)).zipIdx 0) := by
    rw [← hnew]
    show cd.storePairs (0 : Int32).toNatClampNeg ((cs.stretch (0 : Int32).toNatClampNeg n.toNatClampNeg).zipIdx) = _
    rw [hst]; rfl
  rw [← hcn] at p1 p2 p3
  have hbl : z_al E b < H.size := z_ok_lt X.2.1.1 h1 (List.getElem?_eq_some_iff.mp hMb).1
  generalize hH1 : H.setIfInBounds (z_al E b) cn = H1
  have z1 : H1.size = H.size := by rw [← hH1]; simp
  have e1 : H1[z_al E b]? = some cn := by rw [← hH1]; simp [Array.getElem?_setIfInBounds, hbl]
  have o1 : ∀ q : Nat, q ≠ z_al E b → H1[q]? = H[q]? := fun q hq => by rw [← hH1]; simp [Array.getElem?_setIfInBounds, Ne.symm hq]
  have hat : z_at E H1 b (.inl (0, vs.take n.toNatClampNeg ++ us.drop n.toNatClampNeg)) := by
    refine ⟨k7, cn, e1, by rw [p2]; exact k6, by rw [p3]; exact k3, fun q => by rw [p3]; exact k4 q, (z_ct_ne (k := 0) (by decide)).mpr ?_⟩
    rw [p1, hlen, k5]
    simp
  have K := kk _ hG H1 (locs ++ (cs.stretch (0 : Int32).toNatClampNeg n.toNatClampNeg).zipIdx.map fun q => ⟨z_al E b, (0 : Int32).toNatClampNeg + q.2⟩) ls (z_ok_set X.2.1.1 h1 (List.getElem?_eq_some_iff.mp hMb).1 hg0 z1 hat o1)
    ⟨by rw [z1]; exact h2.1, fun q w1 w2 => by rw [o1 q (fun eq => w2 (by rw [eq]; exact z_al_ge hg0))]; exact h2.2.1 q w1 w2, fun q hq => by
      rcases List.mem_append.mp hq with h | h
      · exact h2.2.2 q h
      · obtain ⟨z, -, hz2⟩ := List.mem_map.mp h
        rw [← hz2]
        exact z_al_ge hg0⟩ (zgr_tr h3 hgr) h5
  dsimp only at K
  rw [List.length_set, hz] at K
  obtain ⟨t, b1, b2⟩ := K ((T.setVm vm').setCell (z_al E b) cn) (by rw [← hH1, ← hT]; rfl) X'
  exact ⟨t, stp t b1, b2⟩
end ZJ
def F_J7_copyOf_59c91 (q0 : Option Nat) (p1 : Int32) : zMn (Option Nat) :=
  z_bd (z_len q0) fun n1 =>
  if p1 = n1 then (z_bd (z_ia q0) fun vs => z_bd (z_nw (.inl (0, vs))) fun a2 => z_bd (z_ia (some a2)) fun _ => z_ret (some a2)) else
  (z_bd (z_nwa 0 (.int 0) p1) fun a3 =>
  z_bd (z_len q0) fun n4 =>
  z_bd (z_cp q0 (some a3) (if p1 < n4 then p1 else n4)) fun _ =>
  z_ret (some a3))
theorem hy_J7_copyOf_59c91 : yJ7_copyOf_59c91.cls ≠ "java/lang/invoke/MethodHandle" ∧ yJ7_copyOf_59c91.cls ≠ "java/lang/invoke/VarHandle" ∧ (parseMethodDescriptor yJ7_copyOf_59c91.desc).map (fun d => d.parameters.length) = some 2 := by decide +kernel
set_option maxHeartbeats 4000000 in
set_option maxRecDepth 100000 in
theorem c_J7_copyOf_59c91 (l : Launch) (E : zE) (q0 : Option Nat) (p1 : Int32) : z_Met l E yJ7_copyOf_59c91 wsJ7_copyOf_59c91 1 40 [za q0, zi p1] z_ra (F_J7_copyOf_59c91 q0 p1) := by
  refine z_of (own := RJ7) (cc := cJ7_copyOf_59c91) (maxL := 3) (rt := (some (.array .int))) rfl (by decide) rfl (Nat.le_of_ble_eq_true rfl) ?_
  intro p e R s0 m args below meth c M0 fin X hr hnm
  refine s_iload_n X dJ7_copyOf_59c91_0 1 rfl ?_
  refine s_aload_n X dJ7_copyOf_59c91_1 0 rfl ?_
  refine s_len X dJ7_copyOf_59c91_2 (fun n1 => ?_)
  refine s_icmp_ne X 14 dJ7_copyOf_59c91_3 (by decide) (fun h => ?_) (fun h => ?_)
  · refine s_iload_n X dJ7_copyOf_59c91_14 1 rfl ?_
    refine s_nwi X (by decide +kernel) dJ7_copyOf_59c91_15 (fun a3 M => ?_)
    refine s_astore_n X dJ7_copyOf_59c91_17 (by decide) [(2, za (some a3)), (0, za q0), (1, zi p1)] rfl ?_
    refine s_aload_n X dJ7_copyOf_59c91_18 1 rfl ?_
    refine s_iconst X 0 dJ7_copyOf_59c91_19 (by decide) ?_
    refine s_aload_n X dJ7_copyOf_59c91_20 0 rfl ?_
    refine s_iconst X 0 dJ7_copyOf_59c91_21 (by decide) ?_
    refine s_aload_n X dJ7_copyOf_59c91_22 1 rfl ?_
    refine s_len X dJ7_copyOf_59c91_23 (fun n4 => ?_)
    refine s_iload_n X dJ7_copyOf_59c91_24 2 rfl ?_
    refine s_min X (by decide +kernel) (by decide +kernel) (by decide +kernel) (by decide +kernel) ⟨by decide, Nat.le_of_ble_eq_true rfl⟩ dJ7_copyOf_59c91_25 ?_
    refine s_copy X (by decide +kernel) (by decide +kernel) (by decide +kernel) (by decide +kernel) ⟨by decide, Nat.le_of_ble_eq_true rfl⟩ dJ7_copyOf_59c91_28 (fun M => ?_)
    refine s_aload_n X dJ7_copyOf_59c91_31 0 rfl ?_
    exact s_reta X hr (Or.inr ⟨_, rfl⟩) dJ7_copyOf_59c91_32
  · refine s_aload_n X dJ7_copyOf_59c91_6 0 rfl ?_
    refine s_clone X (by decide +kernel) (by decide +kernel) (by decide +kernel) (by decide +kernel) (by decide +kernel) (by decide) ⟨by decide, Nat.le_of_ble_eq_true rfl⟩ dJ7_copyOf_59c91_7 (fun a2 M => ?_)
    refine s_castI X (by decide +kernel) dJ7_copyOf_59c91_10 ?_
    exact s_reta X hr (Or.inr ⟨_, rfl⟩) dJ7_copyOf_59c91_13
