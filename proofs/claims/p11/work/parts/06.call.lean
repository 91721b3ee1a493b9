/-! STORES OF REFERENCES, NEW CELLS, CALLS, RETURNS, A METHOD'S START -/
section ZN
variable {ρ : Type} {p : Program} {l : Launch} {e : Env} {R : Room} {s : State} {m : MethodId} {args : Array Value} {below : List Frame} {meth : Method} {c : Code} {Q : State → Prop} {E : zE} {cc : ByteArray} {nL : Nat} {own : String} {Ts : List Cond} {fr lo : Nat} {M0 : zM} {fin : ρ × zM} {M : zM} {pc : Nat} {lv lv' : List (Nat × zV)} {st : List zV} {f : zMn ρ}
theorem s_sa (X : z_X p R s m args meth c E cc nL own Ts fr lo M0 fin.2) {a : Option Nat} {i : Int32} {x : Option Nat} {g : Unit → zMn ρ} (hd : decode cc pc = .ok (.aastore, 1))
    (kk : ∀ M : zM, z_S p l e R s m args below meth c Q E nL M0 fin M (pc + 1) lv st (g ())) : z_S p l e R s m args below meth c Q E nL M0 fin M pc lv (za x :: zi i :: za a :: st) (z_bd (z_sa a i x) g) := by
  intro hF H locs ls h1 h2 h3 h5
  obtain ⟨q, hq, hG⟩ := z_bd_inv hF
  clear hF
  have hgr := (z_sa a i x).2 M q hq
  obtain ⟨b, c0, c', hgo, hc0, hn, hg0, rfl⟩ := z_wr_inv hq
  cases a with
  | none => cases hgo
  | some b' =>
    simp only [Option.bind_some] at hgo
    cases hA : z_ar M (some b') with
    | none => rw [hA] at hgo; cases hgo
    | some y =>
      rw [hA] at hgo
      obtain ⟨k, vs⟩ := y
      simp only [Option.bind_some] at hgo
      split at hgo
      · rename_i hc
        cases hgo
        obtain ⟨b2, hb2, hM⟩ := z_ar_inv hA
        cases hb2
        obtain ⟨hk, -⟩ := h1.2.2 b _ hM
        obtain ⟨r, hr, ht⟩ := z_kq_ty hk hc.1
        obtain ⟨cell, g1, g2, g3, g4, g5, g6, g7⟩ := z_ar_at X.2.1 h1 hM ht (by have := hc.1; omega)
        have hz : zsz (M.set b (.inl (k, vs.set i.toNatClampNeg (va_rf x)))) = zsz M := zsz_set M b _ _ hM (by simp [zn])
        have done : ∀ H' : Heap, H'[z_al E b]? = some (cell.setSlot i.toNatClampNeg (z_sh E (va_rf x))) → H'.size = H.size → (∀ q, q ≠ z_al E b → H'[q]? = H[q]?) → W p l e R s m args below meth c H' (locs ++ [⟨z_al E b, i.toNatClampNeg⟩]) (M.length - M0.length) (zsz M - zsz M0) Q (F0 m (pc + 1) ls (st.map (z_cv E))) := by
          intro H' e1 e2 e3
          have K := kk _ hG H' _ ls (z_ok_set X.2.1.1 h1 ((List.getElem?_eq_some_iff.mp hM).1) hg0 e2 (z_at_store (v := va_rf x) g7 e1 g6 g3 g4 g5 (by have := hc.1; omega)) e3) (h2.put (k := i.toNatClampNeg) e2 e3 (z_al_ge hg0)) (zgr_tr h3 hgr) h5
          dsimp only at K
          rw [List.length_set, hz] at K
          exact K
        have hlt : i.toNatClampNeg < cell.slots.size := by rw [z_slots_size g5]; exact hc.2.2.1
        cases x with
        | none => exact va_WaastN (C := r.1) X.1.1 X.1.2.1 g1 g2 g3 (fun q => q.elim hc.2.1 (fun q => absurd hlt (Nat.not_lt.mpr q))) rfl rfl hd done
        | some v =>
          rcases hc.2.2.2 with h9 | h9
          · cases h9
          · cases hov : z_ob M (some v) (k - 8) with
            | none => rw [hov] at h9; cases h9
            | some fs =>
              obtain ⟨v', hv', hMv⟩ := z_ob_inv hov
              cases hv'
              obtain ⟨-, cellV, w1, w2, w3, -⟩ := z_ob_at h1 hMv hr
              have hcls := (X.2.1.2.1 (k - 8) r hr).2
              obtain ⟨kA, comp, k1, k2, k3, -⟩ := (X.2.1.2.2.1 k _ hk ht).2 (by have := hc.1; omega) (by have := hc.1; omega)
              have hcomp : comp = E.2.2.1 (k - 8) := Option.some.inj (k3.symm.trans hcls.1)
              subst hcomp
              have hcls' := hcls
              obtain ⟨kC, hkC, -⟩ := hcls'.2
              exact W.aast X.1.1 X.1.2.1 g1 g4 g3 (by rw [g6]; exact k1) k2 rfl hkC ⟨hc.2.1, hlt⟩ w1 (fun q h => by rw [w3] at h; cases h) (by rw [w2]; exact hkC) (by rw [w2]; exact va_assign hcls) rfl rfl hd done
      · cases hgo
theorem z_len_push {c0 : zC} (h : zgr M0 M) : (M ++ [c0]).length - M0.length = M.length - M0.length + 1 ∧ zsz (M ++ [c0]) - zsz M0 = zsz M - zsz M0 + zn c0 := by
  obtain ⟨a, b⟩ := h
  rw [zsz_push]
  simp
  omega
theorem z_S_push {va_S0 : Nat} {H H1 : Heap} {locs : List Loc} (h2 : va_S (fun q => va_S0 ≤ q) s.heap H locs) (z1 : H1.size = H.size + 1) (o1 : ∀ q : Nat, q < H.size → H1[q]? = H[q]?) : va_S (fun q => va_S0 ≤ q) s.heap H1 locs :=
  ⟨Nat.le_trans h2.1 (by omega), fun q g1 g2 => (o1 q (Nat.lt_of_lt_of_le g1 h2.1)).trans (h2.2.1 q g1 g2), h2.2.2⟩
/-- a new object -/
theorem s_nwo (X : z_X p R s m args meth c E cc nL own Ts fr lo M0 fin.2) {ci index N : Nat} {C : String} {T : u_T} {fs : List Value} {g : Nat → zMn ρ} (hc : vwCl[ci]? = some (C, T, N)) (hin : ∀ w ∈ u_ws C T N, w ∈ Ts) (ty0 : Nat → FieldType) (hty : ∀ k, k < N → parseFieldDescriptor (T k).2.2.1 = some (ty0 k)) (hcl : Cond.classLink own index C ∈ Ts) (hinst : Cond.instantiable C N ∈ Ts) (hini : Cond.initialized C ∈ Ts) (hlen : fs.length = N) (hfs : ∀ E : zE, ∀ j, j < N → defaultValue (ty0 j) = vp_V (fs.map (z_sh E)) j) (hd : decode cc pc = .ok (.new index, 3))
    (kk : ∀ (a : Nat) (M : zM), z_S p l e R s m args below meth c Q E nL M0 fin M (pc + 3) lv (za (some a) :: st) (g a)) : z_S p l e R s m args below meth c Q E nL M0 fin M pc lv st (z_bd (z_nw (.inr (ci, fs))) g) := by
  intro hF H locs ls h1 h2 h3 h5
  obtain ⟨q, hq, hG⟩ := z_bd_inv hF
  clear hF
  cases hq
  have hKn := X.2.1.2.1 ci _ hc
  have hfin := (g M.length).2 _ _ hG
  dsimp only at hfin
  obtain ⟨el, es⟩ := z_len_push (c0 := .inr (ci, fs)) h3
  have en : zn (.inr (ci, fs)) = N := hlen
  rw [en] at es
  have hts := X.1.2.2.2.2
  refine W.newcK X.1.1 X.1.2.1 X.1.2.2.2.1 (hts _ hcl) (hts _ hinst) (hts _ hini) rfl hd ?_ ?_ hKn.2.1 rfl fun H1 kC hkC e1 z1 o1 => ?_
  · have := X.2.2.2.2.1; have := hfin.1; omega
  · have := X.2.2.2.2.2.1; have := hfin.2; omega
  have hal : z_al E M.length = H.size := z_ok_new h1
  have K := kk M.length _ hG H1 locs ls (z_ok_push X.2.1.1 h1 z1 (Or.inr ⟨_, hc, hlen, by rw [hal]; exact (u_born ty0 hts hin hKn hkC e1 hty).to (hfs E)⟩) o1) (z_S_push h2 z1 o1) (zgr_tr h3 (zgr_push M _)) h5
  rw [el, es] at K
  have K2 : W p l e R s m args below meth c H1 locs (M.length - M0.length + 1) (zsz M - zsz M0 + N) Q (F0 m (pc + 3) ls (.ref (z_al E M.length) :: st.map (z_cv E))) := K
  rw [hal] at K2
  exact K2
/-- a new array of numbers -/
theorem s_nwa (X : z_X p R s m args meth c E cc nL own Ts fr lo M0 fin.2) {k : Nat} {n : Int32} {atype : ArrayType} {ty : FieldType} {d : Value} {g : Nat → zMn ρ} (hk : k ∈ z_ks) (hk12 : k ≠ 1 ∧ k ≠ 2) (hty : newarray.typeOf atype = ty) (ht : z_aty k = some ty) (hdv : defaultValue ty = d) (hdz : ∀ E : zE, z_sh E d = d) (hcb : componentBytes ty ≤ 8) (hra : ∀ (U : State) (cA : ClassId), va_RA U cA ty → U.vm.findClass ("[" ++ ty.toString) = some cA) (harr : Cond.arrayClass ty ∈ Ts) (hd : decode cc pc = .ok (.newarray atype, 2))
    (kk : ∀ (a : Nat) (M : zM), z_S p l e R s m args below meth c Q E nL M0 fin M (pc + 2) lv (za (some a) :: st) (g a)) : z_S p l e R s m args below meth c Q E nL M0 fin M pc lv (zi n :: st) (z_bd (z_nwa k d n) g) := by
  intro hF H locs ls h1 h2 h3 h5
  obtain ⟨q, hq, hG⟩ := z_bd_inv hF
  clear hF
  unfold z_nwa at hq
  split at hq
  · rename_i hcn
    cases hq
    subst hty
    have hfin := (g M.length).2 _ _ hG
    dsimp only at hfin
    obtain ⟨el, es⟩ := z_len_push (c0 := .inl (k, List.replicate n.toNatClampNeg d)) h3
    have en : zn (.inl (k, List.replicate n.toNatClampNeg d)) = n.toNatClampNeg := by simp [zn]
    rw [en] at es
    have hts := X.1.2.2.2.2
    refine W.newa X.1.1 X.1.2.1 (hts _ harr) rfl hd rfl hcn.1 ?_ ?_ ?_ fun cA kA comp f1 f2 f3 => ?_
    · calc n.toNatClampNeg * componentBytes (newarray.typeOf atype) ≤ 16777216 * 8 := Nat.mul_le_mul hcn.2 hcb
        _ ≤ 536870912 := by decide
    · have := X.2.2.2.2.1; have := hfin.1; omega
    · have := X.2.2.2.2.2.1; have := hfin.2; omega
    have hal : z_al E M.length = H.size := z_ok_new h1
    have hcA : cA = E.2.2.2.2 k := Option.some.inj (f1.symm.trans (hra s _ ((X.2.1.2.2.1 k _ hk ht).2 hk12.1 hk12.2)))
    generalize hH1 : H.push ({ cls := cA, slots := Array.replicate n.toNatClampNeg (defaultValue (newarray.typeOf atype)), vm := .none } : Cell) = H1
    have z1 : H1.size = H.size + 1 := by rw [← hH1, Array.size_push]
    have e1 : H1[H.size]? = some ({ cls := cA, slots := Array.replicate n.toNatClampNeg (defaultValue (newarray.typeOf atype)), vm := .none } : Cell) := by rw [← hH1, Array.getElem?_push_size]
    have o1 : ∀ q : Nat, q < H.size → H1[q]? = H[q]? := fun q hq => by rw [← hH1, Array.getElem?_push, if_neg (Nat.ne_of_lt hq)]
    have K := kk M.length _ hG H1 locs ls (z_ok_push X.2.1.1 h1 z1 ⟨hk, _, by rw [hal]; exact e1, hcA, (fun h => by cases h), (fun q h => by cases h), (z_ct_ne hk12.2).mpr (by rw [hdv]; simp [hdz E])⟩ o1) (z_S_push h2 z1 o1) (zgr_tr h3 (zgr_push M _)) h5
    rw [el, es] at K
    have K2 : W p l e R s m args below meth c H1 locs (M.length - M0.length + 1) (zsz M - zsz M0 + n.toNatClampNeg) Q (F0 m (pc + 2) ls (.ref (z_al E M.length) :: st.map (z_cv E))) := K
    rw [hal] at K2
    exact K2
  · cases hq
/-- a new array of references -/
theorem s_nwq (X : z_X p R s m args meth c E cc nL own Ts fr lo M0 fin.2) {k index : Nat} {n : Int32} {q0 : vw_C} {g : Nat → zMn ρ} (hk : k ∈ z_ks) (h8 : 8 ≤ k) (hq0 : vwCl[k - 8]? = some q0) (hcl : Cond.classLink own index q0.1 ∈ Ts) (hov : q0.1 ∈ z_aos) (hd : decode cc pc = .ok (.anewarray index, 3))
    (kk : ∀ (a : Nat) (M : zM), z_S p l e R s m args below meth c Q E nL M0 fin M (pc + 3) lv (za (some a) :: st) (g a)) : z_S p l e R s m args below meth c Q E nL M0 fin M pc lv (zi n :: st) (z_bd (z_nwa k .null n) g) := by
  intro hF H locs ls h1 h2 h3 h5
  obtain ⟨q, hq, hG⟩ := z_bd_inv hF
  clear hF
  unfold z_nwa at hq
  split at hq
  · rename_i hcn
    cases hq
    have hfin := (g M.length).2 _ _ hG
    dsimp only at hfin
    obtain ⟨el, es⟩ := z_len_push (c0 := .inl (k, List.replicate n.toNatClampNeg .null)) h3
    have en : zn (.inl (k, List.replicate n.toNatClampNeg .null)) = n.toNatClampNeg := by simp [zn]
    rw [en] at es
    have hts := X.1.2.2.2.2
    obtain ⟨r, hr, ht⟩ := z_kq_ty hk h8
    cases hq0.symm.trans hr
    refine W.anew X.1.1 X.1.2.1 X.1.2.2.2.1 (hts _ hcl) (va_AO.use (X.2.1.2.2.2.2.2.1 _ hov)) rfl hd rfl hcn.1 ?_ ?_ ?_ fun cA kA comp f1 f2 f3 f4 => ?_
    · have := hcn.2; omega
    · have := X.2.2.2.2.1; have := hfin.1; omega
    · have := X.2.2.2.2.2.1; have := hfin.2; omega
    have hal : z_al E M.length = H.size := z_ok_new h1
    obtain ⟨-, -, -, -, -, hnm⟩ := (X.2.1.2.2.1 k _ hk ht).2 (by omega) (by omega)
    have hcA : cA = E.2.2.2.2 k := Option.some.inj (f1.symm.trans hnm)
    generalize hH1 : H.push ({ cls := cA, slots := Array.replicate n.toNatClampNeg .null, vm := .none } : Cell) = H1
    have z1 : H1.size = H.size + 1 := by rw [← hH1, Array.size_push]
    have e1 : H1[H.size]? = some ({ cls := cA, slots := Array.replicate n.toNatClampNeg .null, vm := .none } : Cell) := by rw [← hH1, Array.getElem?_push_size]
    have o1 : ∀ q : Nat, q < H.size → H1[q]? = H[q]? := fun q hq => by rw [← hH1, Array.getElem?_push, if_neg (Nat.ne_of_lt hq)]
    have K := kk M.length _ hG H1 locs ls (z_ok_push X.2.1.1 h1 z1 ⟨hk, _, by rw [hal]; exact e1, hcA, (fun h => by cases h), (fun q h => by cases h), (z_ct_ne (by omega)).mpr (by simp [z_sh])⟩ o1) (z_S_push h2 z1 o1) (zgr_tr h3 (zgr_push M _)) h5
    rw [el, es] at K
    have K2 : W p l e R s m args below meth c H1 locs (M.length - M0.length + 1) (zsz M - zsz M0 + n.toNatClampNeg) Q (F0 m (pc + 3) ls (.ref (z_al E M.length) :: st.map (z_cv E))) := K
    rw [hal] at K2
    exact K2
  · cases hq
theorem s_objInit (X : z_X p R s m args meth c E cc nL own Ts fr lo M0 fin.2) {a : Nat} {index : Nat} (hl : Cond.methodLink own index objectInit ∈ Ts) (hin : Cond.instanceMethod objectInit ∈ Ts) (hco : Cond.code objectInit ⟨#[0xb1]⟩ 1 none ∈ Ts) (hd : decode cc pc = .ok (.invokespecial index, 3)) (hR : 1 ≤ fr ∧ ∀ E : zE, ((st.map (z_cv E)).map fun v => v.category).sum + 12 ≤ lo)
    (k : z_S p l e R s m args below meth c Q E nL M0 fin M (pc + 3) lv st f) : z_S p l e R s m args below meth c Q E nL M0 fin M pc lv (za (some a) :: st) f := by
  intro hF H locs ls h1 h2 h3 h5
  have hts := X.1.2.2.2.2
  refine W.objInit X.1.1 X.1.2.1 X.1.2.2.2.1 (hts _ hl) (hts _ hin) (hts _ hco) rfl (by rw [X.1.2.2.1]; exact h5.1) rfl hd (by rw [X.2.2.1]; exact hR.1) ?_ (k hF H locs ls h1 h2 h3 h5)
  rw [X.2.2.2.1]
  show 2 * 0 + _ + 12 ≤ lo
  have := hR.2 E
  omega
/-- the heap's part of a call -/
theorem z_callW {α : Type} {H : Heap} {locs : List Loc} {cells slots mc ms : Nat} {ls : Array Slot} {st0 rest : List Value} {r : Option zV} {M1 : zM} {a : Array Value} (hr : va_Run p l e R s m args below meth c H locs cells slots mc ms (F0 m pc ls st0) rest (z_Qc E r M1 a) (fun q => E.2.1 ≤ q)) (h2 : va_S (fun q => E.2.1 ≤ q) s.heap H locs)
    (kk : ∀ (H1 : Heap) (locs1 : List Loc), z_ok E M1 H1 → va_S (fun q => E.2.1 ≤ q) s.heap H1 locs1 → W p l e R s m args below meth c H1 locs1 (cells + mc) (slots + ms) Q (F0 m (pc + 3) ls ((r.map (z_cv E)).toList ++ rest))) : W p l e R s m args below meth c H locs cells slots Q (F0 m pc ls st0) := by
  intro T hT X
  obtain ⟨v, st₀, t, T', L, h0, X', hL, e1, e2, ⟨hv, hok, hz, hk⟩, st⟩ := hr T hT X
  cases hv
  rw [h0] at hz hk
  obtain ⟨t2, a1, b1⟩ := kk T'.heap (locs ++ L) (by rw [e1]; exact hok) ⟨Nat.le_trans h2.1 (by rw [e1]; exact hz), fun q g1 g2 => by rw [e1, hk q (Nat.lt_of_lt_of_le g1 h2.1) g2]; exact h2.2.1 q g1 g2, fun q hq => by
      rcases List.mem_append.mp hq with h | h
      · exact h2.2.2 q h
      · exact hL q h⟩ T' rfl X'
  exact ⟨t2, st t2 a1, b1⟩
theorem z_preS {U0 : State} (X : z_X p R s m args meth c E cc nL own Ts fr lo M0 fin.2) {H : Heap} {locs : List Loc} {As : List zV} (h1 : z_ok E M H) (h2 : va_S (fun q => E.2.1 ≤ q) s.heap H locs) : PreS s H (z_Pc E As M) (As.map (z_cv E)) :=
  ⟨z_Pc_blind, fun U hU hW => ⟨rfl, by rw [hU]; exact h1, X.2.1.moved hW (fun q g1 g2 => by rw [hU]; exact h2.2.1 q g1 g2)⟩⟩
theorem z_room {M1 Mf : zM} (h3 : zgr M0 M) (h4 : zgr M M1) (h5 : zgr M1 Mf) {a b : Nat} (ha : Mf.length - M0.length ≤ a) (hb : zsz Mf - zsz M0 ≤ b) : (M.length - M0.length + (M1.length - M.length) ≤ a ∧ zsz M - zsz M0 + (zsz M1 - zsz M) ≤ b) ∧ M.length - M0.length + (M1.length - M.length) = M1.length - M0.length ∧ zsz M - zsz M0 + (zsz M1 - zsz M) = zsz M1 - zsz M0 := by
  obtain ⟨a1, a2⟩ := h3
  obtain ⟨b1, b2⟩ := h4
  obtain ⟨c1, c2⟩ := h5
  omega
def z_wt (v : zV) : Nat := if z_c2 v then 2 else 1
theorem z_wt_eq (E : zE) (st : List zV) : ((st.map (z_cv E)).map fun v => v.category).sum = (st.map z_wt).sum := by
  induction st with
  | nil => rfl
  | cons v st ih =>
    simp only [List.map_cons, List.sum_cons]
    rw [ih]
    congr 1
    rcases v with x | x | x
    · rfl
    · cases x <;> rfl
    · rfl
/-- a static method -/
theorem s_callS (X : z_X p R s m args meth c E cc nL own Ts fr lo M0 fin.2) {α : Type} {y : MethodName} {ws ws' : List Cond} {bytes : ByteArray} {maxL n index fr' lo' : Nat} {rt : Option FieldType} {As stk : List zV} {rz : α → Option zV} {fc : zMn α} {g : α → zMn ρ} (hM : z_Met l E y ws fr' lo' As rz fc) (hT : GoodIn Ts (va_wsS own index y ws)) (hw : ws = Cond.code y bytes maxL rt :: ws') (hy : y.cls ≠ "java/lang/invoke/MethodHandle" ∧ y.cls ≠ "java/lang/invoke/VarHandle" ∧ (parseMethodDescriptor y.desc).map (fun d => d.parameters.length) = some n) (hn : As.length = n) (hstk : stk = As.reverse ++ st) (hwt : (st.map z_wt).sum ≤ 8) (hR : fr' + 1 ≤ fr ∧ 8 + (maxL + 11) + lo' ≤ lo) (hd : decode cc pc = .ok (.invokestatic index, 3))
    (kk : ∀ (x : α) (M : zM), z_S p l e R s m args below meth c Q E nL M0 fin M (pc + 3) lv ((rz x).toList ++ st) (g x)) : z_S p l e R s m args below meth c Q E nL M0 fin M pc lv stk (z_bd fc g) := by
  intro hF H locs ls h1 h2 h3 h5
  obtain ⟨⟨x, M1⟩, hq, hG⟩ := z_bd_inv hF
  clear hF
  have g1 := fc.2 M _ hq
  have g2 := (g x).2 M1 _ hG
  obtain ⟨hroom, ec, es⟩ := z_room h3 g1 g2 X.2.2.2.2.1 X.2.2.2.2.2.1
  subst hstk
  refine z_callW (α := α) (va_runS (As := As.map (z_cv E)) (rest := st.map (z_cv E)) X.1 (hM M _ hq) (va_cwS n X.1.2.2.2.2 hT hw rfl rfl hy ?_) (z_preS (U0 := s) X h1 h2) rfl (by rw [List.length_map]; exact hn) h5.1 (by simp) (lv_room (by rw [z_wt_eq]; exact hwt)) hd hroom) h2 (fun H1 locs1 hok hS => ?_)
  · rw [X.2.2.1, X.2.2.2.1]; exact hR
  · rw [ec, es]
    have K := kk x M1 hG H1 locs1 ls hok hS (zgr_tr h3 g1) h5
    have e9 : ((rz x).toList ++ st).map (z_cv E) = ((rz x).map (z_cv E)).toList ++ st.map (z_cv E) := by cases rz x <;> simp
    rw [e9] at K
    exact K
/-- a receiver of a class of ours -/
def z_rc (v : Option Nat) (ci : Nat) : zMn Nat := z_rd fun M => v.bind fun a => (z_ob M v ci).map fun _ => a
theorem z_rc_inv {v : Option Nat} {ci : Nat} {r : Nat × zM} (h : (z_rc v ci).1 M = some r) : ∃ b fs, v = some b ∧ M[b]? = some (.inr (ci, fs)) ∧ r = (b, M) := by
  obtain ⟨x, hx, rfl⟩ := z_rd_inv h
  cases v with
  | none => cases hx
  | some a =>
    simp only [Option.bind_some] at hx
    cases ho : z_ob M (some a) ci with
    | none => rw [ho] at hx; cases hx
    | some fs =>
      rw [ho] at hx
      cases hx
      obtain ⟨b, hb, hM⟩ := z_ob_inv ho
      cases hb
      exact ⟨_, fs, rfl, hM, rfl⟩
/-- a method of an object -/
theorem s_callV (X : z_X p R s m args meth c E cc nL own Ts fr lo M0 fin.2) {α : Type} {y : MethodName} {ws ws' : List Cond} {bytes : ByteArray} {maxL n index ci fr' lo' : Nat} {C : String} {q : vw_C} {rt : Option FieldType} {As stk : List zV} {rz : α → Option zV} {r : Option Nat} {fc : Nat → zMn α} {g : α → zMn ρ} (hM : ∀ a : Nat, z_Met l E y ws fr' lo' (za (some a) :: As) rz (fc a)) (hT : GoodIn Ts (wsV own index C y ws)) (hw : ws = Cond.code y bytes maxL rt :: ws') (hy : y.cls = C ∧ y.cls ≠ "java/lang/invoke/MethodHandle" ∧ y.cls ≠ "java/lang/invoke/VarHandle" ∧ (parseMethodDescriptor y.desc).map (fun d => d.parameters.length) = some n) (hn : As.length = n) (hc : vwCl[ci]? = some q) (hq1 : q.1 = C) (hstk : stk = As.reverse ++ za r :: st) (hwt : (st.map z_wt).sum ≤ 8) (hR : fr' + 1 ≤ fr ∧ 8 + (maxL + 11) + lo' ≤ lo) (hd : decode cc pc = .ok (.invokevirtual index, 3))
    (kk : ∀ (x : α) (M : zM), z_S p l e R s m args below meth c Q E nL M0 fin M (pc + 3) lv ((rz x).toList ++ st) (g x)) : z_S p l e R s m args below meth c Q E nL M0 fin M pc lv stk (z_bd (z_rc r ci) fun a => z_bd (fc a) g) := by
  intro hF H locs ls h1 h2 h3 h5
  obtain ⟨q9, hq9, hG⟩ := z_bd_inv hF
  clear hF
  obtain ⟨b, fs, rfl, hMb, rfl⟩ := z_rc_inv hq9
  obtain ⟨⟨x, M1⟩, hq, hK9⟩ := z_bd_inv hG
  clear hG
  have g1 := (fc b).2 M _ hq
  have g2 := (g x).2 M1 _ hK9
  obtain ⟨hroom, ec, es⟩ := z_room h3 g1 g2 X.2.2.2.2.1 X.2.2.2.2.2.1
  subst hstk
  obtain ⟨-, hob⟩ := z_ob_at h1 hMb hc
  have hrecv : ∃ cellB : Cell, H[z_al E b]? = some cellB ∧ cellB.vm.isStatics = false ∧ s.vm.findClass C = some cellB.cls := by
    obtain ⟨cell, w1, w2, w3, -⟩ := hob
    exact ⟨cell, w1, by rw [w3]; rfl, by rw [w2, ← hq1]; exact (X.2.1.2.1 ci q hc).2.1⟩
  have hpre := z_preS (U0 := s) (As := za (some b) :: As) X h1 h2
  refine z_callW (α := α) (va_runV (b := z_al E b) (As := As.map (z_cv E)) (rest := st.map (z_cv E)) X.1 (hM b M _ hq) (cwV n X.1.2.2.2.2 hT hw rfl rfl hy ?_) ⟨hpre.1, hrecv, hpre.2⟩ rfl (by rw [List.length_map]; exact hn) h5.1 (by simp [z_cv, va_rf]) (lv_room (by rw [z_wt_eq]; exact hwt)) hd hroom) h2 (fun H1 locs1 hok hS => ?_)
  · rw [X.2.2.1, X.2.2.2.1]; exact hR
  · rw [ec, es]
    have K := kk x M1 hK9 H1 locs1 ls hok hS (zgr_tr h3 g1) h5
    have e9 : ((rz x).toList ++ st).map (z_cv E) = ((rz x).map (z_cv E)).toList ++ st.map (z_cv E) := by cases rz x <;> simp
    rw [e9] at K
    exact K
/-- a constructor -/
theorem s_callI (X : z_X p R s m args meth c E cc nL own Ts fr lo M0 fin.2) {y : MethodName} {ws ws' : List Cond} {bytes : ByteArray} {maxL n index fr' lo' : Nat} {As stk : List zV} {a : Nat} {fc : zMn Unit} {g : Unit → zMn ρ} (hM : z_Met l E y ws fr' lo' (za (some a) :: As) z_rv fc) (hT : GoodIn Ts ws) (hw : ws = Cond.code y bytes maxL none :: ws') (hini : Cond.initialized y.cls ∈ Ts) (hl : Cond.methodLink own index y ∈ Ts) (hins : Cond.instanceMethod y ∈ Ts) (hy1 : y.name = "<init>") (hy : y.cls ≠ "java/lang/invoke/MethodHandle" ∧ y.cls ≠ "java/lang/invoke/VarHandle" ∧ (parseMethodDescriptor y.desc).map (fun d => d.parameters.length) = some n) (hn : As.length = n) (hstk : stk = As.reverse ++ za (some a) :: st) (hwt : (st.map z_wt).sum ≤ 8) (hR : fr' + 1 ≤ fr ∧ 8 + (maxL + 11) + lo' ≤ lo) (hd : decode cc pc = .ok (.invokespecial index, 3))
    (kk : ∀ M : zM, z_S p l e R s m args below meth c Q E nL M0 fin M (pc + 3) lv st (g ())) : z_S p l e R s m args below meth c Q E nL M0 fin M pc lv stk (z_bd fc g) := by
  intro hF H locs ls h1 h2 h3 h5
  obtain ⟨⟨x, M1⟩, hq, hG⟩ := z_bd_inv hF
  clear hF
  have g1 := fc.2 M _ hq
  have g2 := (g x).2 M1 _ hG
  obtain ⟨hroom, ec, es⟩ := z_room h3 g1 g2 X.2.2.2.2.1 X.2.2.2.2.2.1
  subst hstk
  have hts := X.1.2.2.2.2
  have hpre := z_preS (U0 := s) (As := za (some a) :: As) X h1 h2
  refine z_callW (α := Unit) (va_runI (b := z_al E a) (As := As.map (z_cv E)) (rest := st.map (z_cv E)) X.1 (hM M _ hq) (cwI n hts hT hw rfl rfl (hts _ hini) (hts _ hl) (hts _ hins) hy1 hy ?_) hpre rfl (by rw [List.length_map]; exact hn) h5.1 (by simp [z_cv, va_rf]) (lv_room (by rw [z_wt_eq]; exact hwt)) hd hroom) h2 (fun H1 locs1 hok hS => ?_)
  · rw [X.2.2.1, X.2.2.2.1]; exact hR
  · rw [ec, es]
    exact kk M1 hG H1 locs1 ls hok hS (zgr_tr h3 g1) h5
/-- a nest mate's private constructor -/
theorem s_callN (X : z_X p R s m args meth c E cc nL own Ts fr lo M0 fin.2) {y : MethodName} {ws ws' : List Cond} {bytes : ByteArray} {maxL n index fr' lo' : Nat} {host : String} {As stk : List zV} {a : Nat} {fc : zMn Unit} {g : Unit → zMn ρ} (hM : z_Met l E y ws fr' lo' (za (some a) :: As) z_rv fc) (hT : GoodIn Ts ws) (hw : ws = Cond.code y bytes maxL none :: ws') (hini : Cond.initialized y.cls ∈ Ts) (hl : (own, index, y, host) ∈ z_nws) (hins : Cond.instanceMethod y ∈ Ts) (hy1 : y.name = "<init>") (hy : y.cls ≠ "java/lang/invoke/MethodHandle" ∧ y.cls ≠ "java/lang/invoke/VarHandle" ∧ (parseMethodDescriptor y.desc).map (fun d => d.parameters.length) = some n) (hn : As.length = n) (hstk : stk = As.reverse ++ za (some a) :: st) (hwt : (st.map z_wt).sum ≤ 8) (hR : fr' + 1 ≤ fr ∧ 8 + (maxL + 11) + lo' ≤ lo) (hd : decode cc pc = .ok (.invokespecial index, 3))
    (kk : ∀ M : zM, z_S p l e R s m args below meth c Q E nL M0 fin M (pc + 3) lv st (g ())) : z_S p l e R s m args below meth c Q E nL M0 fin M pc lv stk (z_bd fc g) := by
  intro hF H locs ls h1 h2 h3 h5
  obtain ⟨⟨x, M1⟩, hq, hG⟩ := z_bd_inv hF
  clear hF
  have g1 := fc.2 M _ hq
  have g2 := (g x).2 M1 _ hG
  obtain ⟨hroom, ec, es⟩ := z_room h3 g1 g2 X.2.2.2.2.1 X.2.2.2.2.2.1
  subst hstk
  have hts := X.1.2.2.2.2
  have hpre := z_preS (U0 := s) (As := za (some a) :: As) X h1 h2
  refine z_callW (α := Unit) (va_runIN (host := host) (b := z_al E a) (As := As.map (z_cv E)) (rest := st.map (z_cv E)) X.1 (hM M _ hq) ⟨va_cnB n hts hT hw rfl rfl (X.2.1.2.2.2.2.1 _ hl) (hts _ hini) hy ?_, hy1, hts _ hins⟩ hpre rfl (by rw [List.length_map]; exact hn) h5.1 (by simp [z_cv, va_rf]) (lv_room (by rw [z_wt_eq]; exact hwt)) hd hroom) h2 (fun H1 locs1 hok hS => ?_)
  · rw [X.2.2.1, X.2.2.2.1]; exact hR
  · rw [ec, es]
    exact kk M1 hG H1 locs1 ls hok hS (zgr_tr h3 g1) h5
theorem s_no {Q : State → Prop} : z_S p l e R s m args below meth c Q E nL M0 fin M pc lv st z_no := fun hF => by cases hF
theorem s_ck {P : Prop} [Decidable P] {g : Unit → zMn ρ} (k : P → z_S p l e R s m args below meth c Q E nL M0 fin M pc lv st (g ())) : z_S p l e R s m args below meth c Q E nL M0 fin M pc lv st (z_bd (z_ck P) g) := by
  intro hF
  obtain ⟨q, hq, hG⟩ := z_bd_inv hF
  clear hF
  unfold z_ck at hq
  split at hq
  · rename_i hP
    cases hq
    exact k hP hG
  · cases hq
theorem s_by {P : Prop} [Decidable P] {f g : zMn ρ} (kt : P → z_S p l e R s m args below meth c Q E nL M0 fin M pc lv st f) (kf : ¬ P → z_S p l e R s m args below meth c Q E nL M0 fin M pc lv st g) : z_S p l e R s m args below meth c Q E nL M0 fin M pc lv st (if P then f else g) := by
  intro hF
  by_cases h : P
  · rw [z_ift h] at hF; exact kt h hF
  · rw [z_iff h] at hF; exact kf h hF
theorem s_tabIn (X : z_X p R s m args meth c E cc nL own Ts fr lo M0 fin.2) {x : Int32} (v : Int32) (tgt : Nat) (hx : x = v) {dflt lo1 hi : Int} {os : Array Int} {len : Nat} (hd : decode cc pc = .ok (.tableswitch dflt lo1 hi os, len)) (h1 : ¬ v.toInt < lo1) (h2 : ¬ hi < v.toInt) (ho : os[(v.toInt - lo1).toNat]? = some ((tgt : Int) - pc)) (hn : True)
    (k : z_S p l e R s m args below meth c Q E nL M0 fin M tgt lv st f) : z_S p l e R s m args below meth c Q E nL M0 fin M pc lv (zi x :: st) f := by
  subst hx
  exact fun hF H locs ls g1 g2 g3 g5 => lv_tableIn X.1.1 X.1.2.1 hd h1 h2 ho (by omega) (k hF H locs ls g1 g2 g3 g5)
theorem s_tabOut (X : z_X p R s m args meth c E cc nL own Ts fr lo M0 fin.2) {x : Int32} (tgt : Nat) {dflt lo1 hi : Int} {os : Array Int} {len : Nat} (hd : decode cc pc = .ok (.tableswitch dflt lo1 hi os, len)) (h : x.toInt < lo1 ∨ hi < x.toInt) (ht : (pc : Int) + dflt = (tgt : Int))
    (k : z_S p l e R s m args below meth c Q E nL M0 fin M tgt lv st f) : z_S p l e R s m args below meth c Q E nL M0 fin M pc lv (zi x :: st) f :=
  fun hF H locs ls g1 g2 g3 g5 => lv_tableOut X.1.1 X.1.2.1 hd h ht (k hF H locs ls g1 g2 g3 g5)
theorem s_nwi (X : z_X p R s m args meth c E cc nL own Ts fr lo M0 fin.2) {n : Int32} {g : Nat → zMn ρ} (harr : Cond.arrayClass .int ∈ Ts) (hd : decode cc pc = .ok (.newarray .int, 2))
    (kk : ∀ (a : Nat) (M : zM), z_S p l e R s m args below meth c Q E nL M0 fin M (pc + 2) lv (za (some a) :: st) (g a)) : z_S p l e R s m args below meth c Q E nL M0 fin M pc lv (zi n :: st) (z_bd (z_nwa 0 (.int 0) n) g) :=
  s_nwa (atype := .int) (ty := .int) X (by decide) (by decide) rfl rfl rfl (fun _ => rfl) (by decide) (fun _ _ h => h) harr hd kk
/-- Math.min -/
theorem s_min (X : z_X p R s m args meth c E cc nL own Ts fr lo M0 fin.2) {x y : Int32} {index : Nat} (hl : Cond.methodLink own index Lib.Math.min.name ∈ Ts) (hs : Cond.static Lib.Math.min.name ∈ Ts) (hi : Cond.initialized "java/lang/Math" ∈ Ts) (hco : Cond.code Lib.Math.min.name Lib.Math.min.code 2 (some .int) ∈ Ts) (hR : 1 ≤ fr ∧ (st.map z_wt).sum + 13 ≤ lo) (hd : decode cc pc = .ok (.invokestatic index, 3))
    (k : z_S p l e R s m args below meth c Q E nL M0 fin M (pc + 3) lv (zi (if y < x then y else x) :: st) f) : z_S p l e R s m args below meth c Q E nL M0 fin M pc lv (zi y :: zi x :: st) f := by
  intro hF H locs ls h1 h2 h3 h5
  have hts := X.1.2.2.2.2
  have g2 := f.2 M _ hF
  refine va_mmin X.1.1 X.1.2.1 (by rw [X.1.2.2.1, h5.1]) X.1.2.2.2.1 (hts _ hl) (hts _ hs) (hts _ hi) (hts _ hco) (by rw [X.2.2.1]; exact hR.1) (by rw [X.2.2.2.1, z_wt_eq]; exact hR.2) ?_ ?_ hd (k hF H locs ls h1 h2 h3 h5)
  · have := X.2.2.2.2.1; have := g2.1; have := h3.1; omega
  · have := X.2.2.2.2.2.1; have := g2.2; have := h3.2; omega
/-- a table that nobody writes -/
theorem s_gets (X : z_X p R s m args meth c E cc nL own Ts fr lo M0 fin.2) {i index : Nat} {C n d : String} (hz : (C, n, d, i) ∈ z_zs) (hi : i < z_g0) (hl : Cond.fieldLink own index C n d ∈ Ts) (hd : decode cc pc = .ok (.getstatic index, 3))
    (k : z_S p l e R s m args below meth c Q E nL M0 fin M (pc + 3) lv (za (some i) :: st) f) : z_S p l e R s m args below meth c Q E nL M0 fin M pc lv st f := by
  intro hF H locs ls h1 h2 h3 h5
  have K := k hF H locs ls h1 h2 h3 h5
  have hZ := X.2.1.2.2.2.1 _ hz
  have ea : z_al E i = E.1.getD i 0 := by unfold z_al; rw [if_pos hi]
  refine va_gets X.1.1 X.1.2.1 hZ h2 X.1.2.2.2.1 (X.1.2.2.2.2 _ hl) (fun _ h => h) hd ?_
  have K2 : W p l e R s m args below meth c H locs (M.length - M0.length) (zsz M - zsz M0) Q (F0 m (pc + 3) ls (.ref (z_al E i) :: st.map (z_cv E))) := K
  rw [ea] at K2
  exact K2
end ZN
theorem z_bfit {x : Int32} (h : x = 0 ∨ x = 1) (E : zE) : narrow .boolean (z_cv E (zi x)) = z_cv E (zi x) ∧ fits .boolean (z_cv E (zi x)) = true := by
  rcases h with rfl | rfl <;> exact ⟨rfl, rfl⟩
theorem z_ofit (n : String) (r : Option Nat) (E : zE) : narrow (.object n) (z_cv E (za r)) = z_cv E (za r) ∧ fits (.object n) (z_cv E (za r)) = true := by
  cases r <;> exact ⟨rfl, rfl⟩
theorem z_afit (t : FieldType) (r : Option Nat) (E : zE) : narrow (.array t) (z_cv E (za r)) = z_cv E (za r) ∧ fits (.array t) (z_cv E (za r)) = true := by
  cases r <;> exact ⟨rfl, rfl⟩
theorem z_lt2 {j : Nat} (h : j < 2) : j = 0 ∨ j = 1 := by omega
theorem z_lt3 {j : Nat} (h : j < 3) : j = 0 ∨ j = 1 ∨ j = 2 := by omega
theorem z_lt4 {j : Nat} (h : j < 4) : j = 0 ∨ j = 1 ∨ j = 2 ∨ j = 3 := by omega
theorem z_lt5 {j : Nat} (h : j < 5) : j = 0 ∨ j = 1 ∨ j = 2 ∨ j = 3 ∨ j = 4 := by omega
theorem z_lt6 {j : Nat} (h : j < 6) : j = 0 ∨ j = 1 ∨ j = 2 ∨ j = 3 ∨ j = 4 ∨ j = 5 := by omega
theorem z_lt7 {j : Nat} (h : j < 7) : j = 0 ∨ j = 1 ∨ j = 2 ∨ j = 3 ∨ j = 4 ∨ j = 5 ∨ j = 6 := by omega
section ZR
variable {p : Program} {l : Launch} {e : Env} {R : Room} {s : State} {m : MethodId} {args : Array Value} {below : List Frame} {meth : Method} {c : Code} {E : zE} {cc : ByteArray} {nL : Nat} {own : String} {Ts : List Cond} {fr lo : Nat} {M0 : zM} {M : zM} {pc : Nat} {lv : List (Nat × zV)}
/-- what a method's walk has to reach -/
def z_Qm {α : Type} (E : zE) (below : List Frame) (args : Array Value) (s : State) (M0 : zM) (rz : α → Option zV) (fin : α × zM) : State → Prop := MQ below (z_Qc E (rz fin.1) fin.2) args s (fin.2.length - M0.length) (zsz fin.2 - zsz M0) (fun q => E.2.1 ≤ q)
theorem s_ret {fin : Int32 × zM} (X : z_X p R s m args meth c E cc nL own Ts fr lo M0 fin.2) {x : Int32} (hr : meth.sig.returnType = some .int) (hd : decode cc pc = .ok (.ireturn, 1)) : z_S p l e R s m args below meth c (z_Qm E below args s M0 z_ri fin) E nL M0 fin M pc lv [zi x] (z_ret x) := by
  intro hF H locs ls h1 h2 h3 h5
  cases hF
  exact W.iret X.1.1 X.1.2.1 hr (fun t ht _ => ⟨rfl, by rw [ht]; exact h1, h2.F ht⟩) h2.2.2 hd X.2.2.2.2.2.2
theorem s_retb {fin : Int32 × zM} (X : z_X p R s m args meth c E cc nL own Ts fr lo M0 fin.2) {x : Int32} (hr : meth.sig.returnType = some .boolean) (hd : decode cc pc = .ok (.ireturn, 1)) : z_S p l e R s m args below meth c (z_Qm E below args s M0 z_ri fin) E nL M0 fin M pc lv [zi x] (z_rb x) := by
  intro hF H locs ls h1 h2 h3 h5
  unfold z_rb at hF
  split at hF
  · rename_i hx
    cases hF
    have hn : narrow .boolean (.int x) = .int x := by rcases hx with rfl | rfl <;> rfl
    exact W.zret X.1.1 X.1.2.1 hr hn (fun t ht _ => ⟨rfl, by rw [ht]; exact h1, h2.F ht⟩) h2.2.2 hd X.2.2.2.2.2.2
  · cases hF
theorem s_reta {fin : Option Nat × zM} (X : z_X p R s m args meth c E cc nL own Ts fr lo M0 fin.2) {x : Option Nat} {rt : FieldType} (hr : meth.sig.returnType = some rt) (hrt : (∃ n, rt = .object n) ∨ ∃ t, rt = .array t) (hd : decode cc pc = .ok (.areturn, 1)) : z_S p l e R s m args below meth c (z_Qm E below args s M0 z_ra fin) E nL M0 fin M pc lv [za x] (z_ret x) := by
  intro hF H locs ls h1 h2 h3 h5
  cases hF
  exact W.aret (v := va_rf (x.map (z_al E))) X.1.1 X.1.2.1 hr hrt (va_rf_or _) (fun t ht _ => ⟨rfl, by rw [ht]; exact h1, h2.F ht⟩) h2.2.2 hd X.2.2.2.2.2.2
theorem s_retv {fin : Unit × zM} (X : z_X p R s m args meth c E cc nL own Ts fr lo M0 fin.2) (hr : meth.sig.returnType = none) (hd : decode cc pc = .ok (.return_, 1)) : z_S p l e R s m args below meth c (z_Qm E below args s M0 z_rv fin) E nL M0 fin M pc lv [] (z_ret ()) := by
  intro hF H locs ls h1 h2 h3 h5
  cases hF
  exact W.vret X.1.1 X.1.2.1 hr (fun t ht _ => ⟨rfl, by rw [ht]; exact h1, h2.F ht⟩) h2.2.2 hd X.2.2.2.2.2.2
end ZR
def z_ar0 : Nat → List zV → List (Nat × zV)
  | _, [] => []
  | i, v :: vs => (i, v) :: z_ar0 (if z_c2 v then i + 2 else i + 1) vs
theorem z_ar0_eq (E : zE) : ∀ (as : List zV) (i : Nat), lv_args i (as.map (z_cv E)) = (z_ar0 i as).map fun q => (q.1, z_cv E q.2) := by
  intro as
  induction as with
  | nil => intro i; rfl
  | cons v as ih =>
    intro i
    simp only [List.map_cons, lv_args, z_ar0]
    rw [ih]
    have h := z_cv_cat E v
    cases hc : z_c2 v with
    | true =>
      rw [hc] at h
      rw [if_pos (by simpa using h)]
      simp
    | false =>
      rw [hc] at h
      rw [if_neg (by simpa using h)]
      simp
def z_sl : List zV → Nat
  | [] => 0
  | v :: vs => z_wt v + z_sl vs
theorem z_sl_eq (E : zE) (as : List zV) : (lg_sl (as.map (z_cv E))).length = z_sl as := by
  induction as with
  | nil => rfl
  | cons v as ih =>
    rcases v with x | x | x
    · simp [lg_sl, z_sl, z_wt, z_cv, z_c2, Value.category] at ih ⊢; omega
    · cases x <;> (simp [lg_sl, z_sl, z_wt, z_cv, z_c2, va_rf, Value.category] at ih ⊢; omega)
    · simp [lg_sl, z_sl, z_wt, z_cv, z_c2, Value.category] at ih ⊢; omega
/-- a method's contract out of its walk -/
theorem z_of {α : Type} {l : Launch} {E : zE} {y : MethodName} {ws ws' : List Cond} {cc : ByteArray} {maxL fr lo : Nat} {rt : Option FieldType} {as : List zV} {rz : α → Option zV} {fc : zMn α} {own : String} (ho : y.cls = own) (hy : plainName y.cls = true) (hw : ws = Cond.code y cc maxL rt :: ws') (hsl : z_sl as ≤ maxL)
    (body : ∀ (p : Program) (e : Env) (R : Room) (s : State) (m : MethodId) (args : Array Value) (below : List Frame) (meth : Method) (c : Code) (M : zM) (fin : α × zM), z_X p R s m args meth c E cc maxL own ws fr lo M fin.2 → meth.sig.returnType = rt → meth.name = y.name → z_S p l e R s m args below meth c (z_Qm E below args s M rz fin) E maxL M fin M 0 (z_ar0 0 as) [] fc) : z_Met l E y ws fr lo as rz fc := by
  intro M fin hF
  subst ho
  refine Met.ofW (cc := cc) (maxL := maxL) (ret := rt) hy hw ?_
  intro p e s m args below meth c s₁ B hml hv
  obtain ⟨rfl, hok, hK⟩ := hv
  have hX : z_X p (headSpec ws (z_rm fr lo M fin.2)).room s m (as.map (z_cv E)).toArray meth c E cc maxL y.cls ws fr lo M fin.2 :=
    ⟨⟨B.exec, B.bytes, hml, findClass_of_methodNamed B.named, atoms_spec (ws := ws) B.pre⟩, hK, rfl, rfl, Nat.le_refl _, Nat.le_refl _, B.notSynchronized⟩
  have hl := lv_entry (as.map (z_cv E)) (n := maxL) (by rw [z_sl_eq]; exact hsl)
  rw [lg_entry_eq]
  generalize (lg_sl (as.map (z_cv E)) ++ List.replicate (maxL - (lg_sl (as.map (z_cv E))).length) Slot.unset).toArray = ls at hl ⊢
  rw [z_ar0_eq] at hl
  have K := body p e _ s m _ below meth c M fin hX B.returns (name_of_methodNamed B.named B.method).1 hF s.heap [] ls hok va_S.rf (zgr_rf M) hl
  rw [Nat.sub_self, Nat.sub_self] at K
  exact K
