/-! ROWS THAT TOUCH THE HEAP -/
theorem z_P1 {D : va_G} {cl : List vw_C} {q : Nat × va_E} {H : Heap} (h : va_at D cl q H) : va_P D cl [q] H := by
  intro k x hx
  match k, hx with
  | 0, hx => cases hx; exact h
  | k + 1, hx => simp at hx
theorem z_Kva {E : zE} {U : State} (h : z_K E U) : va_K (E.2.2.1, E.2.2.2.1) vwCl [] U := ⟨h.2.1, fun k q hk => by simp at hk⟩
theorem z_cl999 {q : vw_C} (h : vwCl[999]? = some q) : False := by
  have : vwCl[999]? = none := rfl
  rw [this] at h
  cases h
theorem z_ob_at {E : zE} {M : zM} {H : Heap} (h : z_ok E M H) {b ci : Nat} {fs : List Value} (hM : M[b]? = some (.inr (ci, fs))) {q : vw_C} (hc : vwCl[ci]? = some q) : fs.length = q.2.2 ∧ t_OB (z_al E b) (E.2.2.1 ci) q.2.2 (E.2.2.2.1 ci) H (vp_V (fs.map (z_sh E))) := by
  rcases h.2.2 b _ hM with h9 | ⟨r, hr, hl, hob⟩
  · have e : ci = 999 := h9.1
    rw [e] at hc
    exact (z_cl999 hc).elim
  · cases hc.symm.trans hr
    exact ⟨hl, hob⟩
theorem z_obk_inv {β : Type} {M : zM} {a : Option Nat} {ci k : Nat} {g : Value → Option β} {x : β} (h : ((z_ob M a ci).bind fun fs => (fs[k]?).bind g) = some x) : ∃ b fs v, a = some b ∧ M[b]? = some (.inr (ci, fs)) ∧ fs[k]? = some v ∧ g v = some x := by
  cases h1 : z_ob M a ci with
  | none => rw [h1] at h; cases h
  | some fs =>
    rw [h1] at h
    simp only [Option.bind_some] at h
    obtain ⟨b, hb, hM⟩ := z_ob_inv h1
    cases h2 : fs[k]? with
    | none => rw [h2] at h; cases h
    | some v => rw [h2] at h; exact ⟨b, fs, v, hb, hM, h2, h⟩
/-- an array's cell, as the machine's rows want it -/
theorem z_ar_atG {E : zE} {U : State} (hK : z_K E U) {M : zM} {H : Heap} (h : z_ok E M H) {b k : Nat} {vs : List Value} (hM : M[b]? = some (.inl (k, vs))) {ty : FieldType} (ht : z_aty k = some ty) : ∃ cell : Cell, H[z_al E b]? = some cell ∧ U.isArrayOf cell ty ∧ cell.vm ≠ .unknown ∧ (∀ q, cell.vm ≠ .statics q) ∧ z_ct E k vs cell ∧ cell.cls = E.2.2.2.2 k ∧ k ∈ z_ks := by
  obtain ⟨hk, cell, h1, h2, h3, h4, h5⟩ := h.2.2 b _ hM
  obtain ⟨-, kA, hkA, comp, hcomp⟩ := (hK.2.2.1 k ty hk ht).1 0 (fun _ => .null)
  exact ⟨cell, h1, ⟨h4, kA, by rw [h2]; exact hkA, comp, hcomp⟩, h3, h4, h5, h2, hk⟩
theorem z_ar_at {E : zE} {U : State} (hK : z_K E U) {M : zM} {H : Heap} (h : z_ok E M H) {b k : Nat} {vs : List Value} (hM : M[b]? = some (.inl (k, vs))) {ty : FieldType} (ht : z_aty k = some ty) (hk2 : k ≠ 2) : ∃ cell : Cell, H[z_al E b]? = some cell ∧ U.isArrayOf cell ty ∧ cell.vm ≠ .unknown ∧ (∀ q, cell.vm ≠ .statics q) ∧ cell.slots.toList = vs.map (z_sh E) ∧ cell.cls = E.2.2.2.2 k ∧ k ∈ z_ks := by
  obtain ⟨cell, h1, h2, h3, h4, h5, h6⟩ := z_ar_atG hK h hM ht
  exact ⟨cell, h1, h2, h3, h4, (z_ct_ne hk2).mp h5, h6⟩
theorem z_k0 {k : Nat} (h : k = 0) : z_aty k = some .int := by subst h; rfl
theorem z_k0n {k : Nat} (h : k = 0) : k ≠ 2 := by omega
theorem z_k3n {k : Nat} (h : k = 3) : k ≠ 2 := by omega
theorem z_k4n {k : Nat} (h : k = 4) : k ≠ 2 := by omega
theorem z_slots_size {E : zE} {cell : Cell} {vs : List Value} (h : cell.slots.toList = vs.map (z_sh E)) : cell.slots.size = vs.length := by
  rw [← Array.length_toList, h, List.length_map]
theorem z_slots_get {E : zE} {cell : Cell} {vs : List Value} (h : cell.slots.toList = vs.map (z_sh E)) {j : Nat} {v : Value} (hv : vs[j]? = some v) : cell.slots[j]? = some (z_sh E v) := by
  rw [← Array.getElem?_toList, h, List.getElem?_map, hv]; rfl
theorem z_in {n : Nat} {i : Int32} {vs : List Value} {v : Value} (hn : vs.length ≤ n) (h0 : ¬ i < 0) (hv : vs[i.toNatClampNeg]? = some v) : ¬ (i < 0 ∨ n ≤ i.toNatClampNeg) := by
  have := (List.getElem?_eq_some_iff.mp hv).1
  intro q
  rcases q with q | q
  · exact h0 q
  · omega
/-- the cell behind a store -/
theorem z_at_store {E : zE} {H1 : Heap} {b k j : Nat} {vs : List Value} {v : Value} {cell : Cell} (hk : k ∈ z_ks) (e1 : H1[z_al E b]? = some (cell.setSlot j (z_sh E v))) (h2 : cell.cls = E.2.2.2.2 k) (h3 : cell.vm ≠ .unknown) (h4 : ∀ q, cell.vm ≠ .statics q) (h5 : cell.slots.toList = vs.map (z_sh E)) (hk2 : k ≠ 2) : z_at E H1 b (.inl (k, vs.set j v)) := by
  refine ⟨hk, _, e1, h2, h3, h4, (z_ct_ne hk2).mpr ?_⟩
  show (cell.slots.setIfInBounds j (z_sh E v)).toList = (vs.set j v).map (z_sh E)
  rw [Array.toList_setIfInBounds, h5, List.map_set]
section ZM
variable {ρ : Type} {p : Program} {l : Launch} {e : Env} {R : Room} {s : State} {m : MethodId} {args : Array Value} {below : List Frame} {meth : Method} {c : Code} {Q : State → Prop} {E : zE} {cc : ByteArray} {nL : Nat} {own : String} {Ts : List Cond} {fr lo : Nat} {M0 : zM} {fin : ρ × zM} {M : zM} {pc : Nat} {lv lv' : List (Nat × zV)} {st : List zV} {f : zMn ρ}
theorem z_getW (X : z_X p R s m args meth c E cc nL own Ts fr lo M0 fin.2) {H : Heap} {locs : List Loc} {cells slots : Nat} {ls : Array Slot} {rest : List Value} {b ci k index N : Nat} {C : String} {T : u_T} {fs : List Value} {v : Value} (h1 : z_ok E M H) (hM : M[b]? = some (.inr (ci, fs))) (hv : fs[k]? = some v) (hc : vwCl[ci]? = some (C, T, N)) (hk : k < N) (hin : ∀ w ∈ u_ws C T N, w ∈ Ts) (hl : Cond.fieldLink own index (T k).1 (T k).2.1 (T k).2.2.1 ∈ Ts) (hd : decode cc pc = .ok (.getfield index, 3))
    (kk : W p l e R s m args below meth c H locs cells slots Q (F0 m (pc + 3) ls (z_sh E v :: rest))) : W p l e R s m args below meth c H locs cells slots Q (F0 m pc ls (.ref (z_al E b) :: rest)) := by
  obtain ⟨-, hob⟩ := z_ob_at h1 hM hc
  exact va_get (D := (E.2.2.1, E.2.2.2.1)) (cl := vwCl) (ci := ci) (tys := []) (ws := [(z_al E b, .inr (ci, fs.map (z_sh E)))]) X.1.1 X.1.2.1 X.1.2.2.2.2 hin X.1.2.2.2.1 (z_Kva X.2.1) (z_P1 ⟨_, hc, hob⟩) 0 rfl hc k hk (X.1.2.2.2.2 _ hl) (fun _ h => h) (by rw [List.getElem?_map, hv]; rfl) hd kk
theorem s_gi (X : z_X p R s m args meth c E cc nL own Ts fr lo M0 fin.2) {a : Option Nat} {ci k index N : Nat} {C : String} {T : u_T} {g : Int32 → zMn ρ} (hc : vwCl[ci]? = some (C, T, N)) (hk : k < N) (hin : ∀ w ∈ u_ws C T N, w ∈ Ts) (hl : Cond.fieldLink own index (T k).1 (T k).2.1 (T k).2.2.1 ∈ Ts) (hd : decode cc pc = .ok (.getfield index, 3))
    (kk : ∀ x : Int32, z_S p l e R s m args below meth c Q E nL M0 fin M (pc + 3) lv (zi x :: st) (g x)) : z_S p l e R s m args below meth c Q E nL M0 fin M pc lv (za a :: st) (z_bd (z_gi a ci k) g) := by
  intro hF H locs ls h1 h2 h3 h5
  obtain ⟨q, hq, hG⟩ := z_bd_inv hF
  clear hF
  obtain ⟨x, hx, rfl⟩ := z_rd_inv hq
  obtain ⟨b, fs, v, rfl, hM, hv, hvx⟩ := z_obk_inv hx
  have ev := z_int_inv hvx
  subst ev
  exact z_getW X h1 hM hv hc hk hin hl hd (kk x hG H locs ls h1 h2 h3 h5)
theorem s_ga (X : z_X p R s m args meth c E cc nL own Ts fr lo M0 fin.2) {a : Option Nat} {ci k index N : Nat} {C : String} {T : u_T} {g : Option Nat → zMn ρ} (hc : vwCl[ci]? = some (C, T, N)) (hk : k < N) (hin : ∀ w ∈ u_ws C T N, w ∈ Ts) (hl : Cond.fieldLink own index (T k).1 (T k).2.1 (T k).2.2.1 ∈ Ts) (hd : decode cc pc = .ok (.getfield index, 3))
    (kk : ∀ x : Option Nat, z_S p l e R s m args below meth c Q E nL M0 fin M (pc + 3) lv (za x :: st) (g x)) : z_S p l e R s m args below meth c Q E nL M0 fin M pc lv (za a :: st) (z_bd (z_ga a ci k) g) := by
  intro hF H locs ls h1 h2 h3 h5
  obtain ⟨q, hq, hG⟩ := z_bd_inv hF
  clear hF
  obtain ⟨x, hx, rfl⟩ := z_rd_inv hq
  obtain ⟨b, fs, v, rfl, hM, hv, hvx⟩ := z_obk_inv hx
  have ev := z_rf_inv hvx
  subst ev
  refine z_getW X h1 hM hv hc hk hin hl hd ?_
  rw [z_sh_rf]
  exact kk x hG H locs ls h1 h2 h3 h5
theorem z_putW (X : z_X p R s m args meth c E cc nL own Ts fr lo M0 fin.2) {H : Heap} {locs : List Loc} {cells slots : Nat} {ls : Array Slot} {rest : List Value} {b ci k index N : Nat} {C : String} {T : u_T} {fs : List Value} {v : Value} {ty : FieldType} (h1 : z_ok E M H) (h2 : va_S (fun q => E.2.1 ≤ q) s.heap H locs) (hM : M[b]? = some (.inr (ci, fs))) (hg : z_g0 ≤ b) (hc : vwCl[ci]? = some (C, T, N)) (hk : k < N) (hin : ∀ w ∈ u_ws C T N, w ∈ Ts) (ty0 : Nat → FieldType) (hty : ∀ k, k < N → parseFieldDescriptor (T k).2.2.1 = some (ty0 k)) (hnm : ∀ a, a < N → ∀ b, b < N → a ≠ b → (T a).2.1 ≠ (T b).2.1) (hl : Cond.fieldLink own index (T k).1 (T k).2.1 (T k).2.2.1 ∈ Ts) (hfin : (T k).2.2.2 = false ∨ ((T k).2.2.2 = true ∧ meth.name = "<init>" ∧ (T k).1 = own)) (hd0 : ty0 k = ty) (hn : narrow ty (z_sh E v) = z_sh E v) (hfit : fits ty (z_sh E v) = true) (hd : decode cc pc = .ok (.putfield index, 3))
    (kk : ∀ (H1 : Heap) (locs1 : List Loc), z_ok E (M.set b (.inr (ci, fs.set k v))) H1 → va_S (fun q => E.2.1 ≤ q) s.heap H1 locs1 → W p l e R s m args below meth c H1 locs1 cells slots Q (F0 m (pc + 3) ls rest)) : W p l e R s m args below meth c H locs cells slots Q (F0 m pc ls (z_sh E v :: .ref (z_al E b) :: rest)) := by
  obtain ⟨hlen, hob⟩ := z_ob_at h1 hM hc
  have hb : b < M.length := (List.getElem?_eq_some_iff.mp hM).1
  have hK := z_Kva X.2.1
  have hts := X.1.2.2.2.2
  have hap := va_apart (own := own) hts hin ty0 hty hnm hK hc
  obtain ⟨cell, q1, q2, q3, q4⟩ := hob
  obtain ⟨hS, hfc, kC, hkC, hkind⟩ := hK.1 ci _ hc
  obtain ⟨cf, kf, fi, fd, hi, hsl⟩ := hS k hk
  have hlay := hts _ (hin _ (u_in_lay hk))
  have hst := (u_facts hfc hkC (u_lays hts hin hk) hi).1
  have hlink := hts _ hl
  have hkl : k < (fs.map (z_sh E)).length := by rw [List.length_map, hlen]; exact hk
  have done : ∀ (H' : Heap) (loc : Loc), loc.base = z_al E b → H'[z_al E b]? = some (cell.setSlot fd.slot (z_sh E v)) → H'.size = H.size → (∀ q, q ≠ z_al E b → H'[q]? = H[q]?) → W p l e R s m args below meth c H' (locs ++ [loc]) cells slots Q (F0 m (pc + 3) ls rest) := by
    intro H' loc hloc e1 e2 e3
    rw [hsl] at e1
    obtain ⟨la, lk⟩ := loc
    have hloc' : la = z_al E b := hloc
    subst hloc'
    refine kk H' _ (z_ok_set X.2.1.1 h1 hb hg e2 (Or.inr ⟨_, hc, by simpa using hlen, ?_⟩) e3) (h2.put e2 e3 (z_al_ge hg))
    rw [List.map_set]
    exact t_OB.to (V := updV (vp_V (fs.map (z_sh E))) k (z_sh E v)) ⟨_, e1, q2, q3, t_set q4 hap hk (z_sh E v)⟩ (fun j _ => vp_updV_set hkl (z_sh E v) j)
  rcases hfin with hfin | ⟨hfin, hin2, hdecl⟩
  · unfold u_lay at hlay
    rw [if_neg (by rw [hfin]; decide)] at hlay
    have h6 := u_store hfc hkC hkind hlay hi (by rw [hty k hk, hd0]) hn hfit
    exact W.putK X.1.1 X.1.2.1 (f := fd) ⟨X.1.2.2.2.1, hlink, ⟨_, _, _, hi⟩, hst⟩ (by rw [q2]; exact h6) q1 q3 (by rw [hsl]; exact k2_hasslot (q4 k hk)) rfl rfl hd fun H' e1 e2 e3 => done H' _ rfl e1 e2 e3
  · unfold u_lay at hlay
    rw [if_pos hfin] at hlay
    have hcf : m.cls = cf := by
      obtain ⟨_, _, c', _, _, _, -, -, hf', -, -, -, hown2, -⟩ := Cond.laysFinal_spec hlay
      have e1 : c' = cf := by have := hi.symm.trans hf'; simp at this; exact this.1.symm
      rw [hdecl] at hown2
      rw [← e1]; exact Option.some.inj (X.1.2.2.2.1.symm.trans hown2)
    have h6 := u_fits hfc hkC hkind (Or.inr hlay) hi (by rw [hty k hk, hd0]) hn hfit
    exact W.putFinK X.1.1 X.1.2.1 X.1.2.2.2.1 hlink hi hst hcf hin2 (by rw [q2]; exact h6) q1 q3 (by rw [hsl]; exact k2_hasslot (q4 k hk)) rfl rfl hd fun H' e1 e2 e3 => done H' _ rfl e1 e2 e3
theorem z_pf_inv {v : Option Nat} {ci k : Nat} {x : Value} {M : zM} {r : Unit × zM} (h : (z_pf v ci k x).1 M = some r) : ∃ b fs, v = some b ∧ M[b]? = some (.inr (ci, fs)) ∧ z_g0 ≤ b ∧ r = ((), M.set b (.inr (ci, fs.set k x))) := by
  obtain ⟨a, c0, c', hg, hc, -, hg0, rfl⟩ := z_wr_inv h
  cases v with
  | none => cases hg
  | some b =>
    simp only [Option.bind_some] at hg
    cases h1 : z_ob M (some b) ci with
    | none => rw [h1] at hg; cases hg
    | some fs =>
      rw [h1] at hg
      simp only [Option.bind_some] at hg
      split at hg
      · cases hg
        obtain ⟨b', hb', hM⟩ := z_ob_inv h1
        cases hb'
        exact ⟨_, fs, rfl, hM, hg0, rfl⟩
      · cases hg
/-- a field of numbers or of references is written -/
theorem s_pf (X : z_X p R s m args meth c E cc nL own Ts fr lo M0 fin.2) {a : Option Nat} {ci k index N : Nat} {C : String} {T : u_T} {x : zV} {g : Unit → zMn ρ} {ty : FieldType} (hc : vwCl[ci]? = some (C, T, N)) (hk : k < N) (hin : ∀ w ∈ u_ws C T N, w ∈ Ts) (ty0 : Nat → FieldType) (hty : ∀ k, k < N → parseFieldDescriptor (T k).2.2.1 = some (ty0 k)) (hnm : ∀ a, a < N → ∀ b, b < N → a ≠ b → (T a).2.1 ≠ (T b).2.1) (hl : Cond.fieldLink own index (T k).1 (T k).2.1 (T k).2.2.1 ∈ Ts) (hfin : (T k).2.2.2 = false ∨ ((T k).2.2.2 = true ∧ meth.name = "<init>" ∧ (T k).1 = own)) (hd0 : ty0 k = ty) (hn : ∀ E : zE, narrow ty (z_cv E x) = z_cv E x ∧ fits ty (z_cv E x) = true) (hd : decode cc pc = .ok (.putfield index, 3))
    (kk : ∀ M : zM, z_S p l e R s m args below meth c Q E nL M0 fin M (pc + 3) lv st (g ())) : z_S p l e R s m args below meth c Q E nL M0 fin M pc lv (x :: za a :: st) (z_bd (z_pf a ci k (z_v x)) g) := by
  intro hF H locs ls h1 h2 h3 h5
  obtain ⟨q, hq, hG⟩ := z_bd_inv hF
  clear hF
  have hgr := (z_pf a ci k (z_v x)).2 M q hq
  obtain ⟨b, fs, rfl, hM, hg0, rfl⟩ := z_pf_inv hq
  have hz : zsz (M.set b (.inr (ci, fs.set k (z_v x)))) = zsz M := zsz_set M b _ _ hM (by simp [zn])
  have e1 : z_cv E x = z_sh E (z_v x) := z_cv_eq E x
  show W p l e R s m args below meth c H locs _ _ Q (F0 m pc ls (z_cv E x :: .ref (z_al E b) :: st.map (z_cv E)))
  rw [e1]
  refine z_putW X h1 h2 hM hg0 hc hk hin ty0 hty hnm hl hfin hd0 (by rw [← e1]; exact (hn E).1) (by rw [← e1]; exact (hn E).2) hd (fun H1 locs1 hok hS => ?_)
  have K := kk _ hG H1 locs1 ls hok hS (zgr_tr h3 hgr) h5
  dsimp only at K
  rw [List.length_set, hz] at K
  exact K
theorem s_len (X : z_X p R s m args meth c E cc nL own Ts fr lo M0 fin.2) {a : Option Nat} {g : Int32 → zMn ρ} (hd : decode cc pc = .ok (.arraylength, 1))
    (kk : ∀ x : Int32, z_S p l e R s m args below meth c Q E nL M0 fin M (pc + 1) lv (zi x :: st) (g x)) : z_S p l e R s m args below meth c Q E nL M0 fin M pc lv (za a :: st) (z_bd (z_len a) g) := by
  intro hF H locs ls h1 h2 h3 h5
  obtain ⟨q, hq, hG⟩ := z_bd_inv hF
  clear hF
  obtain ⟨x, hx, rfl⟩ := z_rd_inv hq
  cases hA : z_ar M a with
  | none => rw [hA] at hx; cases hx
  | some y =>
    rw [hA] at hx
    cases hx
    obtain ⟨b, rfl, hM⟩ := z_ar_inv hA
    obtain ⟨k, vs⟩ := y
    obtain ⟨hk, -⟩ := h1.2.2 b _ hM
    obtain ⟨ty, ht⟩ : ∃ ty, z_aty k = some ty := z_ks_ty k hk
    obtain ⟨cell, g1, g2, g3, g4, g5, -⟩ := z_ar_atG X.2.1 h1 hM ht
    exact W.alen (n := Int32.ofNat vs.length) X.1.1 X.1.2.1 g1 g2 (z_ct_of g5).2.1 rfl rfl hd (kk _ hG H locs ls h1 h2 h3 h5)
theorem z_ki_ty {k : Nat} (h : z_ki k = true) : z_aty k = some .int := by
  have h' : k < 3 := by simpa [z_ki] using h
  unfold z_aty
  rw [if_pos h']
theorem s_li (X : z_X p R s m args meth c E cc nL own Ts fr lo M0 fin.2) {a : Option Nat} {i : Int32} {g : Int32 → zMn ρ} (hd : decode cc pc = .ok (.iaload, 1))
    (kk : ∀ x : Int32, z_S p l e R s m args below meth c Q E nL M0 fin M (pc + 1) lv (zi x :: st) (g x)) : z_S p l e R s m args below meth c Q E nL M0 fin M pc lv (zi i :: za a :: st) (z_bd (z_li a i) g) := by
  intro hF H locs ls h1 h2 h3 h5
  obtain ⟨q, hq, hG⟩ := z_bd_inv hF
  clear hF
  obtain ⟨x, hx, rfl⟩ := z_rd_inv hq
  cases hA : z_ar M a with
  | none => rw [hA] at hx; cases hx
  | some y =>
    rw [hA] at hx
    obtain ⟨k, vs⟩ := y
    simp only [Option.bind_some] at hx
    split at hx
    · rename_i hc
      obtain ⟨b, rfl, hM⟩ := z_ar_inv hA
      cases hv : vs[i.toNatClampNeg]? with
      | none => rw [hv] at hx; cases hx
      | some v =>
        rw [hv] at hx
        have ev := z_int_inv hx
        subst ev
        obtain ⟨cell, g1, g2, g3, g4, g5, -⟩ := z_ar_atG X.2.1 h1 hM (z_ki_ty hc.1)
        exact W.iald (v := .int x) X.1.1 X.1.2.1 g1 g2 g3 (z_in (z_ct_of g5).1 hc.2 hv) ((z_ct_of g5).2.2 _ _ hv) rfl rfl hd (kk x hG H locs ls h1 h2 h3 h5)
    · cases hx
theorem s_si (X : z_X p R s m args meth c E cc nL own Ts fr lo M0 fin.2) {a : Option Nat} {i x : Int32} {g : Unit → zMn ρ} (hd : decode cc pc = .ok (.iastore, 1))
    (kk : ∀ M : zM, z_S p l e R s m args below meth c Q E nL M0 fin M (pc + 1) lv st (g ())) : z_S p l e R s m args below meth c Q E nL M0 fin M pc lv (zi x :: zi i :: za a :: st) (z_bd (z_si a i x) g) := by
  intro hF H locs ls h1 h2 h3 h5
  obtain ⟨q, hq, hG⟩ := z_bd_inv hF
  clear hF
  have hgr := (z_si a i x).2 M q hq
  obtain ⟨b, c0, c', hgo, hc0, hn, hg0, rfl⟩ := z_wr_inv hq
  cases a with
  | none => cases hgo
  | some b' =>
    simp only [Option.bind_some] at hgo
    cases hA : z_ar M (some b') with
    | none => rw [hA] at hgo; cases hgo
    | some y =>
      rw [hA] at hgo
      obtain ⟨k, vs⟩ := y
      simp only [Option.bind_some] at hgo
      split at hgo
      · rename_i hc
        cases hgo
        obtain ⟨b2, hb2, hM⟩ := z_ar_inv hA
        cases hb2
        obtain ⟨cell, g1, g2, g3, g4, g5, g6, g7⟩ := z_ar_at X.2.1 h1 hM (z_k0 hc.1) (z_k0n hc.1)
        have hz : zsz (M.set b (.inl (k, vs.set i.toNatClampNeg (.int x)))) = zsz M := zsz_set M b _ _ hM (by simp [zn])
        refine W.iast X.1.1 X.1.2.1 g1 g2 g3 (by rw [z_slots_size g5]; exact fun q => q.elim hc.2.1 (fun q => absurd hc.2.2 (Nat.not_lt.mpr q))) rfl rfl hd (fun H' e1 e2 e3 => ?_)
        have K := kk _ hG H' _ ls (z_ok_set X.2.1.1 h1 ((List.getElem?_eq_some_iff.mp hM).1) hg0 e2 (z_at_store (v := .int x) g7 e1 g6 g3 g4 g5 (z_k0n hc.1)) e3) (h2.put (k := i.toNatClampNeg) e2 e3 (z_al_ge hg0)) (zgr_tr h3 hgr) h5
        dsimp only at K
        rw [List.length_set, hz] at K
        exact K
      · cases hgo
theorem z_kq_ty {k : Nat} (hk : k ∈ z_ks) (h : 8 ≤ k) : ∃ q : vw_C, vwCl[k - 8]? = some q ∧ z_aty k = some (.object q.1) := by
  obtain ⟨ty, ht⟩ := z_ks_ty k hk
  unfold z_aty at ht ⊢
  rw [if_neg (by omega), if_neg (by omega), if_neg (by omega), if_pos h] at ht ⊢
  cases hq : vwCl[k - 8]? with
  | none => rw [hq] at ht; cases ht
  | some q => exact ⟨q, rfl, rfl⟩
theorem s_la (X : z_X p R s m args meth c E cc nL own Ts fr lo M0 fin.2) {a : Option Nat} {i : Int32} {g : Option Nat → zMn ρ} (hd : decode cc pc = .ok (.aaload, 1))
    (kk : ∀ x : Option Nat, z_S p l e R s m args below meth c Q E nL M0 fin M (pc + 1) lv (za x :: st) (g x)) : z_S p l e R s m args below meth c Q E nL M0 fin M pc lv (zi i :: za a :: st) (z_bd (z_la a i) g) := by
  intro hF H locs ls h1 h2 h3 h5
  obtain ⟨q, hq, hG⟩ := z_bd_inv hF
  clear hF
  obtain ⟨x, hx, rfl⟩ := z_rd_inv hq
  cases hA : z_ar M a with
  | none => rw [hA] at hx; cases hx
  | some y =>
    rw [hA] at hx
    obtain ⟨k, vs⟩ := y
    simp only [Option.bind_some] at hx
    split at hx
    · rename_i hc
      obtain ⟨b, rfl, hM⟩ := z_ar_inv hA
      cases hv : vs[i.toNatClampNeg]? with
      | none => rw [hv] at hx; cases hx
      | some v =>
        rw [hv] at hx
        have ev := z_rf_inv hx
        subst ev
        obtain ⟨hk, -⟩ := h1.2.2 b _ hM
        obtain ⟨r, -, ht⟩ := z_kq_ty hk hc.1
        obtain ⟨cell, g1, g2, g3, g4, g5, -⟩ := z_ar_at X.2.1 h1 hM ht (by have := hc.1; omega)
        have K := kk x hG H locs ls h1 h2 h3 h5
        exact W.aald (v := va_rf (x.map (z_al E))) X.1.1 X.1.2.1 g1 g2 rfl g3 (z_in (Nat.le_of_eq (z_slots_size g5).symm) hc.2 hv) (by rw [← z_sh_rf]; exact z_slots_get g5 hv) rfl rfl hd K
    · cases hx
end ZM
