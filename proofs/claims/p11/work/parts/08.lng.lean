/-! LONGS AND BOOLEANS -/
def z_ll (v : Option Nat) (i : Int32) : zMn Int64 := z_rd fun M => (z_ar M v).bind fun x => if x.1 = 3 ∧ ¬ i < 0 then (x.2[i.toNatClampNeg]?).bind z_lng else none
def z_lb (v : Option Nat) (i : Int32) : zMn Int32 := z_rd fun M => (z_ar M v).bind fun x => if x.1 = 4 ∧ ¬ i < 0 then (x.2[i.toNatClampNeg]?).bind z_int else none
def z_slo (v : Option Nat) (i : Int32) (x : Int64) : zMn Unit := z_wr fun M => v.bind fun a => (z_ar M v).bind fun y => if y.1 = 3 ∧ ¬ i < 0 ∧ i.toNatClampNeg < y.2.length then some (a, .inl (y.1, y.2.set i.toNatClampNeg (.long x))) else none
def z_sb (v : Option Nat) (i x : Int32) : zMn Unit := z_wr fun M => v.bind fun a => (z_ar M v).bind fun y => if (y.1 = 4 ∧ (x = 0 ∨ x = 1)) ∧ ¬ i < 0 ∧ i.toNatClampNeg < y.2.length then some (a, .inl (y.1, y.2.set i.toNatClampNeg (.int x))) else none
def z_gl (v : Option Nat) (ci k : Nat) : zMn Int64 := z_rd fun M => (z_ob M v ci).bind fun fs => (fs[k]?).bind z_lng
theorem z_k3 {k : Nat} (h : k = 3) : z_aty k = some .long := by subst h; rfl
theorem z_k4 {k : Nat} (h : k = 4) : z_aty k = some .boolean := by subst h; rfl
section ZL

variable {ρ : Type} {p : Program} {l : Launch} {e : Env} {R : Room} {s : State} {m : MethodId} {args : Array Value} {below : List Frame} {meth : Method} {c : Code} {Q : State → Prop} {E : zE} {cc : ByteArray} {nL : Nat} {own : String} {Ts : List Cond} {fr lo : Nat} {M0 : zM} {fin : ρ × zM} {M : zM} {pc : Nat} {lv lv' : List (Nat × zV)} {st : List zV} {f : zMn ρ}
theorem s_ll (X : z_X p R s m args meth c E cc nL own Ts fr lo M0 fin.2) {a : Option Nat} {i : Int32} {g : Int64 → zMn ρ} (hd : decode cc pc = .ok (.laload, 1))
    (kk : ∀ x : Int64, z_S p l e R s m args below meth c Q E nL M0 fin M (pc + 1) lv (zl x :: st) (g x)) : z_S p l e R s m args below meth c Q E nL M0 fin M pc lv (zi i :: za a :: st) (z_bd (z_ll a i) g) := by
  intro hF H locs ls h1 h2 h3 h5
  obtain ⟨q, hq, hG⟩ := z_bd_inv hF
  clear hF
  obtain ⟨x, hx, rfl⟩ := z_rd_inv hq
  cases hA : z_ar M a with
  | none => rw [hA] at hx; cases hx
  | some y =>
    rw [hA] at hx
    obtain ⟨k, vs⟩ := y
    simp only [Option.bind_some] at hx
    split at hx
    · rename_i hc
      obtain ⟨b, rfl, hM⟩ := z_ar_inv hA
      cases hv : vs[i.toNatClampNeg]? with
      | none => rw [hv] at hx; cases hx
      | some v =>
        rw [hv] at hx
        have ev := z_lng_inv hx
        subst ev
        obtain ⟨cell, g1, g2, g3, g4, g5, -⟩ := z_ar_atG X.2.1 h1 hM (z_k3 hc.1)
        exact W.lald (v := .long x) X.1.1 X.1.2.1 g1 g2 g3 (z_in (z_ct_of g5).1 hc.2 hv) ((z_ct_of g5).2.2 _ _ hv) rfl rfl hd (kk x hG H locs ls h1 h2 h3 h5)
    · cases hx

theorem s_lb (X : z_X p R s m args meth c E cc nL own Ts fr lo M0 fin.2) {a : Option Nat} {i : Int32} {g : Int32 → zMn ρ} (hd : decode cc pc = .ok (.baload, 1))
    (kk : ∀ x : Int32, z_S p l e R s m args below meth c Q E nL M0 fin M (pc + 1) lv (zi x :: st) (g x)) : z_S p l e R s m args below meth c Q E nL M0 fin M pc lv (zi i :: za a :: st) (z_bd (z_lb a i) g) := by
  intro hF H locs ls h1 h2 h3 h5
  obtain ⟨q, hq, hG⟩ := z_bd_inv hF
  clear hF
  obtain ⟨x, hx, rfl⟩ := z_rd_inv hq
  cases hA : z_ar M a with
  | none => rw [hA] at hx; cases hx
  | some y =>
    rw [hA] at hx
    obtain ⟨k, vs⟩ := y
    simp only [Option.bind_some] at hx
    split at hx
    · rename_i hc
      obtain ⟨b, rfl, hM⟩ := z_ar_inv hA
      cases hv : vs[i.toNatClampNeg]? with
      | none => rw [hv] at hx; cases hx
      | some v =>
        rw [hv] at hx
        have ev := z_int_inv hx
        subst ev
        obtain ⟨cell, g1, g2, g3, g4, g5, -⟩ := z_ar_atG X.2.1 h1 hM (z_k4 hc.1)
        exact W.zald (v := .int x) X.1.1 X.1.2.1 g1 g2 g3 (z_in (z_ct_of g5).1 hc.2 hv) ((z_ct_of g5).2.2 _ _ hv) rfl rfl hd (kk x hG H locs ls h1 h2 h3 h5)
    · cases hx

theorem s_sl (X : z_X p R s m args meth c E cc nL own Ts fr lo M0 fin.2) {a : Option Nat} {i : Int32} {x : Int64} {g : Unit → zMn ρ} (hd : decode cc pc = .ok (.lastore, 1))
    (kk : ∀ M : zM, z_S p l e R s m args below meth c Q E nL M0 fin M (pc + 1) lv st (g ())) : z_S p l e R s m args below meth c Q E nL M0 fin M pc lv (zl x :: zi i :: za a :: st) (z_bd (z_slo a i x) g) := by
  intro hF H locs ls h1 h2 h3 h5
  obtain ⟨q, hq, hG⟩ := z_bd_inv hF
  clear hF
  have hgr := (z_slo a i x).2 M q hq
  obtain ⟨b, c0, c', hgo, hc0, hn, hg0, rfl⟩ := z_wr_inv hq
  cases a with
  | none => cases hgo
  | some b' =>
    simp only [Option.bind_some] at hgo
    cases hA : z_ar M (some b') with
    | none => rw [hA] at hgo; cases hgo
    | some y =>
      rw [hA] at hgo
      obtain ⟨k, vs⟩ := y
      simp only [Option.bind_some] at hgo
      split at hgo
      · rename_i hc
        cases hgo
        obtain ⟨b2, hb2, hM⟩ := z_ar_inv hA
        cases hb2
        obtain ⟨cell, g1, g2, g3, g4, g5, g6, g7⟩ := z_ar_at X.2.1 h1 hM (z_k3 hc.1) (z_k3n hc.1)
        have hz : zsz (M.set b (.inl (k, vs.set i.toNatClampNeg (.long x)))) = zsz M := zsz_set M b _ _ hM (by simp [zn])
        refine W.last X.1.1 X.1.2.1 g1 g2 g3 (by rw [z_slots_size g5]; exact fun q => q.elim hc.2.1 (fun q => absurd hc.2.2 (Nat.not_lt.mpr q))) rfl rfl hd (fun H' e1 e2 e3 => ?_)
        have K := kk _ hG H' _ ls (z_ok_set X.2.1.1 h1 ((List.getElem?_eq_some_iff.mp hM).1) hg0 e2 (z_at_store (v := .long x) g7 e1 g6 g3 g4 g5 (z_k3n hc.1)) e3) (h2.put (k := i.toNatClampNeg) e2 e3 (z_al_ge hg0)) (zgr_tr h3 hgr) h5
        dsimp only at K
        rw [List.length_set, hz] at K
        exact K
      · cases hgo

theorem s_sb (X : z_X p R s m args meth c E cc nL own Ts fr lo M0 fin.2) {a : Option Nat} {i x : Int32} {g : Unit → zMn ρ} (hd : decode cc pc = .ok (.bastore, 1))
    (kk : ∀ M : zM, z_S p l e R s m args below meth c Q E nL M0 fin M (pc + 1) lv st (g ())) : z_S p l e R s m args below meth c Q E nL M0 fin M pc lv (zi x :: zi i :: za a :: st) (z_bd (z_sb a i x) g) := by
  intro hF H locs ls h1 h2 h3 h5
  obtain ⟨q, hq, hG⟩ := z_bd_inv hF
  clear hF
  have hgr := (z_sb a i x).2 M q hq
  obtain ⟨b, c0, c', hgo, hc0, hn, hg0, rfl⟩ := z_wr_inv hq
  cases a with
  | none => cases hgo
  | some b' =>
    simp only [Option.bind_some] at hgo
    cases hA : z_ar M (some b') with
    | none => rw [hA] at hgo; cases hgo
    | some y =>
      rw [hA] at hgo
      obtain ⟨k, vs⟩ := y
      simp only [Option.bind_some] at hgo
      split at hgo
      · rename_i hc
        cases hgo
        obtain ⟨b2, hb2, hM⟩ := z_ar_inv hA
        cases hb2
        obtain ⟨cell, g1, g2, g3, g4, g5, g6, g7⟩ := z_ar_at X.2.1 h1 hM (z_k4 hc.1.1) (z_k4n hc.1.1)
        have hz : zsz (M.set b (.inl (k, vs.set i.toNatClampNeg (.int x)))) = zsz M := zsz_set M b _ _ hM (by simp [zn])
        refine W.zast X.1.1 X.1.2.1 g1 g2 g3 (by rw [z_slots_size g5]; exact fun q => q.elim hc.2.1 (fun q => absurd hc.2.2 (Nat.not_lt.mpr q))) rfl rfl hd (fun H' e1 e2 e3 => ?_)
        have hnb : narrow .boolean (.int x) = .int x := by rcases hc.1.2 with rfl | rfl <;> rfl
        rw [hnb] at e1
        have K := kk _ hG H' _ ls (z_ok_set X.2.1.1 h1 ((List.getElem?_eq_some_iff.mp hM).1) hg0 e2 (z_at_store (v := .int x) g7 e1 g6 g3 g4 g5 (z_k4n hc.1.1)) e3) (h2.put (k := i.toNatClampNeg) e2 e3 (z_al_ge hg0)) (zgr_tr h3 hgr) h5
        dsimp only at K
        rw [List.length_set, hz] at K
        exact K
      · cases hgo

theorem s_gl (X : z_X p R s m args meth c E cc nL own Ts fr lo M0 fin.2) {a : Option Nat} {ci k index N : Nat} {C : String} {T : u_T} {g : Int64 → zMn ρ} (hc : vwCl[ci]? = some (C, T, N)) (hk : k < N) (hin : ∀ w ∈ u_ws C T N, w ∈ Ts) (hl : Cond.fieldLink own index (T k).1 (T k).2.1 (T k).2.2.1 ∈ Ts) (hd : decode cc pc = .ok (.getfield index, 3))
    (kk : ∀ x : Int64, z_S p l e R s m args below meth c Q E nL M0 fin M (pc + 3) lv (zl x :: st) (g x)) : z_S p l e R s m args below meth c Q E nL M0 fin M pc lv (za a :: st) (z_bd (z_gl a ci k) g) := by
  intro hF H locs ls h1 h2 h3 h5
  obtain ⟨q, hq, hG⟩ := z_bd_inv hF
  clear hF
  obtain ⟨x, hx, rfl⟩ := z_rd_inv hq
  obtain ⟨b, fs, v, rfl, hM, hv, hvx⟩ := z_obk_inv hx
  have ev := z_lng_inv hvx
  subst ev
  exact z_getW X h1 hM hv hc hk hin hl hd (kk x hG H locs ls h1 h2 h3 h5)

theorem s_lcmp (X : z_X p R s m args meth c E cc nL own Ts fr lo M0 fin.2) {x y : Int64} (hd : decode cc pc = .ok (.lcmp, 1))
    (k : z_S p l e R s m args below meth c Q E nL M0 fin M (pc + 1) lv (zi (lg_cmp x y) :: st) f) : z_S p l e R s m args below meth c Q E nL M0 fin M pc lv (zl y :: zl x :: st) f :=
  fun hF H locs ls h1 h2 h3 h5 => W.lcmp X.1.1 X.1.2.1 hd (k hF H locs ls h1 h2 h3 h5)
theorem s_letl {x : Int64} {g : Int64 → zMn ρ} (k : ∀ y : Int64, z_S p l e R s m args below meth c Q E nL M0 fin M pc lv (zl y :: st) (g y)) : z_S p l e R s m args below meth c Q E nL M0 fin M pc lv (zl x :: st) (z_bd (z_ret x) g) := fun hF => k x hF
theorem s_nwl (X : z_X p R s m args meth c E cc nL own Ts fr lo M0 fin.2) {n : Int32} {g : Nat → zMn ρ} (harr : Cond.arrayClass .long ∈ Ts) (hd : decode cc pc = .ok (.newarray .long, 2))
    (kk : ∀ (a : Nat) (M : zM), z_S p l e R s m args below meth c Q E nL M0 fin M (pc + 2) lv (za (some a) :: st) (g a)) : z_S p l e R s m args below meth c Q E nL M0 fin M pc lv (zi n :: st) (z_bd (z_nwa 3 (.long 0) n) g) :=
  s_nwa (atype := .long) (ty := .long) X (by decide) (by decide) rfl rfl rfl (fun _ => rfl) (by decide) (fun _ _ h => h) harr hd kk
theorem s_nwz (X : z_X p R s m args meth c E cc nL own Ts fr lo M0 fin.2) {n : Int32} {g : Nat → zMn ρ} (harr : Cond.arrayClass .boolean ∈ Ts) (hd : decode cc pc = .ok (.newarray .boolean, 2))
    (kk : ∀ (a : Nat) (M : zM), z_S p l e R s m args below meth c Q E nL M0 fin M (pc + 2) lv (za (some a) :: st) (g a)) : z_S p l e R s m args below meth c Q E nL M0 fin M pc lv (zi n :: st) (z_bd (z_nwa 4 (.int 0) n) g) :=
  s_nwa (atype := .boolean) (ty := .boolean) X (by decide) (by decide) rfl rfl rfl (fun _ => rfl) (by decide) (fun _ _ h => h) harr hd kk
end ZL
theorem s_retl {p : Program} {l : Launch} {e : Env} {R : Room} {s : State} {m : MethodId} {args : Array Value} {below : List Frame} {meth : Method} {c : Code} {E : zE} {cc : ByteArray} {nL : Nat} {own : String} {Ts : List Cond} {fr lo : Nat} {M0 : zM} {M : zM} {pc : Nat} {lv : List (Nat × zV)} {fin : Int64 × zM} (X : z_X p R s m args meth c E cc nL own Ts fr lo M0 fin.2) {x : Int64} (hr : meth.sig.returnType = some .long) (hd : decode cc pc = .ok (.lreturn, 1)) : z_S p l e R s m args below meth c (z_Qm E below args s M0 z_rl fin) E nL M0 fin M pc lv [zl x] (z_ret x) := by
  intro hF H locs ls h1 h2 h3 h5
  cases hF
  exact W.lret X.1.1 X.1.2.1 hr (fun t ht _ => ⟨rfl, by rw [ht]; exact h1, h2.F ht⟩) h2.2.2 hd X.2.2.2.2.2.2
