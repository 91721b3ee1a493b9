/-! THROWS: a throw at the end of a method's walk, and a method's contract that it throws -/
theorem z_sk {c c' : Cell} (h1 : c' = { c with slots := c'.slots }) (h2 : ∀ i : Nat, c'.slots[i]? = c.slots[i]?) : c' = c := by
  have h3 : c'.slots = c.slots := Array.ext_getElem? h2
  rw [h1, h3]
section ZT
variable {p : Program} {l : Launch} {e : Env} {R : Room} {s : State} {m : MethodId} {args : Array Value} {below : List Frame} {meth : Method} {c : Code} {T : State} {locs : List Loc} {cells slots : Nat}
/-- the walk from here on, as if the method began here -/
theorem z_rebase (X : Stand p l e R s m args below meth c T locs cells slots) (hc : cells ≤ R.cells) (hs : slots ≤ R.slots) : Stand p l e { R with cells := R.cells - cells, slots := R.slots - slots } (T.setFrames (.invoking m args :: below)) m args below meth c T [] 0 0 := by
  obtain ⟨g₀, hfr⟩ := X.frames_eq
  obtain ⟨th, hth, -⟩ := State.frames_cons hfr
  have hcur : T.cur < T.threads.size := (Array.getElem?_eq_some_iff.mp hth).1
  have hF : (T.setFrames (.invoking m args :: below)).frames = .invoking m args :: below := State.frames_setFrames _ hcur
  have hm' : (T.setFrames (.invoking m args :: below)).vm.method? m = some meth := X.method'
  have hU : (T.setFrames (.invoking m args :: below)).localsInUse = s.localsInUse := by
    rw [State.localsInUse_invoking hF hm' X.code, State.localsInUse_invoking X.frames X.method X.code]
  have hroom : (T.setFrames (.invoking m args :: below)).hasRoom e.platform { R with cells := R.cells - cells, slots := R.slots - slots } = true := by
    have h := X.room
    have hb : (T.setFrames (.invoking m args :: below)).slotsTrue = true := X.book
    have h1 : (T.setFrames (.invoking m args :: below)).heap.size ≤ s.heap.size + cells := X.heapSize
    have h2 : (T.setFrames (.invoking m args :: below)).slotsUsed ≤ s.slotsUsed + slots := X.used
    simp only [State.hasRoom, Bool.and_eq_true, decide_eq_true_eq] at h ⊢
    rw [hU, hF, State.stackLimits_setFrames, State.stackBytes_setFrames, X.limits, X.bytes]
    rw [X.frames] at h
    obtain ⟨⟨⟨⟨a1, a2⟩, a7⟩, a8⟩, a9⟩ := h
    exact ⟨⟨⟨⟨a1, a2⟩, by omega⟩, by omega⟩, hb⟩
  have hmeth : ∀ mm : MethodId, (T.setFrames (.invoking m args :: below)).vm.method? mm = s.vm.method? mm := fun mm => X.warmed.alike.method? mm
  have hcode : ∀ mm : MethodId, (T.setFrames (.invoking m args :: below)).code? mm = s.code? mm := fun mm => by
    rw [State.code?_eq, State.code?_eq, hmeth]
  have hhears : (T.setFrames (.invoking m args :: below)).hears m below = true := by
    have h := X.hears
    generalize T.setFrames (.invoking m args :: below) = s' at hmeth hcode ⊢
    cases hb : below with
    | nil => rw [hb] at h; simp only [State.hears] at h ⊢; rw [hmeth]; exact h
    | cons f r =>
      rw [hb] at h
      cases f <;> simp only [State.hears] at h ⊢ <;> first | (rw [hcode]; exact h) | (rw [hmeth]; exact h) | exact h
  refine ⟨X.admits, X.cas, X.clock, hF, hroom, hhears, hm', X.code, X.here, X.tail, State.WarmedH.refl _, by rw [State.stackLimits_setFrames], by rw [State.stackBytes_setFrames], ?_⟩
  have e1 : T.setVm (T.setFrames (.invoking m args :: below)).vm = { (T.setFrames (.invoking m args :: below)).setFrames T.frames with heap := T.heap, slotsUsed := T.slotsUsed } := by
    rw [State.setFrames_setFrames, State.setFrames_self hth]
    rfl
  refine ⟨e1, Nat.le_refl _, Nat.le_refl _, ?_, ?_, ?_⟩
  · show T.slotsUsed = T.slotsUsed + ((T.heap.toList.drop T.heap.size).map (·.slots.size)).sum
    rw [List.drop_eq_nil_of_le (by simp)]
    rfl
  · show ((T.heap.toList.drop T.heap.size).map (·.slots.size)).sum ≤ 0
    rw [List.drop_eq_nil_of_le (by simp)]
    exact Nat.le_refl _
  · intro a k hk
    exact ⟨k, hk, rfl, rfl, fun _ _ => rfl⟩
end ZT
theorem z_own_split : ∀ w ∈ Bundle.ownAtoms RX10 126 z_exc z_excN, w ∈ z_tw ∨ w ∈ [Cond.isRef (.static "java/lang/Throwable" "UNASSIGNED_STACK" "[Ljava/lang/StackTraceElement;"), Cond.isRef (.static "java/lang/Throwable" "SUPPRESSED_SENTINEL" "Ljava/util/List;")] ∨ w ∈ [Cond.laysStatic "java/lang/Throwable" "UNASSIGNED_STACK" "[Ljava/lang/StackTraceElement;", Cond.laysStatic "java/lang/Throwable" "SUPPRESSED_SENTINEL" "Ljava/util/List;"] := by decide +kernel
theorem z_isRef {C n d : String} {A : Nat → Prop} {U : State} {B : Array Value} (h : va_Zq C n d A U U.heap) : (Cond.isRef (.static C n d)).before B U = true := by
  rcases h with h | ⟨t, h⟩ <;>
  · obtain ⟨cf, kf, fi, f, a, cell, g1, g2, g3, g4, g5, g6, g7, g8⟩ := h
    have := Term.static_eval (args := B) (first := U) (o := none) (idx := []) g1 g2 g4 g5 g6 g7
    simp [Cond.before, Cond.holds, Cond.value, this]
theorem z_lsA {C n d : String} {U : State} {A B : Array Value} (h : (Cond.laysStatic C n d).before A U = true) : (Cond.laysStatic C n d).before B U = true := h
theorem z_atoms {E : zE} {U : State} {B : Array Value} (h : z_KT E U) : ∀ w ∈ Bundle.ownAtoms RX10 126 z_exc z_excN, w.before B U = true := by
  have ht : ∀ w ∈ z_tw, w.onTables = true := by decide +kernel
  have q1 := h.2.2 ("java/lang/Throwable", "UNASSIGNED_STACK", "[Ljava/lang/StackTraceElement;") (by decide)
  have q2 := h.2.2 ("java/lang/Throwable", "SUPPRESSED_SENTINEL", "Ljava/util/List;") (by decide)
  intro w hw
  rcases z_own_split w hw with h1 | h1 | h1
  · exact va_Nw.use (ht w h1) (h.1 w h1)
  · rcases List.mem_cons.mp h1 with rfl | h1
    · exact z_isRef q1.1
    · rcases List.mem_cons.mp h1 with rfl | h1
      · exact z_isRef q2.1
      · cases h1
  · rcases List.mem_cons.mp h1 with rfl | h1
    · exact z_lsA q1.2
    · rcases List.mem_cons.mp h1 with rfl | h1
      · exact z_lsA q2.2
      · cases h1
/-- what is so behind a throw of a -/
def z_QcT (E : zE) (M' : zM) (s : State) (a : Addr) (t : State) : Prop := a = z_al E (M'.length - 1) ∧ z_ok E M' t.heap ∧ va_F (fun q => E.2.1 ≤ q) s t ∧ ∃ ce : Cell, t.heap[a]? = some ce ∧ ce.vm = .none ∧ s.vm.findClass z_exc = some ce.cls
def z_FT (E : zE) (s t : State) (mc ms : Nat) : Prop := ∃ L, s.WarmedH t.vm ∧ s.sameButNew ({ t with vm := s.vm } : State) L mc ms ∧ ∀ q ∈ L, E.2.1 ≤ q.base
def z_QT (E : zE) (below : List Frame) (s : State) (M0 : zM) (fin : Unit × zM) : State → Prop := fun t =>
  ∃ a, t.status = .running ∧ Ended t below (.threw a) ∧ z_QcT E fin.2 s a t ∧ z_FT E s t (fin.2.length - M0.length) (zsz fin.2 - zsz M0)
section ZT2
variable {p : Program} {l : Launch} {e : Env} {R : Room} {s : State} {m : MethodId} {args : Array Value} {below : List Frame} {meth : Method} {c : Code} {E : zE} {cc : ByteArray} {nL : Nat} {own : String} {Ts : List Cond} {fr lo : Nat} {M0 : zM} {M : zM} {pc : Nat} {lv : List (Nat × zV)}
theorem s_thr {fin : Unit × zM} (X : z_X p R s m args meth c E cc nL RX10 Ts fr lo M0 fin.2) (htr : l.stackTraces = false) (hx : ∀ x ∈ c.exceptionTable.toList, covers x (pc + 9) = false) {i j : Nat} {tx : String} (hq : (RX10, j, tx) ∈ z_str) (hcl : Cond.classLink RX10 i z_exc ∈ Ts) (hini : Cond.initialized z_exc ∈ Ts)
    (hd0 : decode cc pc = .ok (.new i, 3)) (hd3 : decode cc (pc + 3) = .ok (.dup, 1)) (hd4 : decode cc (pc + 4) = .ok (.ldc j, 2)) (hd6 : decode cc (pc + 6) = .ok (.invokespecial 126, 3)) (hd9 : decode cc (pc + 9) = .ok (.athrow, 1)) (hR : 6 < fr ∧ 95 ≤ lo) : z_S p l e R s m args below meth c (z_QT E below s M0 fin) E nL M0 fin M pc lv [] z_thr := by
  intro hF H locs ls h1 h2 h3 h5 T hT X0
  have hF' : some ((), M ++ [.inr (999, List.replicate 6 .null)]) = some fin := hF
  cases hF'
  obtain ⟨el, es⟩ := z_len_push (c0 := .inr (999, List.replicate 6 .null)) h3
  have en : zn (.inr (999, List.replicate 6 .null)) = 6 := rfl
  rw [en] at es
  have hrc := X.2.2.2.2.1
  have hrs := X.2.2.2.2.2.1
  rw [el] at hrc
  rw [es] at hrs
  have htr' : e.platform.stackTraces = false := by rw [X0.admits.platform]; exact htr
  have X1 := z_rebase X0 (Nat.le_of_succ_le hrc) (by omega)
  have hvm : (T.setFrames (.invoking m args :: below)).vm = T.vm := rfl
  have hhp : (T.setFrames (.invoking m args :: below)).heap = H := hT
  have hsm : ∀ fs, (T.setFrames (.invoking m args :: below)).setFrames fs = T.setFrames fs := fun fs => State.setFrames_setFrames _ _ _
  have hsu : (T.setFrames (.invoking m args :: below)).slotsUsed = T.slotsUsed := rfl
  generalize T.setFrames (.invoking m args :: below) = s' at X1 hvm hhp hsm hsu
  have hW' : s.WarmedH s'.vm := by rw [hvm]; exact X0.warmed
  have hK' : z_K E s' := X.2.1.moved hW' (fun q g1 g2 => by rw [hhp]; exact h2.2.1 q g1 g2)
  have hKT : z_KT E s' := hK'.2.2.2.2.2.2.2
  have hown : s'.vm.findClass RX10 = some m.cls := by rw [hW'.alike.findClass]; exact X.1.2.2.2.1
  have hts := X.1.2.2.2.2
  have gcl : goodWord (Cond.classLink RX10 i z_exc) = true := rfl
  have gin : goodWord (Cond.initialized z_exc) = true := rfl
  have hat := z_atoms (B := args) hKT
  obtain ⟨q, hZ⟩ := hKT.2.1 _ hq
  obtain ⟨vm₁, cX, kX, hfX, hkX, -, -, X2, st1⟩ := X1.newCold X.1.1 (own := RX10) (C := z_exc) (index := i) (n := 6) hown (word_at hW' (good_of_word gcl) (hts _ hcl)) (hat (.instantiable z_exc 6) (by simp [Bundle.ownAtoms])) (word_at hW' (good_of_word gin) (hts _ hini)) (g := F0 m pc ls []) rfl (by rw [X.1.2.1]; exact hd0) (by show 0 + 1 ≤ R.cells - _; omega) (by show 0 + 6 ≤ R.slots - _; omega)
  have hsz : T.heap.size = H.size := by rw [hT]
  generalize hT2 : (T.setVm vm₁).pushCell { cls := cX, slots := kX.instanceTypes.map defaultValue, vm := .none } = T2 at X2 st1
  have hcellA : T2.heap[H.size]? = some (freshCell cX kX) := by rw [← hT2, ← hsz]; exact State.heap_pushCell_size _ _
  rw [hsz] at st1
  obtain ⟨U, hsteps, hrun, hend, hW, hsame, ce, hce, K⟩ := X2.ctorThrowS X.1.1 htr' (own := RX10) (cls := z_exc) (names := z_excN) (ic := 126) hown (by decide +kernel) (by decide +kernel) hat (fun y hy => by cases hy) hfX hkX hcellA (by rw [hhp]; exact Nat.le_refl _) (msg := .ref q) rfl
    (g := F0 m (pc + 6) ls [.ref q, .ref H.size, .ref H.size]) rfl (by rw [X.1.2.2.1]; exact h5.1) rfl rfl (rest := []) rfl (by rw [X.1.2.1]; exact hd6) (by rw [X.1.2.1]; exact hd9) hx (by show 3 + 3 < R.frames; rw [X.2.2.1]; exact hR.1) (by show 2 * 0 + 1 + (13 * (3 + 1) + 42) ≤ R.locals; rw [X.2.2.2.1]; exact hR.2) X.2.2.2.2.2.2
  have hlt : H.size < U.heap.size := (Array.getElem?_eq_some_iff.mp hce).1
  have hz1 : U.heap.size ≤ s'.heap.size + (0 + 1) := hsame.2.2.1
  have hz : U.heap.size = H.size + 1 := by rw [hhp] at hz1; omega
  have hold : ∀ a : Nat, a < H.size → U.heap[a]? = H[a]? := by
    intro a ha
    have h0 : s'.heap[a]? = some (H[a]'ha) := by rw [hhp]; exact Array.getElem?_eq_getElem ha
    obtain ⟨c', g1, g2, -, g3⟩ := hsame.2.2.2.2.2 a _ h0
    have g1' : U.heap[a]? = some c' := g1
    rw [g1', z_sk g2 (fun i => g3 i (by simp)), Array.getElem?_eq_getElem ha]
  have hTU : T.sameButNew ({ U with vm := T.vm } : State) [] (0 + 1) (0 + 6) := by
    have hhT : s'.heap = T.heap := hhp.trans hT.symm
    obtain ⟨e1, e2, e3, e4, e5, e6⟩ := hsame
    rw [hhT] at e2 e3 e4 e5 e6
    rw [hsu] at e4
    refine ⟨?_, e2, e3, e4, e5, e6⟩
    have e1' : ({ U with vm := s'.vm } : State) = { s'.setFrames U.frames with heap := U.heap, slotsUsed := U.slotsUsed } := e1
    rw [hsm, hvm] at e1'
    exact e1'
  refine ⟨U, ?_, H.size, hrun, hend, ⟨by simp [z_ok_new h1], z_ok_push X.2.1.1 h1 hz (Or.inl ⟨rfl, ce, by rw [z_ok_new h1]; exact hce, by rw [K.vm]; rfl⟩) hold, ?_, ce, hce, K.vm, ?_⟩, locs, State.WarmedH.trans hW' hW, ?_, h2.2.2⟩
  · refine st1 _ ?_
    show Steps p.tables e below (T2.setTop (F0 m (pc + 3) ls [.ref H.size])) _
    jvm_step X2.here [X2.here.top, X.1.1, X.1.2.1, hd3, Value.category]
    exact X2.ldcString X.1.1 hown (text := tx) (a := q) hZ.1 hZ.2 (g := F0 m (pc + 4) ls [.ref H.size, .ref H.size]) rfl (by rw [X.1.2.1]; exact hd4) _ hsteps
  · exact ⟨Nat.le_trans h2.1 (by omega), fun q g1 g2 => by rw [hold q (Nat.lt_of_lt_of_le g1 h2.1)]; exact h2.2.1 q g1 g2⟩
  · rw [← hW'.alike.findClass]; exact K.cls
  · have h := X0.same.trans (hTU.setVm s.vm)
    rw [List.append_nil] at h
    dsimp only
    rw [el, es]
    exact h
end ZT2
/-- y's contract at its arguments as: where the pure program answers, the machine throws -/
def z_MetT (l : Launch) (E : zE) (y : MethodName) (ws : List Cond) (fr lo : Nat) (as : List zV) (f : zMn Unit) : Prop :=
  ∀ (M : zM) (r : Unit × zM), f.1 M = some r → MetFree l y (headSpec ws (z_rm fr lo M r.2)) (z_Pc E as M) (fun _ _ _ _ _ => True) (fun _ st o t => ∃ a, o = .threw a ∧ z_QcT E r.2 st a t ∧ z_FT E st t (r.2.length - M.length) (zsz r.2 - zsz M))
theorem z_ofT {l : Launch} {E : zE} {y : MethodName} {ws ws' : List Cond} {cc : ByteArray} {maxL fr lo : Nat} {rt : Option FieldType} {as : List zV} {fc : zMn Unit} {own : String} (ho : y.cls = own) (hy : plainName y.cls = true) (hw : ws = Cond.code y cc maxL rt :: ws') (hsl : z_sl as ≤ maxL)
    (body : ∀ (p : Program) (e : Env) (R : Room) (s : State) (m : MethodId) (args : Array Value) (below : List Frame) (meth : Method) (c : Code) (M : zM) (fin : Unit × zM), z_X p R s m args meth c E cc maxL own ws fr lo M fin.2 → (∀ pc : Nat, ∀ x ∈ c.exceptionTable.toList, covers x pc = false) → z_S p l e R s m args below meth c (z_QT E below s M fin) E maxL M fin M 0 (z_ar0 0 as) [] fc) : z_MetT l E y ws fr lo as fc := by
  intro M fin hF
  subst ho
  refine MetFree.of_bodyS (code := cc) (maxLocals := maxL) (ret := rt) hy ?_ ?_
  · intro args s m h hn
    obtain ⟨meth, c, h1, h2, h3, h4, h5, h6, -, -⟩ := Cond.code_spec hn (atoms_spec (ws := ws) h _ (by rw [hw]; exact List.mem_cons_self))
    exact ⟨meth, c, h1, h2, h3, h4, h5, h6⟩
  · intro p e s m args below meth c s₁ B hml hv _
    obtain ⟨rfl, hok, hK⟩ := hv
    have hX : z_X p (headSpec ws (z_rm fr lo M fin.2)).room s m (as.map (z_cv E)).toArray meth c E cc maxL y.cls ws fr lo M fin.2 :=
      ⟨⟨B.exec, B.bytes, hml, findClass_of_methodNamed B.named, atoms_spec (ws := ws) B.pre⟩, hK, rfl, rfl, Nat.le_refl _, Nat.le_refl _, B.notSynchronized⟩
    have hl := lv_entry (as.map (z_cv E)) (n := maxL) (by rw [z_sl_eq]; exact hsl)
    have hcode : (Cond.code y cc maxL rt).before (as.map (z_cv E)).toArray s = true := atoms_spec (ws := ws) B.pre _ (by rw [hw]; exact List.mem_cons_self)
    rw [lg_entry_eq]
    generalize (lg_sl (as.map (z_cv E)) ++ List.replicate (maxL - (lg_sl (as.map (z_cv E))).length) Slot.unset).toArray = ls at hl ⊢
    rw [z_ar0_eq] at hl
    have K := body p e _ s m _ below meth c M fin hX (fun pc => covers_of_empty (B.noHandlers hcode) pc) hF s.heap [] ls hok va_S.rf (zgr_rf M) hl
    rw [Nat.sub_self, Nat.sub_self] at K
    have hh0 : s₁.heap = s.heap := by rw [B.state]; rfl
    obtain ⟨t, a1, a, b1, b2, b3, b4⟩ := K s₁ hh0 (Stand.of_body B)
    exact ⟨t, .threw a, a1, b1, b2, a, rfl, b3, b4⟩
