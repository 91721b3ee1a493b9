/-! A CALL THAT THROWS, AND A HANDLER THAT TAKES IT -/
section ZC
variable {p : Program} {l : Launch} {e : Env} {R : Room} {s : State} {m : MethodId} {args : Array Value} {below : List Frame} {meth : Method} {c : Code} {T : State} {locs : List Loc} {cells slots : Nat}
/-- the method's one handler takes what is thrown: its class may be looked up here for the first time -/
theorem z_catch (X : Stand p l e R s m args below meth c T locs cells slots) (a : Addr) {g : JFrame} (hg : g.method = m) {own C : String} (hown : s.vm.findClass own = some m.cls) {x : ExceptionTableEntry} (htab : c.exceptionTable.toList = [x]) (hx : covers x g.pc = true) (h0 : x.catchType ≠ 0) (hlink : (Cond.classLink own x.catchType C).before args s = true) {cell : Cell} (hcell : T.heap[a]? = some cell) (hobj : cell.vm = .none) (hcls : s.vm.findClass C = some cell.cls) :
    ∃ vm', s.WarmedH vm' ∧ Stand p l e R s m args below meth c (T.setVm vm') locs cells slots ∧ ∀ target, Steps p.tables e below ((T.setVm vm').setTop { g with pc := x.handlerPc, stack := [.ref a] }) target → Steps p.tables e below ((T.setTop g).pushFrame (.throwing a)) target := by
  subst hg
  have hpl : e.platform.magicAccessors = ({} : Platform).magicAccessors := by rw [X.admits.platform]
  obtain ⟨cC, hfc, hcl⟩ := Cond.classLink_spec hown hlink e.platform hpl
  cases Option.some.inj (hcls.symm.trans hfc)
  obtain ⟨hg₁, hwarm₁, -⟩ := State.classEntry (e := e) X.warmed hcl
  have hsz : (T.vm.noted g.method.cls x.catchType (.cls cell.cls)).classes.size ≤ T.vm.classes.size := by rw [Vm.size_noted]; exact Nat.le_refl _
  generalize T.vm.noted g.method.cls x.catchType (.cls cell.cls) = vm₁ at hg₁ hwarm₁ hsz
  have hvT : ((T.setTop g).pushFrame (.throwing a)).vm = T.vm := Stand.throwing_vm T g a
  have hhT : ((T.setTop g).pushFrame (.throwing a)).heap = T.heap := Stand.throwing_heap T g a
  obtain ⟨k1, hk1⟩ := Vm.classAt_of_findClass hcls
  obtain ⟨k1', hk1', -⟩ := hwarm₁.alike.2.2 _ _ hk1
  have hfit : vm₁.assignable cell.cls cell.cls = true := va_asg _ _
  refine ⟨vm₁, hwarm₁, X.noted hwarm₁, fun target hrest => ?_⟩
  have h : At T g.method c below := X.here
  obtain ⟨hgo, hw⟩ := h.throwing a
  refine Steps.head hgo hw ?_
  rw [stepThread_throwing (frames_entered h.top _)]
  have hfind : ∀ (Q : Handler → Pre) (E : CtlPost) (d : Bool) (acts : List Action), wp (findHandler g a) Q E e d acts ((T.setTop g).pushFrame (.throwing a)) ↔ Q (.found x.handlerPc) d acts (((T.setTop g).pushFrame (.throwing a)).setVm vm₁) := by
    intro Q E d acts
    rw [W.findHandler_eq (meth := meth) (code := c) (by rw [hvT]; exact X.method') X.code, htab]
    simp only [covers] at hx
    rw [← hvT] at hg₁
    obtain ⟨ha, ht⟩ := hg₁.op (op := VmOp.resolveClass g.method.cls x.catchType) rfl
    rw [← hhT] at hcell
    have hla := VmOp.lands_eq (e := e) ht (by rw [hvT]; exact hsz)
    simp [findHandler.go, hx, h0, ha, hla, hcell, hobj, hk1', hfit, VmOp.dirties, VmOp.acts]
  obtain ⟨g₀, hg0⟩ := Option.isSome_iff_exists.mp h.top
  obtain ⟨r, hr⟩ := State.topJava?_eq_some.mp hg0
  have hr' : (T.setVm vm₁).frames = .java g₀ :: r := hr
  have hst : (stepThrowing e ((T.setTop g).pushFrame (.throwing a)) a (.java g :: r)).1 = (((T.setTop g).pushFrame (.throwing a)).setVm vm₁).setFrames (.java { g with pc := x.handlerPc, stack := [.ref a] } :: r) := by
    simp only [stepThrowing, searchFrame, vmDo]
    generalize hres : Sem.go _ e false [] ((T.setTop g).pushFrame (.throwing a)) = res
    obtain ⟨as, rfl, ha⟩ := Sem.eq_ok_of hres (a := Handler.found x.handlerPc) (s' := ((T.setTop g).pushFrame (.throwing a)).setVm vm₁) (acts' := []) (by simp [hfind _ _ _ _])
    rfl
  rw [hr, List.tail_cons, hst]
  have e2 : (((T.setTop g).pushFrame (.throwing a)).setVm vm₁).setFrames (.java { g with pc := x.handlerPc, stack := [.ref a] } :: r) = (T.setVm vm₁).setTop { g with pc := x.handlerPc, stack := [.ref a] } := by
    rw [State.setTop_of_frames _ hr', State.pushFrame, State.setTop_of_frames _ hr]
    show ((((T.setFrames _).setFrames _).setFrames _).setVm vm₁) = (T.setFrames _).setVm vm₁
    simp only [State.setFrames_setFrames]
  rw [e2]
  exact hrest
end ZC
section ZC2
variable {ρ : Type} {p : Program} {l : Launch} {e : Env} {R : Room} {s : State} {m : MethodId} {args : Array Value} {below : List Frame} {meth : Method} {c : Code} {Q : State → Prop} {E : zE} {cc : ByteArray} {nL : Nat} {own : String} {Ts : List Cond} {fr lo : Nat} {M0 : zM} {fin : ρ × zM} {M : zM} {pc : Nat} {lv : List (Nat × zV)} {st : List zV}
/-- a method of an object that throws, under the one handler -/
theorem s_callT (X : z_X p R s m args meth c E cc nL own Ts fr lo M0 fin.2) {y : MethodName} {ws ws' : List Cond} {bytes : ByteArray} {maxL n index ci fr' lo' : Nat} {C : String} {q : vw_C} {rt : Option FieldType} {As stk : List zV} {r : Option Nat} {fc : Nat → zMn Unit} {g : Unit → zMn ρ} {x : ExceptionTableEntry} (hM : ∀ a : Nat, z_MetT l E y ws fr' lo' (za (some a) :: As) (fc a)) (hT : GoodIn Ts (wsV own index C y ws)) (hw : ws = Cond.code y bytes maxL rt :: ws') (hy : y.cls = C ∧ y.cls ≠ "java/lang/invoke/MethodHandle" ∧ y.cls ≠ "java/lang/invoke/VarHandle" ∧ (parseMethodDescriptor y.desc).map (fun d => d.parameters.length) = some n) (hn : As.length = n) (hc : vwCl[ci]? = some q) (hq1 : q.1 = C) (hstk : stk = As.reverse ++ za r :: st) (hwt : (st.map z_wt).sum ≤ 8) (hR : fr' + 1 ≤ fr ∧ 8 + (maxL + 11) + lo' ≤ lo) (hd : decode cc pc = .ok (.invokevirtual index, 3))
    (htab : c.exceptionTable.toList = [x]) (hx : covers x pc = true) (h0 : x.catchType ≠ 0) (hcl : (Cond.classLink own x.catchType z_exc).before args s = true)
    (kk : ∀ M : zM, z_S p l e R s m args below meth c Q E nL M0 fin M x.handlerPc lv [za (some (M.length - 1))] (g ())) : z_S p l e R s m args below meth c Q E nL M0 fin M pc lv stk (z_bd (z_rc r ci) fun a => z_bd (fc a) g) := by
  intro hF H locs ls h1 h2 h3 h5 T hTH X0
  obtain ⟨q9, hq9, hG⟩ := z_bd_inv hF
  clear hF
  obtain ⟨b, fs, rfl, hMb, rfl⟩ := z_rc_inv hq9
  obtain ⟨⟨x9, M1⟩, hq, hK9⟩ := z_bd_inv hG
  clear hG
  have g1 := (fc b).2 M _ hq
  have g2 := (g x9).2 M1 _ hK9
  obtain ⟨hroom, ec, es⟩ := z_room h3 g1 g2 X.2.2.2.2.1 X.2.2.2.2.2.1
  subst hstk
  obtain ⟨-, hob⟩ := z_ob_at h1 hMb hc
  obtain ⟨cellB, w1, w2, w3, -⟩ := hob
  have hcB : s.vm.findClass C = some cellB.cls := by rw [w2, ← hq1]; exact (X.2.1.2.1 ci q hc).2.1
  have cw : CallW R s args own C index y bytes maxL rt ws (z_rm fr' lo' M M1) (M1.length - M.length) (zsz M1 - zsz M) n := cwV n X.1.2.2.2.2 hT hw rfl rfl hy (by rw [X.2.2.1, X.2.2.2.1]; exact hR)
  obtain ⟨⟨-, -, hfr, hlo, hws, hcw, hcode, hini, hyy, hlen, hl⟩, hin, hse⟩ := cw
  obtain ⟨mk, methM, hnamed, hmethM, hstM, habM⟩ := Cond.instanceMethod_spec hin
  obtain ⟨methM', cM, hmethM', hcM, -, hlM, -, -, -, hsigM⟩ := Cond.code_spec hnamed hcode
  cases Option.some.inj (hmethM.symm.trans hmethM')
  obtain ⟨c2, r2, m2, q1, q2, q3, q4, kP, hkP, hkPi⟩ := Cond.selects_spec hse
  cases hcB.symm.trans q1
  cases (State.methodFound?_of_named hnamed hyy).symm.trans q2
  cases hnamed.symm.trans q3
  have hselP : selectMethod e.platform s.vm cellB.cls mk = .method mk := by rw [Launch.admits_selectMethod X0.admits]; exact q4
  have hd' : decode c.code pc = .ok (.invokevirtual index, 3) := by rw [X.1.2.1]; exact hd
  obtain ⟨vm₁, X₁, hstep₁⟩ := X0.invokevirtual X.1.1 X.1.2.2.2.1 hl hnamed hmethM hstM hkP hkPi hyy (a := z_al E b) (cell := cellB) (by rw [hTH]; exact w1) (fun z h => by rw [w3] at h; cases h) hselP hmethM habM hkP hkPi (g := F0 m pc ls ((As.reverse ++ za (some b) :: st).map (z_cv E))) rfl (argsL := As.map (z_cv E)) (rest := st.map (z_cv E)) (by rw [List.length_map]; exact hn.trans (hlen _ hsigM)) (by simp [z_cv, va_rf]) hd'
  have hnm := X₁.named hnamed
  obtain ⟨kY, hkY, -⟩ := className_of_methodNamed hnm
  have hinitY : kY.init = .initialized := Cond.initialized_spec (args := args) (findClass_of_methodNamed hnm) hkY (word_at X₁.warmed (Or.inl (by first | rfl | simp [Cond.onTables, Cond.keeps, Cond.steady])) hini)
  have hmY : (T.setVm vm₁).vm.method? mk = some methM := by rw [X₁.warmed.alike.method?]; exact hmethM
  have hsize : (F0 m pc ls (st.map (z_cv E))).locals.size = c.maxLocals := by rw [X.1.2.2.1]; exact h5.1
  have hwt' : ((st.map (z_cv E)).map fun v => v.category).sum ≤ 8 := by rw [z_wt_eq]; exact hwt
  have hpre := z_preS (U0 := s) (As := za (some b) :: As) X h1 h2
  have happ : (headSpec ws (z_rm fr' lo' M M1)).appliesLoose y e.platform ((T.setVm vm₁).calling (F0 m pc ls (st.map (z_cv E))) mk (Value.ref (z_al E b) :: As.map (z_cv E)).toArray) = true :=
    Spec.appliesLoose_calling (g := F0 m pc ls (st.map (z_cv E))) X₁.here hd' hnm hkY hinitY (X₁.room_calling (g := F0 m pc ls (st.map (z_cv E))) (R' := z_rm fr' lo' M M1) hsize hmY hcM hfr (by rw [hlM]; show 2 * 0 + ((st.map (z_cv E)).map fun v => v.category).sum + (maxL + 11) + lo' ≤ R.locals; have h9 : 8 + (maxL + 11) + lo' ≤ R.locals := hlo; omega) hroom.1 hroom.2) (atoms_intro fun w hw => hws w hw _ _ X₁.warmed)
  have hfr0 : ((T.setVm vm₁).setTop (F0 m pc ls (st.map (z_cv E)))).frames = [.java (F0 m pc ls (st.map (z_cv E)))] ++ below := by rw [State.frames_setTop' _ X₁.here.top, X₁.tail]; rfl
  obtain ⟨o, s₂, hsteps, -, hend, a9, rfl, hqc, L, hWf, hsame, hL⟩ := Free.Steps.callFree (hM b M _ hq) p X₁.admits X₁.cas X₁.clock (acts := []) hfr0 happ (z_Pc_blind _ _ _ _ (hpre.2 (T.setVm vm₁) hTH X₁.warmed)) trivial
  rw [hfr0] at hend
  obtain ⟨T', X', -, -, ht⟩ := X₁.outOfThrown (g := F0 m pc ls (st.map (z_cv E))) rfl (mk := mk) (a := (Value.ref (z_al E b) :: As.map (z_cv E)).toArray) hend hWf hsame
  obtain ⟨ha9, hok, hvF, ce, hce, hcv, hccls⟩ := hqc
  have hheap : T'.heap = s₂.heap := by rw [ht]; exact (Stand.throwing_heap T' _ a9).symm
  have hccls' : s.vm.findClass z_exc = some ce.cls := by
    have := X₁.warmed.alike.findClass z_exc none
    rw [← this]
    exact hccls
  obtain ⟨vm', hW', X'', hcat⟩ := z_catch X' a9 (g := F0 m pc ls (st.map (z_cv E))) rfl X.1.2.2.2.1 htab hx h0 hcl (by rw [hheap]; exact hce) hcv hccls'
  have K := kk M1 hK9 s₂.heap (locs ++ L) ls hok ⟨Nat.le_trans h2.1 (by have h := hvF.1; rw [← hTH]; exact h), fun q g1 g2 => ((hvF.2 q (by have := Nat.lt_of_lt_of_le g1 h2.1; rw [← hTH] at this; exact this) g2).trans (by show T.heap[q]? = H[q]?; rw [hTH])).trans (h2.2.1 q g1 g2), fun q hq => by
      rcases List.mem_append.mp hq with h | h
      · exact h2.2.2 q h
      · exact hL q h⟩ (zgr_tr h3 g1) h5
  rw [← ec, ← es] at K
  obtain ⟨t, b1, b2⟩ := K (T'.setVm vm') hheap X''
  refine ⟨t, ?_, b2⟩
  refine hstep₁ _ fun acts => ?_
  rw [doInvoke_state]
  refine hsteps.trans ?_
  rw [ht]
  refine hcat _ ?_
  rw [ha9]
  exact b1
/-- one program, or where it has no answer another -/
def z_or {α : Type} (x y : zMn α) : zMn α := ⟨fun M => match x.1 M with
  | some r => some r
  | none => y.1 M, fun M r h => by
  dsimp only at h
  cases hx : x.1 M with
  | some q => rw [hx] at h; cases h; exact x.2 M _ hx
  | none => rw [hx] at h; exact y.2 M _ h⟩
theorem z_or_inv {α : Type} {x y : zMn α} {M : zM} {r : α × zM} (h : (z_or x y).1 M = some r) : x.1 M = some r ∨ y.1 M = some r := by
  have h' : (match x.1 M with
    | some r => some r
    | none => y.1 M) = some r := h
  cases hx : x.1 M with
  | some q => rw [hx] at h'; exact Or.inl h'
  | none => rw [hx] at h'; exact Or.inr h'
theorem s_or {f f' : zMn ρ} (h : z_S p l e R s m args below meth c Q E nL M0 fin M pc lv st f) (h' : z_S p l e R s m args below meth c Q E nL M0 fin M pc lv st f') : z_S p l e R s m args below meth c Q E nL M0 fin M pc lv st (z_or f f') := fun hF => by
  rcases z_or_inv hF with g | g
  · exact h g
  · exact h' g
end ZC2
