/-! A METHOD WITH A HANDLER: its contract, a call of it; the law's own method other -/
theorem z_ofW {α : Type} {l : Launch} {E : zE} {y : MethodName} {ws ws' : List Cond} {cc : ByteArray} {maxL fr lo : Nat} {rt : Option FieldType} {hs : List (Nat × Nat × Nat × Nat)} {as : List zV} {rz : α → Option zV} {fc : zMn α} {own : String} (ho : y.cls = own) (hy : plainName y.cls = true) (hw : ws = Cond.codeWith y cc maxL rt hs :: ws') (hsl : z_sl as ≤ maxL)
    (body : ∀ (p : Program) (e : Env) (R : Room) (s : State) (m : MethodId) (args : Array Value) (below : List Frame) (meth : Method) (c : Code) (M : zM) (fin : α × zM), z_X p R s m args meth c E cc maxL own ws fr lo M fin.2 → meth.sig.returnType = rt → c.exceptionTable.toList.map (fun h => (h.startPc, h.endPc, h.handlerPc, h.catchType)) = hs → z_S p l e R s m args below meth c (z_Qm E below args s M rz fin) E maxL M fin M 0 (z_ar0 0 as) [] fc) : z_Met l E y ws fr lo as rz fc := by
  intro M fin hF
  subst ho
  refine MetFree.of_bodyS (code := cc) (maxLocals := maxL) (ret := rt) hy ?_ ?_
  · intro args s m h hn
    obtain ⟨m', meth, c, h0, h1, h2, h3, h4, -, h5, h6, -⟩ := Cond.codeWith_spec (atoms_spec (ws := ws) h _ (by rw [hw]; exact List.mem_cons_self))
    cases hn.symm.trans h0
    exact ⟨meth, c, h1, h2, h3, h4, h5, h6⟩
  · intro p e s m args below meth c s₁ B hml hv _
    obtain ⟨rfl, hok, hK⟩ := hv
    have hX : z_X p (headSpec ws (z_rm fr lo M fin.2)).room s m (as.map (z_cv E)).toArray meth c E cc maxL y.cls ws fr lo M fin.2 :=
      ⟨⟨B.exec, B.bytes, hml, findClass_of_methodNamed B.named, atoms_spec (ws := ws) B.pre⟩, hK, rfl, rfl, Nat.le_refl _, Nat.le_refl _, B.notSynchronized⟩
    have hl := lv_entry (as.map (z_cv E)) (n := maxL) (by rw [z_sl_eq]; exact hsl)
    have X0 := Stand.of_body B
    obtain ⟨m', meth', c', h0, h1, h2, -, -, htab, -⟩ := Cond.codeWith_spec (atoms_spec (ws := ws) B.pre _ (by rw [hw]; exact List.mem_cons_self))
    cases B.named.symm.trans h0
    cases Option.some.inj (X0.method.symm.trans h1)
    cases Option.some.inj (X0.code.symm.trans h2)
    rw [lg_entry_eq]
    generalize (lg_sl (as.map (z_cv E)) ++ List.replicate (maxL - (lg_sl (as.map (z_cv E))).length) Slot.unset).toArray = ls at hl ⊢
    rw [z_ar0_eq] at hl
    have K := body p e _ s m _ below meth c M fin hX B.returns htab hF s.heap [] ls hok va_S.rf (zgr_rf M) hl
    rw [Nat.sub_self, Nat.sub_self] at K
    have hh0 : s₁.heap = s.heap := by rw [B.state]; rfl
    obtain ⟨t, a1, o, b1, b2, b3⟩ := K s₁ hh0 X0
    exact ⟨t, o, a1, b1, b2, b3⟩
section ZW
variable {l : Launch} {R : Room} {p : Program} {e : Env} {below : List Frame} {s : State} {sargs : Array Value} {y : MethodName} {len W : Nat}
theorem z_backW {ws : List Cond} {rm : Room} {Pc : Array Value → State → Prop} {Qc : Array Value → State → Outcome → State → Prop} {mc ms : Nat} {free : Addr → Prop} {bytes : ByteArray} {maxL : Nat} {ret : Option FieldType} {hs : List (Nat × Nat × Nat × Nat)}
    (hM : Met l y ws rm Pc Qc mc ms free) (hblind : FrameBlind Pc) (hrc : rm.cells = mc) (hrs : rm.slots = ms)
    (hframes : rm.frames + 1 ≤ R.frames) (hlocals : W + (maxL + 11) + rm.locals ≤ R.locals)
    (hws : ∀ w ∈ ws, ∀ a' U, s.WarmedH U.vm → w.before a' U = true) (hcode : Cond.codeWith y bytes maxL ret hs ∈ ws) (hinit : ∀ a' U, s.WarmedH U.vm → (Cond.initialized y.cls).before a' U = true) :
    Back l R p e below s sargs y len W (PreOf R mc ms Pc) (PostOf Qc mc ms free) := by
  refine Back.of_freeWith (handlers := hs) (S := headSpec ws rm) (P := Pc) (K := fun _ _ _ _ _ => True) (Q := fun a st o t => Qc a st o t ∧ ∃ L, FrameEnd st o t L mc ms ∧ ∀ q ∈ L, free q.base) (bytes := bytes) (maxL := maxL) (ret := ret)
    (E := fun _ _ _ _ L k n => k = mc ∧ n = ms ∧ ∀ q ∈ L, free q.base) hM hframes hlocals ?_ ?_ (fun _ _ _ _ _ _ _ _ _ => trivial) ?_ ?_
  · intro m meth c A a X hp
    exact ⟨atoms_intro fun w hw => hws w hw _ _ X.warmed, hws _ hcode _ _ X.warmed, hinit _ _ X.warmed, by rw [show (headSpec ws rm).room.cells = mc from hrc]; exact hp.1, by rw [show (headSpec ws rm).room.slots = ms from hrs]; exact hp.2.1⟩
  · intro m meth c A a g mk X hp
    exact hblind _ _ _ _ hp.2.2
  · intro a st o t ⟨hq, L, hF, hL⟩
    exact ⟨L, mc, ms, hF, rfl, rfl, hL⟩
  · intro m meth c A a g mk v t L k n X hp hq hF ⟨e1, e2, hL⟩
    subst e1; subst e2
    exact ⟨g, mk, t, L, rfl, rfl, hq.1, rfl, hL, rfl, rfl⟩
end ZW
section ZW2
variable {ρ : Type} {p : Program} {l : Launch} {e : Env} {R : Room} {s : State} {m : MethodId} {args : Array Value} {below : List Frame} {meth : Method} {c : Code} {Q : State → Prop} {E : zE} {cc : ByteArray} {nL : Nat} {own : String} {Ts : List Cond} {fr lo : Nat} {M0 : zM} {fin : ρ × zM} {M : zM} {pc : Nat} {lv : List (Nat × zV)} {st : List zV}
/-- a static method that has a handler -/
theorem s_callSW (X : z_X p R s m args meth c E cc nL own Ts fr lo M0 fin.2) {α : Type} {y : MethodName} {ws ws' : List Cond} {bytes : ByteArray} {maxL n index fr' lo' : Nat} {rt : Option FieldType} {hs : List (Nat × Nat × Nat × Nat)} {As stk : List zV} {rz : α → Option zV} {fc : zMn α} {g : α → zMn ρ} (hM : z_Met l E y ws fr' lo' As rz fc) (hT : GoodIn Ts ws) (hw : ws = Cond.codeWith y bytes maxL rt hs :: ws') (hlk : Cond.methodLink own index y ∈ Ts) (hst : Cond.static y ∈ Ts) (hini : Cond.initialized y.cls ∈ Ts) (hy : y.cls ≠ "java/lang/invoke/MethodHandle" ∧ y.cls ≠ "java/lang/invoke/VarHandle" ∧ (parseMethodDescriptor y.desc).map (fun d => d.parameters.length) = some n) (hn : As.length = n) (hstk : stk = As.reverse ++ st) (hwt : (st.map z_wt).sum ≤ 8) (hR : fr' + 1 ≤ fr ∧ 8 + (maxL + 11) + lo' ≤ lo) (hd : decode cc pc = .ok (.invokestatic index, 3))
    (kk : ∀ (x : α) (M : zM), z_S p l e R s m args below meth c Q E nL M0 fin M (pc + 3) lv ((rz x).toList ++ st) (g x)) : z_S p l e R s m args below meth c Q E nL M0 fin M pc lv stk (z_bd fc g) := by
  intro hF H locs ls h1 h2 h3 h5
  obtain ⟨⟨x, M1⟩, hq, hG⟩ := z_bd_inv hF
  clear hF
  have g1 := fc.2 M _ hq
  have g2 := (g x).2 M1 _ hG
  obtain ⟨hroom, ec, es⟩ := z_room h3 g1 g2 X.2.2.2.2.1 X.2.2.2.2.2.1
  subst hstk
  have hts := X.1.2.2.2.2
  have hpre := z_preS (U0 := s) (As := As) X h1 h2
  have hd' : decode c.code pc = .ok (.invokestatic index, 3) := by rw [X.1.2.1]; exact hd
  have hrun : va_Run p l e R s m args below meth c H locs (M.length - M0.length) (zsz M - zsz M0) (M1.length - M.length) (zsz M1 - zsz M) (F0 m pc ls ((As.reverse ++ st).map (z_cv E))) (st.map (z_cv E)) (z_Qc E (rz x) M1 (As.map (z_cv E)).toArray) (fun q => E.2.1 ≤ q) := by
    have hK : Back l R p e below s args y 3 8 (PreOf R (M1.length - M.length) (zsz M1 - zsz M) (z_Pc E As M)) (PostOf (z_Qc E (rz x) M1) (M1.length - M.length) (zsz M1 - zsz M) (fun q => E.2.1 ≤ q)) :=
      z_backW (bytes := bytes) (maxL := maxL) (ret := rt) (hs := hs) (hM M _ hq) z_Pc_blind rfl rfl (by rw [X.2.2.1]; exact hR.1) (by rw [X.2.2.2.1]; exact hR.2) (fun w hw' a' U hW => word_at hW (hT w hw').2 (hts w (hT w hw').1)) (by rw [hw]; exact List.mem_cons_self) (fun a' U hW => word_at hW (Or.inl (by first | rfl | simp [Cond.onTables, Cond.keeps, Cond.steady])) (hts _ hini))
    intro T hTH X0
    have hcode : (Cond.codeWith y bytes maxL rt hs).before args s = true := hts _ (hT _ (by rw [hw]; exact List.mem_cons_self)).1
    obtain ⟨mk, methM, cM, hnamed, hmethM, hcM, -, hlM, -, -, -, hsigM⟩ := Cond.codeWith_spec hcode
    have hstatic : methM.isStatic = true := Cond.static_spec hnamed hmethM (hts _ hst)
    obtain ⟨kP, hkP, -⟩ := className_of_methodNamed hnamed
    have hinitP : kP.init = .initialized := Cond.initialized_spec (findClass_of_methodNamed hnamed) hkP (hts _ hini)
    have hlen : As.length = methM.sig.parameters.length := by
      have h9 := hy.2.2
      rw [hsigM] at h9
      exact hn.trans (Option.some.inj h9).symm
    obtain ⟨vm₁, X₁, hstep₁⟩ := X0.invokestatic X.1.1 X.1.2.2.2.1 (hts _ hlk) hnamed hmethM hstatic hkP hinitP ⟨hy.1, hy.2.1⟩ (g := F0 m pc ls ((As.reverse ++ st).map (z_cv E))) rfl (argsL := As.map (z_cv E)) (rest := st.map (z_cv E)) (by rw [List.length_map]; exact hlen) (by simp) hd'
    obtain ⟨v, ⟨U', l2, c2, s2⟩, X', ⟨g', mk', t, L, e1, e2, hqq, f1, hL, f2, f3⟩, hsteps⟩ := hK m meth c ⟨T.setVm vm₁, locs, M.length - M0.length, zsz M - zsz M0⟩ (F0 m pc ls (st.map (z_cv E))) (.invokestatic index) mk (As.map (z_cv E)).toArray X₁ rfl (by rw [X.1.2.2.1]; exact h5.1) hd' (lv_room (by rw [z_wt_eq]; exact hwt)) (X₁.named hnamed) ⟨hroom.1, hroom.2, hpre.2 (T.setVm vm₁) hTH X₁.warmed⟩
    dsimp only [Pt.U, Pt.locs, Pt.cells, Pt.slots] at X' e1 e2 f1 f2 f3 hsteps
    subst f1; subst f2; subst f3
    exact ⟨v, _, t, U', L, hTH, X', hL, e1, e2, hqq, fun target h => hstep₁ _ fun acts => by rw [doInvoke_state]; exact hsteps.trans h⟩
  refine z_callW (α := α) hrun h2 (fun H1 locs1 hok hS => ?_)
  rw [ec, es]
  have K := kk x M1 hG H1 locs1 ls hok hS (zgr_tr h3 g1) h5
  have e9 : ((rz x).toList ++ st).map (z_cv E) = ((rz x).map (z_cv E)).toList ++ st.map (z_cv E) := by cases rz x <;> simp
  rw [e9] at K
  exact K
end ZW2
/-- the words of the law's method other, and the class that its handler names -/
def wsLo : List Cond := wsL_other ++ [Cond.classLink RL 13 RJx00060]
theorem gLo {a : List Cond} (h : GoodIn wsL_other a) : GoodIn wsLo a := fun w hw => ⟨List.mem_append_left _ (h w hw).1, (h w hw).2⟩
def F_L_otherA (q0 : Option Nat) (p1 p2 p3 : Int32) (q4 : Option Nat) : zMn Int32 :=
  z_bd (z_rc q0 10) fun b => z_bd (F_X10_other b p1 p2 p3) fun x => z_bd (z_slo q4 0 x.toInt64) fun _ => z_ret 0
def F_L_otherB (q0 : Option Nat) (p1 p2 p3 : Int32) : zMn Int32 :=
  z_bd (z_rc q0 10) fun b => z_bd (F_X10_otherT b p1 p2 p3) fun _ => z_ret 1
def F_L_other (q0 : Option Nat) (p1 p2 p3 : Int32) (q4 : Option Nat) : zMn Int32 := z_or (F_L_otherA q0 p1 p2 p3 q4) (F_L_otherB q0 p1 p2 p3)
theorem hy_L_other : yL_other.cls ≠ "java/lang/invoke/MethodHandle" ∧ yL_other.cls ≠ "java/lang/invoke/VarHandle" ∧ (parseMethodDescriptor yL_other.desc).map (fun d => d.parameters.length) = some 5 := by decide +kernel
set_option maxHeartbeats 4000000 in
set_option maxRecDepth 100000 in
theorem c_L_other (l : Launch) (htr : l.stackTraces = false) (E : zE) (q0 : Option Nat) (p1 p2 p3 : Int32) (q4 : Option Nat) : z_Met l E yL_other wsLo 8 130 [za q0, zi p1, zi p2, zi p3, za q4] z_ri (F_L_other q0 p1 p2 p3 q4) := by
  refine z_ofW (own := RL) (cc := cL_other) (maxL := 6) (rt := (some .int)) (hs := [(0, 12, 15, 13)]) rfl (by decide) rfl (Nat.le_of_ble_eq_true rfl) ?_
  intro p e R s0 m args below meth c M0 fin X hr htab
  obtain ⟨x, hx1, hx2⟩ : ∃ x : ExceptionTableEntry, c.exceptionTable.toList = [x] ∧ (x.startPc, x.endPc, x.handlerPc, x.catchType) = (0, 12, 15, 13) := by
    cases hL : c.exceptionTable.toList with
    | nil => rw [hL] at htab; cases htab
    | cons x r =>
      rw [hL] at htab
      cases r with
      | nil => exact ⟨x, rfl, by simpa using htab⟩
      | cons z r => simp at htab
  obtain ⟨xs, xe, xh, xc⟩ := x
  cases hx2
  refine s_or ?_ ?_
  · refine s_aload X dL_other_0 4 rfl ?_
    refine s_iconst X 0 dL_other_2 (by decide) ?_
    refine s_aload_n X dL_other_3 0 rfl ?_
    refine s_iload_n X dL_other_4 1 rfl ?_
    refine s_iload_n X dL_other_5 2 rfl ?_
    refine s_iload_n X dL_other_6 3 rfl ?_
    refine s_callV (ci := 10) (C := RX10) (As := [zi p1, zi p2, zi p3]) (st := [zi 0, za q4]) X (fun a => c_X10_other l E a p1 p2 p3) (gLo gL_other_X10_other) rfl hy_X10_other rfl rfl rfl rfl (Nat.le_of_ble_eq_true rfl) (by decide) dL_other_7 (fun x9 M => ?_)
    refine s_i2l X dL_other_10 ?_
    refine s_sl X dL_other_11 (fun M => ?_)
    refine s_goto X 19 dL_other_12 (by decide) ?_
    refine s_iconst X 0 dL_other_19 (by decide) ?_
    exact s_ret X hr dL_other_20
  · refine s_aload X dL_other_0 4 rfl ?_
    refine s_iconst X 0 dL_other_2 (by decide) ?_
    refine s_aload_n X dL_other_3 0 rfl ?_
    refine s_iload_n X dL_other_4 1 rfl ?_
    refine s_iload_n X dL_other_5 2 rfl ?_
    refine s_iload_n X dL_other_6 3 rfl ?_
    refine s_callT (ci := 10) (C := RX10) (As := [zi p1, zi p2, zi p3]) (st := [zi 0, za q4]) X (fun a => c_X10_otherT l htr E a p1 p2 p3) (gLo gL_other_X10_other) rfl hy_X10_other rfl rfl rfl rfl (Nat.le_of_ble_eq_true rfl) (by decide) dL_other_7 hx1 rfl (by decide) (X.1.2.2.2.2 _ (List.mem_append_right _ List.mem_cons_self)) (fun M => ?_)
    refine s_astore X dL_other_15 (by decide) _ rfl ?_
    refine s_iconst X 1 dL_other_17 (by decide) ?_
    exact s_ret X hr dL_other_18
