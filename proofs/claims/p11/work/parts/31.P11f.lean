theorem hy_X11_has : yX11_has.cls = RX11 ∧ yX11_has.cls ≠ "java/lang/invoke/MethodHandle" ∧ yX11_has.cls ≠ "java/lang/invoke/VarHandle" ∧ (parseMethodDescriptor yX11_has.desc).map (fun d => d.parameters.length) = some 2 := by decide +kernel
set_option maxHeartbeats 4000000 in
set_option maxRecDepth 100000 in
theorem c_X11_has (l : Launch) (E : zE) (a0 : Nat) (p0 : Int32) (p1 : Int32) : z_Met l E yX11_has wsX11_has 7 170 [za ((some a0)), zi p0, zi p1] z_ri (F_X11_has a0 p0 p1) := by
  refine z_of (own := RX11) (cc := cX11_has) (maxL := 3) (rt := (some .int)) rfl (by decide) rfl (Nat.le_of_ble_eq_true rfl) ?_
  intro p e R s0 m args below meth c M0 fin X hr hnm
  have hiX11 : ∀ w ∈ u_ws RX11 TX11 32, w ∈ wsX11_has := by decide +kernel
  have hl1 : Cond.fieldLink RX11 1 (TX11 22).1 (TX11 22).2.1 (TX11 22).2.2.1 ∈ wsX11_has := by decide +kernel
  have hl187 : Cond.fieldLink RX11 187 (TX11 13).1 (TX11 13).2.1 (TX11 13).2.2.1 ∈ wsX11_has := by decide +kernel
  have hl41 : Cond.fieldLink RX11 41 (TX11 11).1 (TX11 11).2.1 (TX11 11).2.2.1 ∈ wsX11_has := by decide +kernel
  have J47 : ∀ (s_0 : Int32) (M : zM), z_S p l e R s0 m args below meth c (z_Qm E below args s0 M0 z_ri fin) E 3 M0 fin M 47 [] [zi s_0] (F_X11_has_47 a0 s_0) := by
    intro s_0 M
    exact s_ret X hr dX11_has_47
  have J19 : ∀ (M : zM), z_S p l e R s0 m args below meth c (z_Qm E below args s0 M0 z_ri fin) E 3 M0 fin M 19 [] [] (F_X11_has_19 a0) := by
    intro M
    refine s_iconst X (-1) dX11_has_19 (by decide) ?_
    exact s_ret X hr dX11_has_20
  refine s_aload_n X dX11_has_0 0 rfl ?_
  refine s_iconst X 0 dX11_has_1 (by decide) ?_
  refine s_pf (x := zi (0)) X (C := RX11) (T := TX11) (N := 32) rfl (by decide) hiX11 tyX11 tyX11_ok nmX11 hl1 (Or.inl rfl) rfl (fun E => ⟨rfl, rfl⟩) dX11_has_2 (fun M => ?_)
  refine s_iload_n X dX11_has_5 1 rfl ?_
  refine s_callS (As := [zi p0]) (st := []) X (c_X11_isNode l E p0) gX11_has_X11_isNode rfl hy_X11_isNode rfl rfl (Nat.le_of_ble_eq_true rfl) (by decide) dX11_has_6 (fun x1 M => ?_)
  refine s_if_eq X 19 dX11_has_9 (by decide) (fun h2 => ?_) (fun h2 => ?_)
  · refine s_lv [] [] rfl ?_
    exact J19 _
  · refine s_iload_n X dX11_has_12 2 rfl ?_
    refine s_callS (As := [zi p1]) (st := []) X (c_X11_isShape l E p1) gX11_has_X11_isShape rfl hy_X11_isShape rfl rfl (Nat.le_of_ble_eq_true rfl) (by decide) dX11_has_13 (fun x3 M => ?_)
    refine s_if_ne X 21 dX11_has_16 (by decide) (fun h4 => ?_) (fun h4 => ?_)
    · refine s_aload_n X dX11_has_21 0 rfl ?_
      refine s_callV (ci := 11) (C := RX11) (As := []) (st := []) X (fun a => c_X11_reckon l E a) gX11_has_X11_reckon rfl hy_X11_reckon rfl rfl rfl rfl (Nat.le_of_ble_eq_true rfl) (by decide) dX11_has_22 (fun _ M => ?_)
      refine s_aload_n X dX11_has_25 0 rfl ?_
      refine s_gi X (C := RX11) (T := TX11) (N := 32) rfl (by decide) hiX11 hl187 dX11_has_26 (fun x6 => ?_)
      refine s_if_lt X 37 dX11_has_29 (by decide) (fun h7 => ?_) (fun h7 => ?_)
      · refine s_aload_n X dX11_has_37 0 rfl ?_
        refine s_ga X (C := RX11) (T := TX11) (N := 32) rfl (by decide) hiX11 hl41 dX11_has_38 (fun r8 => ?_)
        refine s_iload_n X dX11_has_41 2 rfl ?_
        refine s_li X dX11_has_42 (fun x9 => ?_)
        refine s_iload_n X dX11_has_43 1 rfl ?_
        refine s_ishr X dX11_has_44 ?_
        refine s_iconst X 1 dX11_has_45 (by decide) ?_
        refine s_iand X dX11_has_46 ?_
        refine s_lv [] [] rfl ?_
        exact J47 ((x9 >>> (p0 &&& 31)) &&& 1) _
      · refine s_bipush X (-3) dX11_has_32 (by decide) ?_
        refine s_goto X 47 dX11_has_34 (by decide) ?_
        refine s_lv [] [] rfl ?_
        exact J47 ((-3)) _
    · refine s_lv [] [] rfl ?_
      exact J19 _
theorem hy_X11_init : yX11_init.cls ≠ "java/lang/invoke/MethodHandle" ∧ yX11_init.cls ≠ "java/lang/invoke/VarHandle" ∧ (parseMethodDescriptor yX11_init.desc).map (fun d => d.parameters.length) = some 0 := by decide +kernel
set_option maxHeartbeats 4000000 in
set_option maxRecDepth 100000 in
theorem c_X11_init (l : Launch) (E : zE) (a0 : Nat) : z_Met l E yX11_init wsX11_init 1 12 [za ((some a0))] z_rv (F_X11_init a0) := by
  refine z_of (own := RX11) (cc := cX11_init) (maxL := 4) (rt := none) rfl (by decide) rfl (Nat.le_of_ble_eq_true rfl) ?_
  intro p e R s0 m args below meth c M0 fin X hr hnm
  have hiX11 : ∀ w ∈ u_ws RX11 TX11 32, w ∈ wsX11_init := by decide +kernel
  have hl13 : Cond.fieldLink RX11 13 (TX11 0).1 (TX11 0).2.1 (TX11 0).2.2.1 ∈ wsX11_init := by decide +kernel
  have hl17 : Cond.fieldLink RX11 17 (TX11 2).1 (TX11 2).2.1 (TX11 2).2.2.1 ∈ wsX11_init := by decide +kernel
  have hl20 : Cond.fieldLink RX11 20 (TX11 3).1 (TX11 3).2.1 (TX11 3).2.2.1 ∈ wsX11_init := by decide +kernel
  have hl23 : Cond.fieldLink RX11 23 (TX11 4).1 (TX11 4).2.1 (TX11 4).2.2.1 ∈ wsX11_init := by decide +kernel
  have hl26 : Cond.fieldLink RX11 26 (TX11 5).1 (TX11 5).2.1 (TX11 5).2.2.1 ∈ wsX11_init := by decide +kernel
  have hl29 : Cond.fieldLink RX11 29 (TX11 7).1 (TX11 7).2.1 (TX11 7).2.2.1 ∈ wsX11_init := by decide +kernel
  have hl32 : Cond.fieldLink RX11 32 (TX11 8).1 (TX11 8).2.1 (TX11 8).2.2.1 ∈ wsX11_init := by decide +kernel
  have hl35 : Cond.fieldLink RX11 35 (TX11 9).1 (TX11 9).2.1 (TX11 9).2.2.1 ∈ wsX11_init := by decide +kernel
  have hl38 : Cond.fieldLink RX11 38 (TX11 10).1 (TX11 10).2.1 (TX11 10).2.2.1 ∈ wsX11_init := by decide +kernel
  have hl41 : Cond.fieldLink RX11 41 (TX11 11).1 (TX11 11).2.1 (TX11 11).2.2.1 ∈ wsX11_init := by decide +kernel
  have hl44 : Cond.fieldLink RX11 44 (TX11 14).1 (TX11 14).2.1 (TX11 14).2.2.1 ∈ wsX11_init := by decide +kernel
  have hl47 : Cond.fieldLink RX11 47 (TX11 15).1 (TX11 15).2.1 (TX11 15).2.2.1 ∈ wsX11_init := by decide +kernel
  have hl51 : Cond.fieldLink RX11 51 (TX11 17).1 (TX11 17).2.1 (TX11 17).2.2.1 ∈ wsX11_init := by decide +kernel
  have hl55 : Cond.fieldLink RX11 55 (TX11 18).1 (TX11 18).2.1 (TX11 18).2.2.1 ∈ wsX11_init := by decide +kernel
  have hl59 : Cond.fieldLink RX11 59 (TX11 19).1 (TX11 19).2.1 (TX11 19).2.2.1 ∈ wsX11_init := by decide +kernel
  have hl62 : Cond.fieldLink RX11 62 (TX11 20).1 (TX11 20).2.1 (TX11 20).2.2.1 ∈ wsX11_init := by decide +kernel
  have hl65 : Cond.fieldLink RX11 65 (TX11 23).1 (TX11 23).2.1 (TX11 23).2.2.1 ∈ wsX11_init := by decide +kernel
  have hl68 : Cond.fieldLink RX11 68 (TX11 24).1 (TX11 24).2.1 (TX11 24).2.2.1 ∈ wsX11_init := by decide +kernel
  have hl71 : Cond.fieldLink RX11 71 (TX11 25).1 (TX11 25).2.1 (TX11 25).2.2.1 ∈ wsX11_init := by decide +kernel
  have hl74 : Cond.fieldLink RX11 74 (TX11 26).1 (TX11 26).2.1 (TX11 26).2.2.1 ∈ wsX11_init := by decide +kernel
  have hl78 : Cond.fieldLink RX11 78 (TX11 27).1 (TX11 27).2.1 (TX11 27).2.2.1 ∈ wsX11_init := by decide +kernel
  have hl81 : Cond.fieldLink RX11 81 (TX11 28).1 (TX11 28).2.1 (TX11 28).2.2.1 ∈ wsX11_init := by decide +kernel
  have hl84 : Cond.fieldLink RX11 84 (TX11 29).1 (TX11 29).2.1 (TX11 29).2.2.1 ∈ wsX11_init := by decide +kernel
  have hl88 : Cond.fieldLink RX11 88 (TX11 30).1 (TX11 30).2.1 (TX11 30).2.2.1 ∈ wsX11_init := by decide +kernel
  have hl91 : Cond.fieldLink RX11 91 (TX11 31).1 (TX11 31).2.1 (TX11 31).2.2.1 ∈ wsX11_init := by decide +kernel
  have hl94 : Cond.fieldLink RX11 94 (TX11 16).1 (TX11 16).2.1 (TX11 16).2.2.1 ∈ wsX11_init := by decide +kernel
  have L233 : ∀ (n : Nat) (s : Int32) (M : zM), z_S p l e R s0 m args below meth c (z_Qm E below args s0 M0 z_rv fin) E 4 M0 fin M 233 [(0, za (some a0)), (1, zi s)] [] (F_X11_init_233 a0 n s) := by
    refine s_fix ?_
    intro ih233_ hih233
    have J318 : ∀ (x_1 : Int32) (M : zM), z_S p l e R s0 m args below meth c (z_Qm E below args s0 M0 z_rv fin) E 4 M0 fin M 318 [(0, za ((some a0))), (1, zi x_1)] [] (F_X11_init_318 a0 (fun y0 => ih233_ (y0)) x_1) := by
      intro x_1 M
      refine s_iinc X 1 dX11_init_318 1 rfl (by decide) (by decide) [(1, zi (x_1 + 1)), (0, za ((some a0)))] rfl ?_
      refine s_goto X 233 dX11_init_321 (by decide) ?_
      refine s_lv [(0, za ((some a0))), (1, zi (x_1 + 1))] [1, 0] rfl ?_
      exact hih233 (x_1 + 1) _
    have L243 : ∀ (n : Nat) (s : Int32 × Int32 × Int32) (M : zM), z_S p l e R s0 m args below meth c (z_Qm E below args s0 M0 z_rv fin) E 4 M0 fin M 243 [(0, za (some a0)), (1, zi s.1), (2, zi s.2.1), (3, zi s.2.2)] [] (F_X11_init_243 a0 (fun y0 => ih233_ (y0)) n s) := by
      refine s_fix ?_
      intro ih243_ hih243
      rintro ⟨x_1, x_2, x_3⟩ M
      refine s_iload_n X dX11_init_243 3 rfl ?_
      refine s_if_le X 262 dX11_init_244 (by decide) (fun h29 => ?_) (fun h29 => ?_)
      · refine s_aload_n X dX11_init_262 0 rfl ?_
        refine s_ga X (C := RX11) (T := TX11) (N := 32) rfl (by decide) hiX11 hl51 dX11_init_263 (fun r30 => ?_)
        refine s_iload_n X dX11_init_266 1 rfl ?_
        refine s_iconst X (-1) dX11_init_267 (by decide) ?_
        refine s_si X dX11_init_268 (fun M => ?_)
        refine s_iload_n X dX11_init_269 2 rfl ?_
        refine s_bipush X 8 dX11_init_270 (by decide) ?_
        refine s_icmp_le X 278 dX11_init_272 (by decide) (fun h31 => ?_) (fun h31 => ?_)
        · refine s_aload_n X dX11_init_278 0 rfl ?_
          refine s_ga X (C := RX11) (T := TX11) (N := 32) rfl (by decide) hiX11 hl51 dX11_init_279 (fun r32 => ?_)
          refine s_iload_n X dX11_init_282 1 rfl ?_
          refine s_aload_n X dX11_init_283 0 rfl ?_
          refine s_gi X (C := RX11) (T := TX11) (N := 32) rfl (by decide) hiX11 hl94 dX11_init_284 (fun x33 => ?_)
          refine s_si X dX11_init_287 (fun M => ?_)
          refine s_aload_n X dX11_init_288 0 rfl ?_
          refine s_ga X (C := RX11) (T := TX11) (N := 32) rfl (by decide) hiX11 hl44 dX11_init_289 (fun r34 => ?_)
          refine s_aload_n X dX11_init_292 0 rfl ?_
          refine s_gi X (C := RX11) (T := TX11) (N := 32) rfl (by decide) hiX11 hl94 dX11_init_293 (fun x35 => ?_)
          refine s_iload_n X dX11_init_296 1 rfl ?_
          refine s_si X dX11_init_297 (fun M => ?_)
          refine s_aload_n X dX11_init_298 0 rfl ?_
          refine s_ga X (C := RX11) (T := TX11) (N := 32) rfl (by decide) hiX11 hl47 dX11_init_299 (fun r36 => ?_)
          refine s_aload_n X dX11_init_302 0 rfl ?_
          refine s_gi X (C := RX11) (T := TX11) (N := 32) rfl (by decide) hiX11 hl94 dX11_init_303 (fun x37 => ?_)
          refine s_iload_n X dX11_init_306 2 rfl ?_
          refine s_si X dX11_init_307 (fun M => ?_)
          refine s_aload_n X dX11_init_308 0 rfl ?_
          refine s_dup X dX11_init_309 rfl ?_
          refine s_gi X (C := RX11) (T := TX11) (N := 32) rfl (by decide) hiX11 hl94 dX11_init_310 (fun x38 => ?_)
          refine s_iconst X 1 dX11_init_313 (by decide) ?_
          refine s_iadd X dX11_init_314 ?_
          refine s_pf (x := zi (x38 + 1)) X (C := RX11) (T := TX11) (N := 32) rfl (by decide) hiX11 tyX11 tyX11_ok nmX11 hl94 (Or.inl rfl) rfl (fun E => ⟨rfl, rfl⟩) dX11_init_315 (fun M => ?_)
          refine s_lv [(0, za ((some a0))), (1, zi x_1)] [0, 1] rfl ?_
          exact J318 x_1 _
        · refine s_goto X 318 dX11_init_275 (by decide) ?_
          refine s_lv [(0, za ((some a0))), (1, zi x_1)] [0, 1] rfl ?_
          exact J318 x_1 _
      · refine s_iload_n X dX11_init_247 2 rfl ?_
        refine s_iload_n X dX11_init_248 3 rfl ?_
        refine s_bipush X 9 dX11_init_249 (by decide) ?_
        refine s_irem X dX11_init_251 (by decide) ?_
        refine s_iadd X dX11_init_252 ?_
        refine s_let (fun x39 => ?_)
        refine s_istore_n X dX11_init_253 (by decide) [(2, zi x39), (0, za ((some a0))), (1, zi x_1), (3, zi x_3)] rfl ?_
        refine s_iload_n X dX11_init_254 3 rfl ?_
        refine s_bipush X 9 dX11_init_255 (by decide) ?_
        refine s_idiv X dX11_init_257 (by decide) ?_
        refine s_let (fun x40 => ?_)
        refine s_istore_n X dX11_init_258 (by decide) [(3, zi x40), (2, zi x39), (0, za ((some a0))), (1, zi x_1)] rfl ?_
        refine s_goto X 243 dX11_init_259 (by decide) ?_
        refine s_lv [(0, za ((some a0))), (1, zi x_1), (2, zi x39), (3, zi x40)] [2, 3, 1, 0] rfl ?_
        exact hih243 (x_1, x39, x40) _
    rintro x_1 M
    refine s_iload_n X dX11_init_233 1 rfl ?_
    refine s_ldc X 59049 dX11_init_234 (by decide +kernel) ?_
    refine s_icmp_ge X 324 dX11_init_236 (by decide) (fun h28 => ?_) (fun h28 => ?_)
    · exact s_retv X hr dX11_init_324
    · refine s_iconst X 0 dX11_init_239 (by decide) ?_
      refine s_istore_n X dX11_init_240 (by decide) [(2, zi (0)), (0, za ((some a0))), (1, zi x_1)] rfl ?_
      refine s_iload_n X dX11_init_241 2 rfl ?_
      refine s_istore_n X dX11_init_242 (by decide) [(3, zi x_1), (2, zi (0)), (0, za ((some a0))), (1, zi x_1)] rfl ?_
      refine s_lv [(0, za ((some a0))), (1, zi x_1), (2, zi (0)), (3, zi x_1)] [2, 3, 1, 0] rfl ?_
      exact L243 z_N (x_1, 0, x_1) _
  have L212 : ∀ (n : Nat) (s : Int32) (M : zM), z_S p l e R s0 m args below meth c (z_Qm E below args s0 M0 z_rv fin) E 4 M0 fin M 212 [(0, za (some a0)), (1, zi s)] [] (F_X11_init_212 a0 n s) := by
    refine s_fix ?_
    intro ih212_ hih212
    rintro x_1 M
    refine s_iload_n X dX11_init_212 1 rfl ?_
    refine s_bipush X 16 dX11_init_213 (by decide) ?_
    refine s_icmp_ge X 231 dX11_init_215 (by decide) (fun h26 => ?_) (fun h26 => ?_)
    · refine s_iconst X 0 dX11_init_231 (by decide) ?_
      refine s_istore_n X dX11_init_232 (by decide) [(1, zi (0)), (0, za ((some a0)))] rfl ?_
      refine s_lv [(0, za ((some a0))), (1, zi (0))] [1, 0] rfl ?_
      exact L233 z_N (0) _
    · refine s_aload_n X dX11_init_218 0 rfl ?_
      refine s_ga X (C := RX11) (T := TX11) (N := 32) rfl (by decide) hiX11 hl29 dX11_init_219 (fun r27 => ?_)
      refine s_iload_n X dX11_init_222 1 rfl ?_
      refine s_iconst X (-1) dX11_init_223 (by decide) ?_
      refine s_si X dX11_init_224 (fun M => ?_)
      refine s_iinc X 1 dX11_init_225 1 rfl (by decide) (by decide) [(1, zi (x_1 + 1)), (0, za ((some a0)))] rfl ?_
      refine s_goto X 212 dX11_init_228 (by decide) ?_
      refine s_lv [(0, za ((some a0))), (1, zi (x_1 + 1))] [1, 0] rfl ?_
      exact hih212 (x_1 + 1) _
  refine s_aload_n X dX11_init_0 0 rfl ?_
  refine s_objInit X (by decide +kernel) (by decide +kernel) (by decide +kernel) dX11_init_1 ⟨by decide, fun E => by rw [z_wt_eq]; exact Nat.le_of_ble_eq_true rfl⟩ ?_
  refine s_aload_n X dX11_init_4 0 rfl ?_
  refine s_sipush X 180 dX11_init_5 (by decide) ?_
  refine s_nwi X (by decide +kernel) dX11_init_8 (fun a1 M => ?_)
  refine s_pf (x := za ((some a1))) X (C := RX11) (T := TX11) (N := 32) rfl (by decide) hiX11 tyX11 tyX11_ok nmX11 hl13 (Or.inr ⟨rfl, hnm, rfl⟩) rfl (z_afit _ _) dX11_init_10 (fun M => ?_)
  refine s_aload_n X dX11_init_13 0 rfl ?_
  refine s_bipush X 60 dX11_init_14 (by decide) ?_
  refine s_nwi X (by decide +kernel) dX11_init_16 (fun a2 M => ?_)
  refine s_pf (x := za ((some a2))) X (C := RX11) (T := TX11) (N := 32) rfl (by decide) hiX11 tyX11 tyX11_ok nmX11 hl17 (Or.inr ⟨rfl, hnm, rfl⟩) rfl (z_afit _ _) dX11_init_18 (fun M => ?_)
  refine s_aload_n X dX11_init_21 0 rfl ?_
  refine s_bipush X 60 dX11_init_22 (by decide) ?_
  refine s_nwi X (by decide +kernel) dX11_init_24 (fun a3 M => ?_)
  refine s_pf (x := za ((some a3))) X (C := RX11) (T := TX11) (N := 32) rfl (by decide) hiX11 tyX11 tyX11_ok nmX11 hl20 (Or.inr ⟨rfl, hnm, rfl⟩) rfl (z_afit _ _) dX11_init_26 (fun M => ?_)
  refine s_aload_n X dX11_init_29 0 rfl ?_
  refine s_bipush X 60 dX11_init_30 (by decide) ?_
  refine s_nwi X (by decide +kernel) dX11_init_32 (fun a4 M => ?_)
  refine s_pf (x := za ((some a4))) X (C := RX11) (T := TX11) (N := 32) rfl (by decide) hiX11 tyX11 tyX11_ok nmX11 hl23 (Or.inr ⟨rfl, hnm, rfl⟩) rfl (z_afit _ _) dX11_init_34 (fun M => ?_)
  refine s_aload_n X dX11_init_37 0 rfl ?_
  refine s_bipush X 60 dX11_init_38 (by decide) ?_
  refine s_nwi X (by decide +kernel) dX11_init_40 (fun a5 M => ?_)
  refine s_pf (x := za ((some a5))) X (C := RX11) (T := TX11) (N := 32) rfl (by decide) hiX11 tyX11 tyX11_ok nmX11 hl26 (Or.inr ⟨rfl, hnm, rfl⟩) rfl (z_afit _ _) dX11_init_42 (fun M => ?_)
  refine s_aload_n X dX11_init_45 0 rfl ?_
  refine s_bipush X 16 dX11_init_46 (by decide) ?_
  refine s_nwi X (by decide +kernel) dX11_init_48 (fun a6 M => ?_)
  refine s_pf (x := za ((some a6))) X (C := RX11) (T := TX11) (N := 32) rfl (by decide) hiX11 tyX11 tyX11_ok nmX11 hl29 (Or.inr ⟨rfl, hnm, rfl⟩) rfl (z_afit _ _) dX11_init_50 (fun M => ?_)
  refine s_aload_n X dX11_init_53 0 rfl ?_
  refine s_bipush X 16 dX11_init_54 (by decide) ?_
  refine s_nwi X (by decide +kernel) dX11_init_56 (fun a7 M => ?_)
  refine s_pf (x := za ((some a7))) X (C := RX11) (T := TX11) (N := 32) rfl (by decide) hiX11 tyX11 tyX11_ok nmX11 hl32 (Or.inr ⟨rfl, hnm, rfl⟩) rfl (z_afit _ _) dX11_init_58 (fun M => ?_)
  refine s_aload_n X dX11_init_61 0 rfl ?_
  refine s_bipush X 16 dX11_init_62 (by decide) ?_
  refine s_nwi X (by decide +kernel) dX11_init_64 (fun a8 M => ?_)
  refine s_pf (x := za ((some a8))) X (C := RX11) (T := TX11) (N := 32) rfl (by decide) hiX11 tyX11 tyX11_ok nmX11 hl35 (Or.inr ⟨rfl, hnm, rfl⟩) rfl (z_afit _ _) dX11_init_66 (fun M => ?_)
  refine s_aload_n X dX11_init_69 0 rfl ?_
  refine s_bipush X 16 dX11_init_70 (by decide) ?_
  refine s_nwi X (by decide +kernel) dX11_init_72 (fun a9 M => ?_)
  refine s_pf (x := za ((some a9))) X (C := RX11) (T := TX11) (N := 32) rfl (by decide) hiX11 tyX11 tyX11_ok nmX11 hl38 (Or.inr ⟨rfl, hnm, rfl⟩) rfl (z_afit _ _) dX11_init_74 (fun M => ?_)
  refine s_aload_n X dX11_init_77 0 rfl ?_
  refine s_bipush X 16 dX11_init_78 (by decide) ?_
  refine s_nwi X (by decide +kernel) dX11_init_80 (fun a10 M => ?_)
  refine s_pf (x := za ((some a10))) X (C := RX11) (T := TX11) (N := 32) rfl (by decide) hiX11 tyX11 tyX11_ok nmX11 hl41 (Or.inr ⟨rfl, hnm, rfl⟩) rfl (z_afit _ _) dX11_init_82 (fun M => ?_)
  refine s_aload_n X dX11_init_85 0 rfl ?_
  refine s_sipush X 1300 dX11_init_86 (by decide) ?_
  refine s_nwi X (by decide +kernel) dX11_init_89 (fun a11 M => ?_)
  refine s_pf (x := za ((some a11))) X (C := RX11) (T := TX11) (N := 32) rfl (by decide) hiX11 tyX11 tyX11_ok nmX11 hl44 (Or.inr ⟨rfl, hnm, rfl⟩) rfl (z_afit _ _) dX11_init_91 (fun M => ?_)
  refine s_aload_n X dX11_init_94 0 rfl ?_
  refine s_sipush X 1300 dX11_init_95 (by decide) ?_
  refine s_nwi X (by decide +kernel) dX11_init_98 (fun a12 M => ?_)
  refine s_pf (x := za ((some a12))) X (C := RX11) (T := TX11) (N := 32) rfl (by decide) hiX11 tyX11 tyX11_ok nmX11 hl47 (Or.inr ⟨rfl, hnm, rfl⟩) rfl (z_afit _ _) dX11_init_100 (fun M => ?_)
  refine s_aload_n X dX11_init_103 0 rfl ?_
  refine s_ldc X 59049 dX11_init_104 (by decide +kernel) ?_
  refine s_nwi X (by decide +kernel) dX11_init_106 (fun a13 M => ?_)
  refine s_pf (x := za ((some a13))) X (C := RX11) (T := TX11) (N := 32) rfl (by decide) hiX11 tyX11 tyX11_ok nmX11 hl51 (Or.inr ⟨rfl, hnm, rfl⟩) rfl (z_afit _ _) dX11_init_108 (fun M => ?_)
  refine s_aload_n X dX11_init_111 0 rfl ?_
  refine s_ldc X 80000 dX11_init_112 (by decide +kernel) ?_
  refine s_nwz X (by decide +kernel) dX11_init_114 (fun a14 M => ?_)
  refine s_pf (x := za ((some a14))) X (C := RX11) (T := TX11) (N := 32) rfl (by decide) hiX11 tyX11 tyX11_ok nmX11 hl55 (Or.inr ⟨rfl, hnm, rfl⟩) rfl (z_afit _ _) dX11_init_116 (fun M => ?_)
  refine s_aload_n X dX11_init_119 0 rfl ?_
  refine s_bipush X 60 dX11_init_120 (by decide) ?_
  refine s_nwz X (by decide +kernel) dX11_init_122 (fun a15 M => ?_)
  refine s_pf (x := za ((some a15))) X (C := RX11) (T := TX11) (N := 32) rfl (by decide) hiX11 tyX11 tyX11_ok nmX11 hl59 (Or.inr ⟨rfl, hnm, rfl⟩) rfl (z_afit _ _) dX11_init_124 (fun M => ?_)
  refine s_aload_n X dX11_init_127 0 rfl ?_
  refine s_bipush X 60 dX11_init_128 (by decide) ?_
  refine s_nwi X (by decide +kernel) dX11_init_130 (fun a16 M => ?_)
  refine s_pf (x := za ((some a16))) X (C := RX11) (T := TX11) (N := 32) rfl (by decide) hiX11 tyX11 tyX11_ok nmX11 hl62 (Or.inr ⟨rfl, hnm, rfl⟩) rfl (z_afit _ _) dX11_init_132 (fun M => ?_)
  refine s_aload_n X dX11_init_135 0 rfl ?_
  refine s_iconst X 4 dX11_init_136 (by decide) ?_
  refine s_nwi X (by decide +kernel) dX11_init_137 (fun a17 M => ?_)
  refine s_pf (x := za ((some a17))) X (C := RX11) (T := TX11) (N := 32) rfl (by decide) hiX11 tyX11 tyX11_ok nmX11 hl65 (Or.inr ⟨rfl, hnm, rfl⟩) rfl (z_afit _ _) dX11_init_139 (fun M => ?_)
  refine s_aload_n X dX11_init_142 0 rfl ?_
  refine s_bipush X 60 dX11_init_143 (by decide) ?_
  refine s_nwi X (by decide +kernel) dX11_init_145 (fun a18 M => ?_)
  refine s_pf (x := za ((some a18))) X (C := RX11) (T := TX11) (N := 32) rfl (by decide) hiX11 tyX11 tyX11_ok nmX11 hl68 (Or.inr ⟨rfl, hnm, rfl⟩) rfl (z_afit _ _) dX11_init_147 (fun M => ?_)
  refine s_aload_n X dX11_init_150 0 rfl ?_
  refine s_sipush X 1300 dX11_init_151 (by decide) ?_
  refine s_nwz X (by decide +kernel) dX11_init_154 (fun a19 M => ?_)
  refine s_pf (x := za ((some a19))) X (C := RX11) (T := TX11) (N := 32) rfl (by decide) hiX11 tyX11 tyX11_ok nmX11 hl71 (Or.inr ⟨rfl, hnm, rfl⟩) rfl (z_afit _ _) dX11_init_156 (fun M => ?_)
  refine s_aload_n X dX11_init_159 0 rfl ?_
  refine s_sipush X 1300 dX11_init_160 (by decide) ?_
  refine s_nwz X (by decide +kernel) dX11_init_163 (fun a20 M => ?_)
  refine s_pf (x := za ((some a20))) X (C := RX11) (T := TX11) (N := 32) rfl (by decide) hiX11 tyX11 tyX11_ok nmX11 hl74 (Or.inr ⟨rfl, hnm, rfl⟩) rfl (z_afit _ _) dX11_init_165 (fun M => ?_)
  refine s_aload_n X dX11_init_168 0 rfl ?_
  refine s_ldc X 78000 dX11_init_169 (by decide +kernel) ?_
  refine s_nwz X (by decide +kernel) dX11_init_171 (fun a21 M => ?_)
  refine s_pf (x := za ((some a21))) X (C := RX11) (T := TX11) (N := 32) rfl (by decide) hiX11 tyX11 tyX11_ok nmX11 hl78 (Or.inr ⟨rfl, hnm, rfl⟩) rfl (z_afit _ _) dX11_init_173 (fun M => ?_)
  refine s_aload_n X dX11_init_176 0 rfl ?_
  refine s_bipush X 60 dX11_init_177 (by decide) ?_
  refine s_nwz X (by decide +kernel) dX11_init_179 (fun a22 M => ?_)
  refine s_pf (x := za ((some a22))) X (C := RX11) (T := TX11) (N := 32) rfl (by decide) hiX11 tyX11 tyX11_ok nmX11 hl81 (Or.inr ⟨rfl, hnm, rfl⟩) rfl (z_afit _ _) dX11_init_181 (fun M => ?_)
  refine s_aload_n X dX11_init_184 0 rfl ?_
  refine s_sipush X 1300 dX11_init_185 (by decide) ?_
  refine s_nwl X (by decide +kernel) dX11_init_188 (fun a23 M => ?_)
  refine s_pf (x := za ((some a23))) X (C := RX11) (T := TX11) (N := 32) rfl (by decide) hiX11 tyX11 tyX11_ok nmX11 hl84 (Or.inr ⟨rfl, hnm, rfl⟩) rfl (z_afit _ _) dX11_init_190 (fun M => ?_)
  refine s_aload_n X dX11_init_193 0 rfl ?_
  refine s_sipush X 1300 dX11_init_194 (by decide) ?_
  refine s_nwl X (by decide +kernel) dX11_init_197 (fun a24 M => ?_)
  refine s_pf (x := za ((some a24))) X (C := RX11) (T := TX11) (N := 32) rfl (by decide) hiX11 tyX11 tyX11_ok nmX11 hl88 (Or.inr ⟨rfl, hnm, rfl⟩) rfl (z_afit _ _) dX11_init_199 (fun M => ?_)
  refine s_aload_n X dX11_init_202 0 rfl ?_
  refine s_bipush X 16 dX11_init_203 (by decide) ?_
  refine s_nwi X (by decide +kernel) dX11_init_205 (fun a25 M => ?_)
  refine s_pf (x := za ((some a25))) X (C := RX11) (T := TX11) (N := 32) rfl (by decide) hiX11 tyX11 tyX11_ok nmX11 hl91 (Or.inr ⟨rfl, hnm, rfl⟩) rfl (z_afit _ _) dX11_init_207 (fun M => ?_)
  refine s_iconst X 0 dX11_init_210 (by decide) ?_
  refine s_istore_n X dX11_init_211 (by decide) [(1, zi (0)), (0, za ((some a0)))] rfl ?_
  refine s_lv [(0, za ((some a0))), (1, zi (0))] [1, 0] rfl ?_
  exact L212 z_N (0) _
theorem hy_X11_isBare : yX11_isBare.cls = RX11 ∧ yX11_isBare.cls ≠ "java/lang/invoke/MethodHandle" ∧ yX11_isBare.cls ≠ "java/lang/invoke/VarHandle" ∧ (parseMethodDescriptor yX11_isBare.desc).map (fun d => d.parameters.length) = some 1 := by decide +kernel
set_option maxHeartbeats 4000000 in
set_option maxRecDepth 100000 in
theorem c_X11_isBare (l : Launch) (E : zE) (a0 : Nat) (p0 : Int32) : z_Met l E yX11_isBare wsX11_isBare 1 20 [za ((some a0)), zi p0] z_ri (F_X11_isBare a0 p0) := by
  refine z_of (own := RX11) (cc := cX11_isBare) (maxL := 2) (rt := (some .boolean)) rfl (by decide) rfl (Nat.le_of_ble_eq_true rfl) ?_
  intro p e R s0 m args below meth c M0 fin X hr hnm
  have hiX11 : ∀ w ∈ u_ws RX11 TX11 32, w ∈ wsX11_isBare := by decide +kernel
  have hl29 : Cond.fieldLink RX11 29 (TX11 7).1 (TX11 7).2.1 (TX11 7).2.2.1 ∈ wsX11_isBare := by decide +kernel
  have J21 : ∀ (s_0 : Int32) (M : zM), z_S p l e R s0 m args below meth c (z_Qm E below args s0 M0 z_ri fin) E 2 M0 fin M 21 [] [zi s_0] (F_X11_isBare_21 a0 s_0) := by
    intro s_0 M
    exact s_retb X hr dX11_isBare_21
  have J20 : ∀ (M : zM), z_S p l e R s0 m args below meth c (z_Qm E below args s0 M0 z_ri fin) E 2 M0 fin M 20 [] [] (F_X11_isBare_20 a0) := by
    intro M
    refine s_iconst X 0 dX11_isBare_20 (by decide) ?_
    exact J21 0 _
  refine s_iload_n X dX11_isBare_0 1 rfl ?_
  refine s_callS (As := [zi p0]) (st := []) X (c_X11_isShape l E p0) gX11_isBare_X11_isShape rfl hy_X11_isShape rfl rfl (Nat.le_of_ble_eq_true rfl) (by decide) dX11_isBare_1 (fun x1 M => ?_)
  refine s_if_eq X 20 dX11_isBare_4 (by decide) (fun h2 => ?_) (fun h2 => ?_)
  · refine s_lv [] [] rfl ?_
    exact J20 _
  · refine s_aload_n X dX11_isBare_7 0 rfl ?_
    refine s_ga X (C := RX11) (T := TX11) (N := 32) rfl (by decide) hiX11 hl29 dX11_isBare_8 (fun r3 => ?_)
    refine s_iload_n X dX11_isBare_11 1 rfl ?_
    refine s_li X dX11_isBare_12 (fun x4 => ?_)
    refine s_if_ne X 20 dX11_isBare_13 (by decide) (fun h5 => ?_) (fun h5 => ?_)
    · refine s_lv [] [] rfl ?_
      exact J20 _
    · refine s_iconst X 1 dX11_isBare_16 (by decide) ?_
      refine s_goto X 21 dX11_isBare_17 (by decide) ?_
      refine s_lv [] [] rfl ?_
      exact J21 1 _
theorem hy_X11_isLoose : yX11_isLoose.cls = RX11 ∧ yX11_isLoose.cls ≠ "java/lang/invoke/MethodHandle" ∧ yX11_isLoose.cls ≠ "java/lang/invoke/VarHandle" ∧ (parseMethodDescriptor yX11_isLoose.desc).map (fun d => d.parameters.length) = some 3 := by decide +kernel
set_option maxHeartbeats 4000000 in
set_option maxRecDepth 100000 in
theorem c_X11_isLoose (l : Launch) (E : zE) (a0 : Nat) (p0 : Int32) (p1 : Int32) (p2 : Int32) : z_Met l E yX11_isLoose wsX11_isLoose 2 45 [za ((some a0)), zi p0, zi p1, zi p2] z_ri (F_X11_isLoose a0 p0 p1 p2) := by
  refine z_of (own := RX11) (cc := cX11_isLoose) (maxL := 5) (rt := (some .boolean)) rfl (by decide) rfl (Nat.le_of_ble_eq_true rfl) ?_
  intro p e R s0 m args below meth c M0 fin X hr hnm
  have hiX11 : ∀ w ∈ u_ws RX11 TX11 32, w ∈ wsX11_isLoose := by decide +kernel
  have hl128 : Cond.fieldLink RX11 128 (TX11 21).1 (TX11 21).2.1 (TX11 21).2.2.1 ∈ wsX11_isLoose := by decide +kernel
  have hl62 : Cond.fieldLink RX11 62 (TX11 20).1 (TX11 20).2.1 (TX11 20).2.2.1 ∈ wsX11_isLoose := by decide +kernel
  have L15 : ∀ (n : Nat) (s : Int32 × Int32 × Int32) (M : zM), z_S p l e R s0 m args below meth c (z_Qm E below args s0 M0 z_ri fin) E 5 M0 fin M 15 [(0, za (some a0)), (2, zi s.1), (3, zi s.2.1), (4, zi s.2.2)] [] (F_X11_isLoose_15 a0 n s) := by
    refine s_fix ?_
    intro ih15_ hih15
    rintro ⟨x_2, x_3, x_4⟩ M
    refine s_iload X dX11_isLoose_15 3 rfl ?_
    refine s_aload_n X dX11_isLoose_17 0 rfl ?_
    refine s_gi X (C := RX11) (T := TX11) (N := 32) rfl (by decide) hiX11 hl128 dX11_isLoose_18 (fun x4 => ?_)
    refine s_icmp_ge X 48 dX11_isLoose_21 (by decide) (fun h5 => ?_) (fun h5 => ?_)
    · refine s_iconst X 1 dX11_isLoose_48 (by decide) ?_
      exact s_retb X hr dX11_isLoose_49
    · refine s_aload_n X dX11_isLoose_24 0 rfl ?_
      refine s_aload_n X dX11_isLoose_25 0 rfl ?_
      refine s_ga X (C := RX11) (T := TX11) (N := 32) rfl (by decide) hiX11 hl62 dX11_isLoose_26 (fun r6 => ?_)
      refine s_iload X dX11_isLoose_29 3 rfl ?_
      refine s_li X dX11_isLoose_31 (fun x7 => ?_)
      refine s_iload_n X dX11_isLoose_32 1 rfl ?_
      refine s_iload_n X dX11_isLoose_33 2 rfl ?_
      refine s_callV (ci := 11) (C := RX11) (As := [zi x7, zi x_2, zi x_3]) (st := []) X (fun a => c_X11_takes l E a x7 x_2 x_3) gX11_isLoose_X11_takes rfl hy_X11_takes rfl rfl rfl rfl (Nat.le_of_ble_eq_true rfl) (by decide) dX11_isLoose_34 (fun x8 M => ?_)
      refine s_if_eq X 42 dX11_isLoose_37 (by decide) (fun h10 => ?_) (fun h10 => ?_)
      · refine s_iinc X 1 dX11_isLoose_42 3 rfl (by decide) (by decide) [(4, zi (x_4 + 1)), (0, za ((some a0))), (2, zi x_2), (3, zi x_3)] rfl ?_
        refine s_goto X 15 dX11_isLoose_45 (by decide) ?_
        refine s_lv [(0, za ((some a0))), (2, zi x_2), (3, zi x_3), (4, zi (x_4 + 1))] [1, 2, 3, 0] rfl ?_
        exact hih15 (x_2, x_3, x_4 + 1) _
      · refine s_iconst X 0 dX11_isLoose_40 (by decide) ?_
        exact s_retb X hr dX11_isLoose_41
  refine s_aload_n X dX11_isLoose_0 0 rfl ?_
  refine s_iload_n X dX11_isLoose_1 1 rfl ?_
  refine s_iload_n X dX11_isLoose_2 2 rfl ?_
  refine s_iload_n X dX11_isLoose_3 3 rfl ?_
  refine s_callV (ci := 11) (C := RX11) (As := [zi p0, zi p1, zi p2]) (st := []) X (fun a => c_X11_mayBeLeft l E a p0 p1 p2) gX11_isLoose_X11_mayBeLeft rfl hy_X11_mayBeLeft rfl rfl rfl rfl (Nat.le_of_ble_eq_true rfl) (by decide) dX11_isLoose_4 (fun x1 M => ?_)
  refine s_if_eq X 12 dX11_isLoose_7 (by decide) (fun h3 => ?_) (fun h3 => ?_)
  · refine s_iconst X 0 dX11_isLoose_12 (by decide) ?_
    refine s_istore X dX11_isLoose_13 (by decide) [(4, zi (0)), (0, za ((some a0))), (1, zi p0), (2, zi p1), (3, zi p2)] rfl ?_
    refine s_lv [(0, za ((some a0))), (2, zi p1), (3, zi p2), (4, zi (0))] [1, 3, 4, 0] rfl ?_
    exact L15 z_N (p1, p2, 0) _
  · refine s_iconst X 0 dX11_isLoose_10 (by decide) ?_
    exact s_retb X hr dX11_isLoose_11
theorem hy_X11_loose : yX11_loose.cls = RX11 ∧ yX11_loose.cls ≠ "java/lang/invoke/MethodHandle" ∧ yX11_loose.cls ≠ "java/lang/invoke/VarHandle" ∧ (parseMethodDescriptor yX11_loose.desc).map (fun d => d.parameters.length) = some 2 := by decide +kernel
set_option maxHeartbeats 4000000 in
set_option maxRecDepth 100000 in
theorem c_X11_loose (l : Launch) (E : zE) (a0 : Nat) (p0 : Int32) (p1 : Int32) : z_Met l E yX11_loose wsX11_loose 7 170 [za ((some a0)), zi p0, zi p1] z_ri (F_X11_loose a0 p0 p1) := by
  refine z_of (own := RX11) (cc := cX11_loose) (maxL := 6) (rt := (some .int)) rfl (by decide) rfl (Nat.le_of_ble_eq_true rfl) ?_
  intro p e R s0 m args below meth c M0 fin X hr hnm
  have hiX11 : ∀ w ∈ u_ws RX11 TX11 32, w ∈ wsX11_loose := by decide +kernel
  have hl1 : Cond.fieldLink RX11 1 (TX11 22).1 (TX11 22).2.1 (TX11 22).2.2.1 ∈ wsX11_loose := by decide +kernel
  have hl187 : Cond.fieldLink RX11 187 (TX11 13).1 (TX11 13).2.1 (TX11 13).2.2.1 ∈ wsX11_loose := by decide +kernel
  have hl32 : Cond.fieldLink RX11 32 (TX11 8).1 (TX11 8).2.1 (TX11 8).2.2.1 ∈ wsX11_loose := by decide +kernel
  have hl100 : Cond.fieldLink RX11 100 (TX11 1).1 (TX11 1).2.1 (TX11 1).2.2.1 ∈ wsX11_loose := by decide +kernel
  have hl13 : Cond.fieldLink RX11 13 (TX11 0).1 (TX11 0).2.1 (TX11 0).2.2.1 ∈ wsX11_loose := by decide +kernel
  have L51 : ∀ (n : Nat) (s : Int32 × Int32 × Int32 × Int32) (M : zM), z_S p l e R s0 m args below meth c (z_Qm E below args s0 M0 z_ri fin) E 6 M0 fin M 51 [(0, za (some a0)), (1, zi s.1), (2, zi s.2.1), (3, zi s.2.2.1), (4, zi s.2.2.2)] [] (F_X11_loose_51 a0 n s) := by
    refine s_fix ?_
    intro ih51_ hih51
    have J138 : ∀ (x_1 : Int32) (x_2 : Int32) (x_3 : Int32) (x_4 : Int32) (M : zM), z_S p l e R s0 m args below meth c (z_Qm E below args s0 M0 z_ri fin) E 6 M0 fin M 138 [(0, za ((some a0))), (1, zi x_1), (2, zi x_2), (3, zi x_3), (4, zi x_4)] [] (F_X11_loose_138 a0 (fun y0 y1 y2 y3 => ih51_ (y0, y1, y2, y3)) x_1 x_2 x_3 x_4) := by
      intro x_1 x_2 x_3 x_4 M
      refine s_iinc X 1 dX11_loose_138 4 rfl (by decide) (by decide) [(4, zi (x_4 + 1)), (0, za ((some a0))), (1, zi x_1), (2, zi x_2), (3, zi x_3)] rfl ?_
      refine s_goto X 51 dX11_loose_141 (by decide) ?_
      refine s_lv [(0, za ((some a0))), (1, zi x_1), (2, zi x_2), (3, zi x_3), (4, zi (x_4 + 1))] [1, 2, 3, 4, 0] rfl ?_
      exact hih51 (x_1, x_2, x_3, x_4 + 1) _
    have J136 : ∀ (x_1 : Int32) (x_2 : Int32) (x_4 : Int32) (s_0 : Int32) (s_1 : Int32) (M : zM), z_S p l e R s0 m args below meth c (z_Qm E below args s0 M0 z_ri fin) E 6 M0 fin M 136 [(0, za ((some a0))), (1, zi x_1), (2, zi x_2), (4, zi x_4)] [zi s_1, zi s_0] (F_X11_loose_136 a0 (fun y0 y1 y2 y3 => ih51_ (y0, y1, y2, y3)) x_1 x_2 x_4 s_0 s_1) := by
      intro x_1 x_2 x_4 s_0 s_1 M
      refine s_iadd X dX11_loose_136 ?_
      refine s_let (fun x25 => ?_)
      refine s_istore_n X dX11_loose_137 (by decide) [(3, zi x25), (0, za ((some a0))), (1, zi x_1), (2, zi x_2), (4, zi x_4)] rfl ?_
      refine s_lv [(0, za ((some a0))), (1, zi x_1), (2, zi x_2), (3, zi x25), (4, zi x_4)] [1, 2, 3, 0, 4] rfl ?_
      exact J138 x_1 x_2 x25 x_4 _
    have J96 : ∀ (x_1 : Int32) (x_2 : Int32) (x_3 : Int32) (x_4 : Int32) (x_5 : Int32) (t_0 : Option Nat) (s_1 : Int32) (s_2 : Int32) (M : zM), z_S p l e R s0 m args below meth c (z_Qm E below args s0 M0 z_ri fin) E 6 M0 fin M 96 [(0, za ((some a0))), (1, zi x_1), (2, zi x_2), (3, zi x_3), (4, zi x_4), (5, zi x_5)] [zi s_2, zi s_1, za t_0] (F_X11_loose_96 a0 (fun y0 y1 y2 y3 => ih51_ (y0, y1, y2, y3)) x_1 x_2 x_3 x_4 x_5 t_0 s_1 s_2) := by
      intro x_1 x_2 x_3 x_4 x_5 t_0 s_1 s_2 M
      refine s_iadd X dX11_loose_96 ?_
      refine s_li X dX11_loose_97 (fun x17 => ?_)
      refine s_iload_n X dX11_loose_98 1 rfl ?_
      refine s_icmp_ne X 138 dX11_loose_99 (by decide) (fun h18 => ?_) (fun h18 => ?_)
      · refine s_lv [(0, za ((some a0))), (1, zi x_1), (2, zi x_2), (3, zi x_3), (4, zi x_4)] [0, 1, 2, 3, 4] rfl ?_
        exact J138 x_1 x_2 x_3 x_4 _
      · refine s_aload_n X dX11_loose_102 0 rfl ?_
        refine s_iload_n X dX11_loose_103 2 rfl ?_
        refine s_iload X dX11_loose_104 4 rfl ?_
        refine s_iconst X 2 dX11_loose_106 (by decide) ?_
        refine s_idiv X dX11_loose_107 (by decide) ?_
        refine s_iload X dX11_loose_108 5 rfl ?_
        refine s_callV (ci := 11) (C := RX11) (As := [zi x_2, zi (x_4 / 2), zi x_5]) (st := []) X (fun a => c_X11_concerns l E a x_2 (x_4 / 2) x_5) gX11_loose_X11_concerns rfl hy_X11_concerns rfl rfl rfl rfl (Nat.le_of_ble_eq_true rfl) (by decide) dX11_loose_110 (fun x19 M => ?_)
        refine s_if_eq X 138 dX11_loose_113 (by decide) (fun h21 => ?_) (fun h21 => ?_)
        · refine s_lv [(0, za ((some a0))), (1, zi x_1), (2, zi x_2), (3, zi x_3), (4, zi x_4)] [0, 1, 2, 3, 4] rfl ?_
          exact J138 x_1 x_2 x_3 x_4 _
        · refine s_iload_n X dX11_loose_116 3 rfl ?_
          refine s_aload_n X dX11_loose_117 0 rfl ?_
          refine s_iload_n X dX11_loose_118 2 rfl ?_
          refine s_iload X dX11_loose_119 4 rfl ?_
          refine s_iconst X 2 dX11_loose_121 (by decide) ?_
          refine s_idiv X dX11_loose_122 (by decide) ?_
          refine s_iload X dX11_loose_123 5 rfl ?_
          refine s_callV (ci := 11) (C := RX11) (As := [zi x_2, zi (x_4 / 2), zi x_5]) (st := [zi x_3]) X (fun a => c_X11_isLoose l E a x_2 (x_4 / 2) x_5) gX11_loose_X11_isLoose rfl hy_X11_isLoose rfl rfl rfl rfl (Nat.le_of_ble_eq_true rfl) (by decide) dX11_loose_125 (fun x22 M => ?_)
          refine s_if_eq X 135 dX11_loose_128 (by decide) (fun h24 => ?_) (fun h24 => ?_)
          · refine s_iconst X 0 dX11_loose_135 (by decide) ?_
            refine s_lv [(0, za ((some a0))), (1, zi x_1), (2, zi x_2), (4, zi x_4)] [0, 1, 2, 4] rfl ?_
            exact J136 x_1 x_2 x_4 x_3 0 _
          · refine s_iconst X 1 dX11_loose_131 (by decide) ?_
            refine s_goto X 136 dX11_loose_132 (by decide) ?_
            refine s_lv [(0, za ((some a0))), (1, zi x_1), (2, zi x_2), (4, zi x_4)] [0, 1, 2, 4] rfl ?_
            exact J136 x_1 x_2 x_4 x_3 1 _
    have J74 : ∀ (x_1 : Int32) (x_2 : Int32) (x_3 : Int32) (x_4 : Int32) (s_0 : Int32) (M : zM), z_S p l e R s0 m args below meth c (z_Qm E below args s0 M0 z_ri fin) E 6 M0 fin M 74 [(0, za ((some a0))), (1, zi x_1), (2, zi x_2), (3, zi x_3), (4, zi x_4)] [zi s_0] (F_X11_loose_74 a0 (fun y0 y1 y2 y3 => ih51_ (y0, y1, y2, y3)) x_1 x_2 x_3 x_4 s_0) := by
      intro x_1 x_2 x_3 x_4 s_0 M
      refine s_istore X dX11_loose_74 (by decide) [(5, zi s_0), (0, za ((some a0))), (1, zi x_1), (2, zi x_2), (3, zi x_3), (4, zi x_4)] rfl ?_
      refine s_aload_n X dX11_loose_76 1 rfl ?_
      refine s_ga X (C := RX11) (T := TX11) (N := 32) rfl (by decide) hiX11 hl13 dX11_loose_77 (fun r15 => ?_)
      refine s_iconst X 3 dX11_loose_80 (by decide) ?_
      refine s_iload X dX11_loose_81 5 rfl ?_
      refine s_iconst X 2 dX11_loose_83 (by decide) ?_
      refine s_idiv X dX11_loose_84 (by decide) ?_
      refine s_imul X dX11_loose_85 ?_
      refine s_iload X dX11_loose_86 0 rfl ?_
      refine s_if_eq X 95 dX11_loose_88 (by decide) (fun h16 => ?_) (fun h16 => ?_)
      · refine s_iconst X 2 dX11_loose_95 (by decide) ?_
        refine s_lv [(0, za ((some a0))), (1, zi x_1), (2, zi x_2), (3, zi x_3), (4, zi x_4), (5, zi s_0)] [1, 2, 3, 4, 5, 0] rfl ?_
        exact J96 x_1 x_2 x_3 x_4 s_0 r15 (3 * (x_4 / 2)) 2 _
      · refine s_iconst X 0 dX11_loose_91 (by decide) ?_
        refine s_goto X 96 dX11_loose_92 (by decide) ?_
        refine s_lv [(0, za ((some a0))), (1, zi x_1), (2, zi x_2), (3, zi x_3), (4, zi x_4), (5, zi s_0)] [1, 2, 3, 4, 5, 0] rfl ?_
        exact J96 x_1 x_2 x_3 x_4 s_0 r15 (3 * (x_4 / 2)) 0 _
    rintro ⟨x_1, x_2, x_3, x_4⟩ M
    refine s_iload X dX11_loose_51 4 rfl ?_
    refine s_iconst X 2 dX11_loose_53 (by decide) ?_
    refine s_aload_n X dX11_loose_54 0 rfl ?_
    refine s_gi X (C := RX11) (T := TX11) (N := 32) rfl (by decide) hiX11 hl100 dX11_loose_55 (fun x12 => ?_)
    refine s_imul X dX11_loose_58 ?_
    refine s_icmp_ge X 144 dX11_loose_59 (by decide) (fun h13 => ?_) (fun h13 => ?_)
    · refine s_iload_n X dX11_loose_144 3 rfl ?_
      exact s_ret X hr dX11_loose_145
    · refine s_iload X dX11_loose_62 4 rfl ?_
      refine s_iconst X 2 dX11_loose_64 (by decide) ?_
      refine s_irem X dX11_loose_65 (by decide) ?_
      refine s_if_ne X 73 dX11_loose_66 (by decide) (fun h14 => ?_) (fun h14 => ?_)
      · refine s_iconst X 0 dX11_loose_73 (by decide) ?_
        exact J74 x_1 x_2 x_3 x_4 0 _
      · refine s_iconst X 1 dX11_loose_69 (by decide) ?_
        refine s_goto X 74 dX11_loose_70 (by decide) ?_
        exact J74 x_1 x_2 x_3 x_4 1 _
  have J20 : ∀ (M : zM), z_S p l e R s0 m args below meth c (z_Qm E below args s0 M0 z_ri fin) E 6 M0 fin M 20 [] [] (F_X11_loose_20 a0) := by
    intro M
    refine s_iconst X (-1) dX11_loose_20 (by decide) ?_
    exact s_ret X hr dX11_loose_21
  refine s_aload_n X dX11_loose_0 0 rfl ?_
  refine s_iconst X 0 dX11_loose_1 (by decide) ?_
  refine s_pf (x := zi (0)) X (C := RX11) (T := TX11) (N := 32) rfl (by decide) hiX11 tyX11 tyX11_ok nmX11 hl1 (Or.inl rfl) rfl (fun E => ⟨rfl, rfl⟩) dX11_loose_2 (fun M => ?_)
  refine s_iload_n X dX11_loose_5 1 rfl ?_
  refine s_callS (As := [zi p0]) (st := []) X (c_X11_isNode l E p0) gX11_loose_X11_isNode rfl hy_X11_isNode rfl rfl (Nat.le_of_ble_eq_true rfl) (by decide) dX11_loose_6 (fun x1 M => ?_)
  refine s_if_eq X 20 dX11_loose_9 (by decide) (fun h2 => ?_) (fun h2 => ?_)
  · refine s_lv [] [] rfl ?_
    exact J20 _
  · refine s_aload_n X dX11_loose_12 0 rfl ?_
    refine s_iload_n X dX11_loose_13 2 rfl ?_
    refine s_callV (ci := 11) (C := RX11) (As := [zi p1]) (st := []) X (fun a => c_X11_isBare l E a p1) gX11_loose_X11_isBare rfl hy_X11_isBare rfl rfl rfl rfl (Nat.le_of_ble_eq_true rfl) (by decide) dX11_loose_14 (fun x3 M => ?_)
    refine s_if_ne X 22 dX11_loose_17 (by decide) (fun h5 => ?_) (fun h5 => ?_)
    · refine s_aload_n X dX11_loose_22 0 rfl ?_
      refine s_callV (ci := 11) (C := RX11) (As := []) (st := []) X (fun a => c_X11_reckon l E a) gX11_loose_X11_reckon rfl hy_X11_reckon rfl rfl rfl rfl (Nat.le_of_ble_eq_true rfl) (by decide) dX11_loose_23 (fun _ M => ?_)
      refine s_aload_n X dX11_loose_26 0 rfl ?_
      refine s_gi X (C := RX11) (T := TX11) (N := 32) rfl (by decide) hiX11 hl187 dX11_loose_27 (fun x7 => ?_)
      refine s_if_lt X 36 dX11_loose_30 (by decide) (fun h8 => ?_) (fun h8 => ?_)
      · refine s_aload_n X dX11_loose_36 0 rfl ?_
        refine s_aload_n X dX11_loose_37 0 rfl ?_
        refine s_ga X (C := RX11) (T := TX11) (N := 32) rfl (by decide) hiX11 hl32 dX11_loose_38 (fun r9 => ?_)
        refine s_iload_n X dX11_loose_41 2 rfl ?_
        refine s_li X dX11_loose_42 (fun x10 => ?_)
        refine s_callV (ci := 11) (C := RX11) (As := [zi x10]) (st := []) X (fun a => c_X11_findPlaces l E a x10) gX11_loose_X11_findPlaces rfl hy_X11_findPlaces rfl rfl rfl rfl (Nat.le_of_ble_eq_true rfl) (by decide) dX11_loose_43 (fun _ M => ?_)
        refine s_iconst X 0 dX11_loose_46 (by decide) ?_
        refine s_istore_n X dX11_loose_47 (by decide) [(3, zi (0)), (0, za ((some a0))), (1, zi p0), (2, zi p1)] rfl ?_
        refine s_iconst X 0 dX11_loose_48 (by decide) ?_
        refine s_istore X dX11_loose_49 (by decide) [(4, zi (0)), (3, zi (0)), (0, za ((some a0))), (1, zi p0), (2, zi p1)] rfl ?_
        refine s_lv [(0, za ((some a0))), (1, zi p0), (2, zi p1), (3, zi (0)), (4, zi (0))] [2, 3, 4, 1, 0] rfl ?_
        exact L51 z_N (p0, p1, 0, 0) _
      · refine s_bipush X (-3) dX11_loose_33 (by decide) ?_
        exact s_ret X hr dX11_loose_35
    · refine s_lv [] [] rfl ?_
      exact J20 _
theorem hy_X11_nodes : yX11_nodes.cls = RX11 ∧ yX11_nodes.cls ≠ "java/lang/invoke/MethodHandle" ∧ yX11_nodes.cls ≠ "java/lang/invoke/VarHandle" ∧ (parseMethodDescriptor yX11_nodes.desc).map (fun d => d.parameters.length) = some 1 := by decide +kernel
set_option maxHeartbeats 4000000 in
set_option maxRecDepth 100000 in
theorem c_X11_nodes (l : Launch) (E : zE) (a0 : Nat) (p0 : Int32) : z_Met l E yX11_nodes wsX11_nodes 7 170 [za ((some a0)), zi p0] z_ri (F_X11_nodes a0 p0) := by
  refine z_of (own := RX11) (cc := cX11_nodes) (maxL := 2) (rt := (some .int)) rfl (by decide) rfl (Nat.le_of_ble_eq_true rfl) ?_
  intro p e R s0 m args below meth c M0 fin X hr hnm
  have hiX11 : ∀ w ∈ u_ws RX11 TX11 32, w ∈ wsX11_nodes := by decide +kernel
  have hl1 : Cond.fieldLink RX11 1 (TX11 22).1 (TX11 22).2.1 (TX11 22).2.2.1 ∈ wsX11_nodes := by decide +kernel
  have hl187 : Cond.fieldLink RX11 187 (TX11 13).1 (TX11 13).2.1 (TX11 13).2.2.1 ∈ wsX11_nodes := by decide +kernel
  have hl41 : Cond.fieldLink RX11 41 (TX11 11).1 (TX11 11).2.1 (TX11 11).2.2.1 ∈ wsX11_nodes := by decide +kernel
  have J36 : ∀ (s_0 : Int32) (M : zM), z_S p l e R s0 m args below meth c (z_Qm E below args s0 M0 z_ri fin) E 2 M0 fin M 36 [] [zi s_0] (F_X11_nodes_36 a0 s_0) := by
    intro s_0 M
    exact s_ret X hr dX11_nodes_36
  refine s_aload_n X dX11_nodes_0 0 rfl ?_
  refine s_iconst X 0 dX11_nodes_1 (by decide) ?_
  refine s_pf (x := zi (0)) X (C := RX11) (T := TX11) (N := 32) rfl (by decide) hiX11 tyX11 tyX11_ok nmX11 hl1 (Or.inl rfl) rfl (fun E => ⟨rfl, rfl⟩) dX11_nodes_2 (fun M => ?_)
  refine s_iload_n X dX11_nodes_5 1 rfl ?_
  refine s_callS (As := [zi p0]) (st := []) X (c_X11_isShape l E p0) gX11_nodes_X11_isShape rfl hy_X11_isShape rfl rfl (Nat.le_of_ble_eq_true rfl) (by decide) dX11_nodes_6 (fun x1 M => ?_)
  refine s_if_ne X 14 dX11_nodes_9 (by decide) (fun h2 => ?_) (fun h2 => ?_)
  · refine s_aload_n X dX11_nodes_14 0 rfl ?_
    refine s_callV (ci := 11) (C := RX11) (As := []) (st := []) X (fun a => c_X11_reckon l E a) gX11_nodes_X11_reckon rfl hy_X11_reckon rfl rfl rfl rfl (Nat.le_of_ble_eq_true rfl) (by decide) dX11_nodes_15 (fun _ M => ?_)
    refine s_aload_n X dX11_nodes_18 0 rfl ?_
    refine s_gi X (C := RX11) (T := TX11) (N := 32) rfl (by decide) hiX11 hl187 dX11_nodes_19 (fun x4 => ?_)
    refine s_if_lt X 30 dX11_nodes_22 (by decide) (fun h5 => ?_) (fun h5 => ?_)
    · refine s_aload_n X dX11_nodes_30 0 rfl ?_
      refine s_ga X (C := RX11) (T := TX11) (N := 32) rfl (by decide) hiX11 hl41 dX11_nodes_31 (fun r6 => ?_)
      refine s_iload_n X dX11_nodes_34 1 rfl ?_
      refine s_li X dX11_nodes_35 (fun x7 => ?_)
      refine s_lv [] [] rfl ?_
      exact J36 x7 _
    · refine s_bipush X (-3) dX11_nodes_25 (by decide) ?_
      refine s_goto X 36 dX11_nodes_27 (by decide) ?_
      refine s_lv [] [] rfl ?_
      exact J36 ((-3)) _
  · refine s_iconst X (-1) dX11_nodes_12 (by decide) ?_
    exact s_ret X hr dX11_nodes_13
