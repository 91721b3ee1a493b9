theorem hy_X11_make : yX11_make.cls = RX11 ∧ yX11_make.cls ≠ "java/lang/invoke/MethodHandle" ∧ yX11_make.cls ≠ "java/lang/invoke/VarHandle" ∧ (parseMethodDescriptor yX11_make.desc).map (fun d => d.parameters.length) = some 1 := by decide +kernel
set_option maxHeartbeats 4000000 in
set_option maxRecDepth 100000 in
theorem c_X11_make (l : Launch) (E : zE) (a0 : Nat) (p0 : Int32) : z_Met l E yX11_make wsX11_make 1 27 [za ((some a0)), zi p0] z_rv (F_X11_make a0 p0) := by
  refine z_of (own := RX11) (cc := cX11_make) (maxL := 6) (rt := none) rfl (by decide) rfl (Nat.le_of_ble_eq_true rfl) ?_
  intro p e R s0 m args below meth c M0 fin X hr hnm
  have hiX11 : ∀ w ∈ u_ws RX11 TX11 32, w ∈ wsX11_make := by decide +kernel
  have hl59 : Cond.fieldLink RX11 59 (TX11 19).1 (TX11 19).2.1 (TX11 19).2.2.1 ∈ wsX11_make := by decide +kernel
  have hl68 : Cond.fieldLink RX11 68 (TX11 24).1 (TX11 24).2.1 (TX11 24).2.2.1 ∈ wsX11_make := by decide +kernel
  have hl94 : Cond.fieldLink RX11 94 (TX11 16).1 (TX11 16).2.1 (TX11 16).2.2.1 ∈ wsX11_make := by decide +kernel
  have hl17 : Cond.fieldLink RX11 17 (TX11 2).1 (TX11 2).2.1 (TX11 2).2.2.1 ∈ wsX11_make := by decide +kernel
  have hl55 : Cond.fieldLink RX11 55 (TX11 18).1 (TX11 18).2.1 (TX11 18).2.2.1 ∈ wsX11_make := by decide +kernel
  have hl51 : Cond.fieldLink RX11 51 (TX11 17).1 (TX11 17).2.1 (TX11 17).2.2.1 ∈ wsX11_make := by decide +kernel
  have hl20 : Cond.fieldLink RX11 20 (TX11 3).1 (TX11 3).2.1 (TX11 3).2.2.1 ∈ wsX11_make := by decide +kernel
  have hl23 : Cond.fieldLink RX11 23 (TX11 4).1 (TX11 4).2.1 (TX11 4).2.2.1 ∈ wsX11_make := by decide +kernel
  have hl26 : Cond.fieldLink RX11 26 (TX11 5).1 (TX11 5).2.1 (TX11 5).2.2.1 ∈ wsX11_make := by decide +kernel
  have L4 : ∀ (n : Nat) (s : Int32 × Int32 × Int32) (M : zM), z_S p l e R s0 m args below meth c (z_Qm E below args s0 M0 z_rv fin) E 6 M0 fin M 4 [(0, za (some a0)), (1, zi s.1), (2, zi s.2.1), (3, zi s.2.2)] [] (F_X11_make_4 a0 n s) := by
    refine s_fix ?_
    intro ih4_ hih4
    have J320 : ∀ (x_1 : Int32) (x_2 : Int32) (x_3 : Int32) (M : zM), z_S p l e R s0 m args below meth c (z_Qm E below args s0 M0 z_rv fin) E 6 M0 fin M 320 [(0, za ((some a0))), (1, zi x_1), (2, zi x_2), (3, zi x_3)] [] (F_X11_make_320 a0 (fun y0 y1 y2 => ih4_ (y0, y1, y2)) x_1 x_2 x_3) := by
      intro x_1 x_2 x_3 M
      refine s_iinc X 1 dX11_make_320 3 rfl (by decide) (by decide) [(3, zi (x_3 + 1)), (0, za ((some a0))), (1, zi x_1), (2, zi x_2)] rfl ?_
      refine s_goto X 4 dX11_make_323 (by decide) ?_
      refine s_lv [(0, za ((some a0))), (1, zi x_1), (2, zi x_2), (3, zi (x_3 + 1))] [1, 2, 3, 0] rfl ?_
      exact hih4 (x_1, x_2, x_3 + 1) _
    have J306 : ∀ (x_1 : Int32) (x_2 : Int32) (x_3 : Int32) (t_0 : Option Nat) (s_1 : Int32) (s_2 : Int32) (s_3 : Int32) (s_4 : Int32) (M : zM), z_S p l e R s0 m args below meth c (z_Qm E below args s0 M0 z_rv fin) E 6 M0 fin M 306 [(0, za ((some a0))), (1, zi x_1), (2, zi x_2), (3, zi x_3)] [zi s_4, zi s_3, zi s_2, zi s_1, za t_0] (F_X11_make_306 a0 (fun y0 y1 y2 => ih4_ (y0, y1, y2)) x_1 x_2 x_3 t_0 s_1 s_2 s_3 s_4) := by
      intro x_1 x_2 x_3 t_0 s_1 s_2 s_3 s_4 M
      refine s_callV (ci := 11) (C := RX11) (As := [zi s_1, zi s_2, zi s_3, zi s_4]) (st := []) X (fun a => c_X11_repeat l E a s_1 s_2 s_3 s_4) gX11_make_X11_repeat rfl hy_X11_repeat rfl rfl rfl rfl (Nat.le_of_ble_eq_true rfl) (by decide) dX11_make_306 (fun _ M => ?_)
      refine s_goto X 320 dX11_make_309 (by decide) ?_
      exact J320 x_1 x_2 x_3 _
    have J261 : ∀ (x_1 : Int32) (x_2 : Int32) (x_3 : Int32) (x_4 : Int32) (M : zM), z_S p l e R s0 m args below meth c (z_Qm E below args s0 M0 z_rv fin) E 6 M0 fin M 261 [(0, za ((some a0))), (1, zi x_1), (2, zi x_2), (3, zi x_3), (4, zi x_4)] [] (F_X11_make_261 a0 (fun y0 y1 y2 => ih4_ (y0, y1, y2)) x_1 x_2 x_3 x_4) := by
      intro x_1 x_2 x_3 x_4 M
      refine s_aload_n X dX11_make_261 0 rfl ?_
      refine s_aload_n X dX11_make_262 0 rfl ?_
      refine s_aload_n X dX11_make_263 0 rfl ?_
      refine s_ga X (C := RX11) (T := TX11) (N := 32) rfl (by decide) hiX11 hl20 dX11_make_264 (fun r46 => ?_)
      refine s_iload_n X dX11_make_267 3 rfl ?_
      refine s_li X dX11_make_268 (fun x47 => ?_)
      refine s_callV (ci := 11) (C := RX11) (As := [zi x47]) (st := [za ((some a0))]) X (fun a => c_X11_row l E a x47) gX11_make_X11_row rfl hy_X11_row rfl rfl rfl rfl (Nat.le_of_ble_eq_true rfl) (by decide) dX11_make_269 (fun x48 M => ?_)
      refine s_iload X dX11_make_272 4 rfl ?_
      refine s_aload_n X dX11_make_274 0 rfl ?_
      refine s_ga X (C := RX11) (T := TX11) (N := 32) rfl (by decide) hiX11 hl23 dX11_make_275 (fun r50 => ?_)
      refine s_iload_n X dX11_make_278 3 rfl ?_
      refine s_li X dX11_make_279 (fun x51 => ?_)
      refine s_callS (As := [zi x51]) (st := [zi x_4, zi x48, za ((some a0))]) X (c_X11_least l E x51) gX11_make_X11_least rfl hy_X11_least rfl rfl (Nat.le_of_ble_eq_true rfl) (by decide) dX11_make_280 (fun x52 M => ?_)
      refine s_aload_n X dX11_make_283 0 rfl ?_
      refine s_ga X (C := RX11) (T := TX11) (N := 32) rfl (by decide) hiX11 hl26 dX11_make_284 (fun r53 => ?_)
      refine s_iload_n X dX11_make_287 3 rfl ?_
      refine s_li X dX11_make_288 (fun x54 => ?_)
      refine s_if_ge X 297 dX11_make_289 (by decide) (fun h55 => ?_) (fun h55 => ?_)
      · refine s_aload_n X dX11_make_297 0 rfl ?_
        refine s_ga X (C := RX11) (T := TX11) (N := 32) rfl (by decide) hiX11 hl26 dX11_make_298 (fun r56 => ?_)
        refine s_iload_n X dX11_make_301 3 rfl ?_
        refine s_li X dX11_make_302 (fun x57 => ?_)
        refine s_callS (As := [zi x57]) (st := [zi x52, zi x_4, zi x48, za ((some a0))]) X (c_X11_least l E x57) gX11_make_X11_least rfl hy_X11_least rfl rfl (Nat.le_of_ble_eq_true rfl) (by decide) dX11_make_303 (fun x58 M => ?_)
        refine s_lv [(0, za ((some a0))), (1, zi x_1), (2, zi x_2), (3, zi x_3)] [0, 1, 2, 3] rfl ?_
        exact J306 x_1 x_2 x_3 ((some a0)) x48 x_4 x52 x58 _
      · refine s_bipush X 9 dX11_make_292 (by decide) ?_
        refine s_goto X 306 dX11_make_294 (by decide) ?_
        refine s_lv [(0, za ((some a0))), (1, zi x_1), (2, zi x_2), (3, zi x_3)] [0, 1, 2, 3] rfl ?_
        exact J306 x_1 x_2 x_3 ((some a0)) x48 x_4 x52 9 _
    have L162 : ∀ (n : Nat) (s : Int32 × Int32 × Int32 × Int32 × Int32) (M : zM), z_S p l e R s0 m args below meth c (z_Qm E below args s0 M0 z_rv fin) E 6 M0 fin M 162 [(0, za (some a0)), (1, zi s.1), (2, zi s.2.1), (3, zi s.2.2.1), (4, zi s.2.2.2.1), (5, zi s.2.2.2.2)] [] (F_X11_make_162 a0 (fun y0 y1 y2 => ih4_ (y0, y1, y2)) n s) := by
      refine s_fix ?_
      intro ih162_ hih162
      have J227 : ∀ (x_1 : Int32) (x_2 : Int32) (x_3 : Int32) (x_4 : Int32) (x_5 : Int32) (t_0 : Option Nat) (s_1 : Int32) (s_2 : Int32) (M : zM), z_S p l e R s0 m args below meth c (z_Qm E below args s0 M0 z_rv fin) E 6 M0 fin M 227 [(0, za ((some a0))), (1, zi x_1), (2, zi x_2), (3, zi x_3), (4, zi x_4), (5, zi x_5)] [zi s_2, zi s_1, za t_0] (F_X11_make_227 a0 (fun y0 y1 y2 => ih4_ (y0, y1, y2)) (fun y0 y1 y2 y3 y4 => ih162_ (y0, y1, y2, y3, y4)) x_1 x_2 x_3 x_4 x_5 t_0 s_1 s_2) := by
        intro x_1 x_2 x_3 x_4 x_5 t_0 s_1 s_2 M
        refine s_sb X dX11_make_227 (fun M => ?_)
        refine s_iinc X 1 dX11_make_228 5 rfl (by decide) (by decide) [(5, zi (x_5 + 1)), (0, za ((some a0))), (1, zi x_1), (2, zi x_2), (3, zi x_3), (4, zi x_4)] rfl ?_
        refine s_goto X 162 dX11_make_231 (by decide) ?_
        refine s_lv [(0, za ((some a0))), (1, zi x_1), (2, zi x_2), (3, zi x_3), (4, zi x_4), (5, zi (x_5 + 1))] [1, 2, 3, 4, 5, 0] rfl ?_
        exact hih162 (x_1, x_2, x_3, x_4, x_5 + 1) _
      have J222 : ∀ (x_1 : Int32) (x_2 : Int32) (x_3 : Int32) (x_4 : Int32) (x_5 : Int32) (t_0 : Option Nat) (s_1 : Int32) (M : zM), z_S p l e R s0 m args below meth c (z_Qm E below args s0 M0 z_rv fin) E 6 M0 fin M 222 [(0, za ((some a0))), (1, zi x_1), (2, zi x_2), (3, zi x_3), (4, zi x_4), (5, zi x_5)] [zi s_1, za t_0] (F_X11_make_222 a0 (fun y0 y1 y2 => ih4_ (y0, y1, y2)) (fun y0 y1 y2 y3 y4 => ih162_ (y0, y1, y2, y3, y4)) x_1 x_2 x_3 x_4 x_5 t_0 s_1) := by
        intro x_1 x_2 x_3 x_4 x_5 t_0 s_1 M
        refine s_iconst X 1 dX11_make_222 (by decide) ?_
        refine s_goto X 227 dX11_make_223 (by decide) ?_
        exact J227 x_1 x_2 x_3 x_4 x_5 t_0 s_1 1 _
      rintro ⟨x_1, x_2, x_3, x_4, x_5⟩ M
      refine s_iload X dX11_make_162 5 rfl ?_
      refine s_aload_n X dX11_make_164 0 rfl ?_
      refine s_gi X (C := RX11) (T := TX11) (N := 32) rfl (by decide) hiX11 hl94 dX11_make_165 (fun x60 => ?_)
      refine s_icmp_ge X 234 dX11_make_168 (by decide) (fun h61 => ?_) (fun h61 => ?_)
      · refine s_goto X 320 dX11_make_234 (by decide) ?_
        refine s_lv [(0, za ((some a0))), (1, zi x_1), (2, zi x_2), (3, zi x_3)] [0, 1, 2, 3] rfl ?_
        exact J320 x_1 x_2 x_3 _
      · refine s_aload_n X dX11_make_171 0 rfl ?_
        refine s_ga X (C := RX11) (T := TX11) (N := 32) rfl (by decide) hiX11 hl55 dX11_make_172 (fun r62 => ?_)
        refine s_iload X dX11_make_175 4 rfl ?_
        refine s_iload X dX11_make_177 5 rfl ?_
        refine s_iadd X dX11_make_179 ?_
        refine s_aload_n X dX11_make_180 0 rfl ?_
        refine s_ga X (C := RX11) (T := TX11) (N := 32) rfl (by decide) hiX11 hl55 dX11_make_181 (fun r63 => ?_)
        refine s_aload_n X dX11_make_184 0 rfl ?_
        refine s_aload_n X dX11_make_185 0 rfl ?_
        refine s_ga X (C := RX11) (T := TX11) (N := 32) rfl (by decide) hiX11 hl20 dX11_make_186 (fun r64 => ?_)
        refine s_iload_n X dX11_make_189 3 rfl ?_
        refine s_li X dX11_make_190 (fun x65 => ?_)
        refine s_callV (ci := 11) (C := RX11) (As := [zi x65]) (st := [za r63, zi (x_4 + x_5), za r62]) X (fun a => c_X11_row l E a x65) gX11_make_X11_row rfl hy_X11_row rfl rfl rfl rfl (Nat.le_of_ble_eq_true rfl) (by decide) dX11_make_191 (fun x66 M => ?_)
        refine s_iload X dX11_make_194 5 rfl ?_
        refine s_iadd X dX11_make_196 ?_
        refine s_lb X dX11_make_197 (fun x68 => ?_)
        refine s_if_ne X 222 dX11_make_198 (by decide) (fun h69 => ?_) (fun h69 => ?_)
        · exact J222 x_1 x_2 x_3 x_4 x_5 r62 (x_4 + x_5) _
        · refine s_aload_n X dX11_make_201 0 rfl ?_
          refine s_ga X (C := RX11) (T := TX11) (N := 32) rfl (by decide) hiX11 hl55 dX11_make_202 (fun r70 => ?_)
          refine s_aload_n X dX11_make_205 0 rfl ?_
          refine s_aload_n X dX11_make_206 0 rfl ?_
          refine s_ga X (C := RX11) (T := TX11) (N := 32) rfl (by decide) hiX11 hl23 dX11_make_207 (fun r71 => ?_)
          refine s_iload_n X dX11_make_210 3 rfl ?_
          refine s_li X dX11_make_211 (fun x72 => ?_)
          refine s_callV (ci := 11) (C := RX11) (As := [zi x72]) (st := [za r70, zi (x_4 + x_5), za r62]) X (fun a => c_X11_row l E a x72) gX11_make_X11_row rfl hy_X11_row rfl rfl rfl rfl (Nat.le_of_ble_eq_true rfl) (by decide) dX11_make_212 (fun x73 M => ?_)
          refine s_iload X dX11_make_215 5 rfl ?_
          refine s_iadd X dX11_make_217 ?_
          refine s_lb X dX11_make_218 (fun x75 => ?_)
          refine s_if_eq X 226 dX11_make_219 (by decide) (fun h76 => ?_) (fun h76 => ?_)
          · refine s_iconst X 0 dX11_make_226 (by decide) ?_
            exact J227 x_1 x_2 x_3 x_4 x_5 r62 (x_4 + x_5) 0 _
          · exact J222 x_1 x_2 x_3 x_4 x_5 r62 (x_4 + x_5) _
    have L41 : ∀ (n : Nat) (s : Int32 × Int32 × Int32 × Int32 × Int32) (M : zM), z_S p l e R s0 m args below meth c (z_Qm E below args s0 M0 z_rv fin) E 6 M0 fin M 41 [(0, za (some a0)), (1, zi s.1), (2, zi s.2.1), (3, zi s.2.2.1), (4, zi s.2.2.2.1), (5, zi s.2.2.2.2)] [] (F_X11_make_41 a0 (fun y0 y1 y2 => ih4_ (y0, y1, y2)) n s) := by
      refine s_fix ?_
      intro ih41_ hih41
      rintro ⟨x_1, x_2, x_3, x_4, x_5⟩ M
      refine s_iload X dX11_make_41 5 rfl ?_
      refine s_aload_n X dX11_make_43 0 rfl ?_
      refine s_gi X (C := RX11) (T := TX11) (N := 32) rfl (by decide) hiX11 hl94 dX11_make_44 (fun x8 => ?_)
      refine s_icmp_ge X 67 dX11_make_47 (by decide) (fun h9 => ?_) (fun h9 => ?_)
      · refine s_aload_n X dX11_make_67 0 rfl ?_
        refine s_ga X (C := RX11) (T := TX11) (N := 32) rfl (by decide) hiX11 hl17 dX11_make_68 (fun r10 => ?_)
        refine s_iload_n X dX11_make_71 3 rfl ?_
        refine s_li X dX11_make_72 (fun x11 => ?_)
        refine s_by (fun h12 => ?_) (fun h12 => ?_)
        · refine s_tabIn X 0 108 h12 dX11_make_73 (by decide) (by decide) (by decide) trivial ?_
          refine s_aload_n X dX11_make_108 0 rfl ?_
          refine s_ga X (C := RX11) (T := TX11) (N := 32) rfl (by decide) hiX11 hl55 dX11_make_109 (fun r13 => ?_)
          refine s_iload X dX11_make_112 4 rfl ?_
          refine s_aload_n X dX11_make_114 0 rfl ?_
          refine s_ga X (C := RX11) (T := TX11) (N := 32) rfl (by decide) hiX11 hl51 dX11_make_115 (fun r14 => ?_)
          refine s_aload_n X dX11_make_118 0 rfl ?_
          refine s_iload_n X dX11_make_119 3 rfl ?_
          refine s_callV (ci := 11) (C := RX11) (As := [zi x_3]) (st := [za r14, zi x_4, za r13]) X (fun a => c_X11_unit l E a x_3) gX11_make_X11_unit rfl hy_X11_unit rfl rfl rfl rfl (Nat.le_of_ble_eq_true rfl) (by decide) dX11_make_120 (fun x15 M => ?_)
          refine s_li X dX11_make_123 (fun x17 => ?_)
          refine s_iadd X dX11_make_124 ?_
          refine s_iconst X 1 dX11_make_125 (by decide) ?_
          refine s_sb X dX11_make_126 (fun M => ?_)
          refine s_goto X 320 dX11_make_127 (by decide) ?_
          refine s_lv [(0, za ((some a0))), (1, zi x_1), (2, zi x_2), (3, zi x_3)] [0, 1, 2, 3] rfl ?_
          exact J320 x_1 x_2 x_3 _
        · refine s_by (fun h18 => ?_) (fun h18 => ?_)
          · refine s_tabIn X 1 108 h18 dX11_make_73 (by decide) (by decide) (by decide) trivial ?_
            refine s_aload_n X dX11_make_108 0 rfl ?_
            refine s_ga X (C := RX11) (T := TX11) (N := 32) rfl (by decide) hiX11 hl55 dX11_make_109 (fun r19 => ?_)
            refine s_iload X dX11_make_112 4 rfl ?_
            refine s_aload_n X dX11_make_114 0 rfl ?_
            refine s_ga X (C := RX11) (T := TX11) (N := 32) rfl (by decide) hiX11 hl51 dX11_make_115 (fun r20 => ?_)
            refine s_aload_n X dX11_make_118 0 rfl ?_
            refine s_iload_n X dX11_make_119 3 rfl ?_
            refine s_callV (ci := 11) (C := RX11) (As := [zi x_3]) (st := [za r20, zi x_4, za r19]) X (fun a => c_X11_unit l E a x_3) gX11_make_X11_unit rfl hy_X11_unit rfl rfl rfl rfl (Nat.le_of_ble_eq_true rfl) (by decide) dX11_make_120 (fun x21 M => ?_)
            refine s_li X dX11_make_123 (fun x23 => ?_)
            refine s_iadd X dX11_make_124 ?_
            refine s_iconst X 1 dX11_make_125 (by decide) ?_
            refine s_sb X dX11_make_126 (fun M => ?_)
            refine s_goto X 320 dX11_make_127 (by decide) ?_
            refine s_lv [(0, za ((some a0))), (1, zi x_1), (2, zi x_2), (3, zi x_3)] [0, 1, 2, 3] rfl ?_
            exact J320 x_1 x_2 x_3 _
          · refine s_by (fun h24 => ?_) (fun h24 => ?_)
            · refine s_tabIn X 2 130 h24 dX11_make_73 (by decide) (by decide) (by decide) trivial ?_
              refine s_aload_n X dX11_make_130 0 rfl ?_
              refine s_aload_n X dX11_make_131 0 rfl ?_
              refine s_aload_n X dX11_make_132 0 rfl ?_
              refine s_ga X (C := RX11) (T := TX11) (N := 32) rfl (by decide) hiX11 hl20 dX11_make_133 (fun r25 => ?_)
              refine s_iload_n X dX11_make_136 3 rfl ?_
              refine s_li X dX11_make_137 (fun x26 => ?_)
              refine s_callV (ci := 11) (C := RX11) (As := [zi x26]) (st := [za ((some a0))]) X (fun a => c_X11_row l E a x26) gX11_make_X11_row rfl hy_X11_row rfl rfl rfl rfl (Nat.le_of_ble_eq_true rfl) (by decide) dX11_make_138 (fun x27 M => ?_)
              refine s_aload_n X dX11_make_141 0 rfl ?_
              refine s_aload_n X dX11_make_142 0 rfl ?_
              refine s_ga X (C := RX11) (T := TX11) (N := 32) rfl (by decide) hiX11 hl23 dX11_make_143 (fun r29 => ?_)
              refine s_iload_n X dX11_make_146 3 rfl ?_
              refine s_li X dX11_make_147 (fun x30 => ?_)
              refine s_callV (ci := 11) (C := RX11) (As := [zi x30]) (st := [zi x27, za ((some a0))]) X (fun a => c_X11_row l E a x30) gX11_make_X11_row rfl hy_X11_row rfl rfl rfl rfl (Nat.le_of_ble_eq_true rfl) (by decide) dX11_make_148 (fun x31 M => ?_)
              refine s_iload X dX11_make_151 4 rfl ?_
              refine s_callV (ci := 11) (C := RX11) (As := [zi x27, zi x31, zi x_4]) (st := []) X (fun a => c_X11_together l E a x27 x31 x_4) gX11_make_X11_together rfl hy_X11_together rfl rfl rfl rfl (Nat.le_of_ble_eq_true rfl) (by decide) dX11_make_153 (fun _ M => ?_)
              refine s_goto X 320 dX11_make_156 (by decide) ?_
              refine s_lv [(0, za ((some a0))), (1, zi x_1), (2, zi x_2), (3, zi x_3)] [0, 1, 2, 3] rfl ?_
              exact J320 x_1 x_2 x_3 _
            · refine s_by (fun h34 => ?_) (fun h34 => ?_)
              · refine s_tabIn X 3 159 h34 dX11_make_73 (by decide) (by decide) (by decide) trivial ?_
                refine s_iconst X 0 dX11_make_159 (by decide) ?_
                refine s_istore X dX11_make_160 (by decide) [(5, zi (0)), (0, za ((some a0))), (1, zi x_1), (2, zi x_2), (3, zi x_3), (4, zi x_4)] rfl ?_
                refine s_lv [(0, za ((some a0))), (1, zi x_1), (2, zi x_2), (3, zi x_3), (4, zi x_4), (5, zi (0))] [1, 2, 3, 4, 5, 0] rfl ?_
                exact L162 z_N (x_1, x_2, x_3, x_4, 0) _
              · refine s_by (fun h35 => ?_) (fun h35 => ?_)
                · refine s_tabIn X 4 237 h35 dX11_make_73 (by decide) (by decide) (by decide) trivial ?_
                  refine s_aload_n X dX11_make_237 0 rfl ?_
                  refine s_ga X (C := RX11) (T := TX11) (N := 32) rfl (by decide) hiX11 hl26 dX11_make_238 (fun r36 => ?_)
                  refine s_iload_n X dX11_make_241 3 rfl ?_
                  refine s_li X dX11_make_242 (fun x37 => ?_)
                  refine s_if_lt X 261 dX11_make_243 (by decide) (fun h38 => ?_) (fun h38 => ?_)
                  · refine s_lv [(0, za ((some a0))), (1, zi x_1), (2, zi x_2), (3, zi x_3), (4, zi x_4)] [0, 1, 2, 3, 4] rfl ?_
                    exact J261 x_1 x_2 x_3 x_4 _
                  · refine s_aload_n X dX11_make_246 0 rfl ?_
                    refine s_ga X (C := RX11) (T := TX11) (N := 32) rfl (by decide) hiX11 hl26 dX11_make_247 (fun r39 => ?_)
                    refine s_iload_n X dX11_make_250 3 rfl ?_
                    refine s_li X dX11_make_251 (fun x40 => ?_)
                    refine s_aload_n X dX11_make_252 0 rfl ?_
                    refine s_ga X (C := RX11) (T := TX11) (N := 32) rfl (by decide) hiX11 hl23 dX11_make_253 (fun r41 => ?_)
                    refine s_iload_n X dX11_make_256 3 rfl ?_
                    refine s_li X dX11_make_257 (fun x42 => ?_)
                    refine s_icmp_lt X 320 dX11_make_258 (by decide) (fun h43 => ?_) (fun h43 => ?_)
                    · refine s_lv [(0, za ((some a0))), (1, zi x_1), (2, zi x_2), (3, zi x_3)] [0, 1, 2, 3] rfl ?_
                      exact J320 x_1 x_2 x_3 _
                    · refine s_lv [(0, za ((some a0))), (1, zi x_1), (2, zi x_2), (3, zi x_3), (4, zi x_4)] [0, 1, 2, 3, 4] rfl ?_
                      exact J261 x_1 x_2 x_3 x_4 _
                · refine s_tabOut X 312 dX11_make_73 (by have := lv_neT h12 (show (0 : Int32).toInt = 0 by decide); have := lv_neT h18 (show (1 : Int32).toInt = 1 by decide); have := lv_neT h24 (show (2 : Int32).toInt = 2 by decide); have := lv_neT h34 (show (3 : Int32).toInt = 3 by decide); have := lv_neT h35 (show (4 : Int32).toInt = 4 by decide); omega) (by decide) ?_
                  refine s_aload_n X dX11_make_312 0 rfl ?_
                  refine s_ga X (C := RX11) (T := TX11) (N := 32) rfl (by decide) hiX11 hl55 dX11_make_313 (fun r44 => ?_)
                  refine s_iload X dX11_make_316 4 rfl ?_
                  refine s_iconst X 1 dX11_make_318 (by decide) ?_
                  refine s_sb X dX11_make_319 (fun M => ?_)
                  refine s_lv [(0, za ((some a0))), (1, zi x_1), (2, zi x_2), (3, zi x_3)] [0, 1, 2, 3] rfl ?_
                  exact J320 x_1 x_2 x_3 _
      · refine s_aload_n X dX11_make_50 0 rfl ?_
        refine s_ga X (C := RX11) (T := TX11) (N := 32) rfl (by decide) hiX11 hl55 dX11_make_51 (fun r45 => ?_)
        refine s_iload X dX11_make_54 4 rfl ?_
        refine s_iload X dX11_make_56 5 rfl ?_
        refine s_iadd X dX11_make_58 ?_
        refine s_iconst X 0 dX11_make_59 (by decide) ?_
        refine s_sb X dX11_make_60 (fun M => ?_)
        refine s_iinc X 1 dX11_make_61 5 rfl (by decide) (by decide) [(5, zi (x_5 + 1)), (0, za ((some a0))), (1, zi x_1), (2, zi x_2), (3, zi x_3), (4, zi x_4)] rfl ?_
        refine s_goto X 41 dX11_make_64 (by decide) ?_
        refine s_lv [(0, za ((some a0))), (1, zi x_1), (2, zi x_2), (3, zi x_3), (4, zi x_4), (5, zi (x_5 + 1))] [1, 2, 3, 4, 5, 0] rfl ?_
        exact hih41 (x_1, x_2, x_3, x_4, x_5 + 1) _
    rintro ⟨x_1, x_2, x_3⟩ M
    refine s_iload_n X dX11_make_4 3 rfl ?_
    refine s_iload_n X dX11_make_5 1 rfl ?_
    refine s_icmp_gt X 326 dX11_make_6 (by decide) (fun h1 => ?_) (fun h1 => ?_)
    · exact s_retv X hr dX11_make_326
    · refine s_aload_n X dX11_make_9 0 rfl ?_
      refine s_ga X (C := RX11) (T := TX11) (N := 32) rfl (by decide) hiX11 hl59 dX11_make_10 (fun r2 => ?_)
      refine s_iload_n X dX11_make_13 3 rfl ?_
      refine s_lb X dX11_make_14 (fun x3 => ?_)
      refine s_if_ne X 21 dX11_make_15 (by decide) (fun h4 => ?_) (fun h4 => ?_)
      · refine s_aload_n X dX11_make_21 0 rfl ?_
        refine s_ga X (C := RX11) (T := TX11) (N := 32) rfl (by decide) hiX11 hl68 dX11_make_22 (fun r5 => ?_)
        refine s_iload_n X dX11_make_25 3 rfl ?_
        refine s_iload_n X dX11_make_26 2 rfl ?_
        refine s_si X dX11_make_27 (fun M => ?_)
        refine s_iinc X 1 dX11_make_28 2 rfl (by decide) (by decide) [(2, zi (x_2 + 1)), (0, za ((some a0))), (1, zi x_1), (3, zi x_3)] rfl ?_
        refine s_aload_n X dX11_make_31 1 rfl ?_
        refine s_iload_n X dX11_make_32 3 rfl ?_
        refine s_callV (ci := 11) (C := RX11) (As := [zi x_3]) (st := []) X (fun a => c_X11_row l E a x_3) gX11_make_X11_row rfl hy_X11_row rfl rfl rfl rfl (Nat.le_of_ble_eq_true rfl) (by decide) dX11_make_33 (fun x6 M => ?_)
        refine s_istore X dX11_make_36 (by decide) [(4, zi x6), (2, zi (x_2 + 1)), (0, za ((some a0))), (1, zi x_1), (3, zi x_3)] rfl ?_
        refine s_iconst X 0 dX11_make_38 (by decide) ?_
        refine s_istore X dX11_make_39 (by decide) [(5, zi (0)), (4, zi x6), (2, zi (x_2 + 1)), (0, za ((some a0))), (1, zi x_1), (3, zi x_3)] rfl ?_
        refine s_lv [(0, za ((some a0))), (1, zi x_1), (2, zi (x_2 + 1)), (3, zi x_3), (4, zi x6), (5, zi (0))] [3, 4, 2, 5, 1, 0] rfl ?_
        exact L41 z_N (x_1, x_2 + 1, x_3, x6, 0) _
      · refine s_goto X 320 dX11_make_18 (by decide) ?_
        exact J320 x_1 x_2 x_3 _
  refine s_iconst X 0 dX11_make_0 (by decide) ?_
  refine s_istore_n X dX11_make_1 (by decide) [(2, zi (0)), (0, za ((some a0))), (1, zi p0)] rfl ?_
  refine s_iconst X 0 dX11_make_2 (by decide) ?_
  refine s_istore_n X dX11_make_3 (by decide) [(3, zi (0)), (2, zi (0)), (0, za ((some a0))), (1, zi p0)] rfl ?_
  refine s_lv [(0, za ((some a0))), (1, zi p0), (2, zi (0)), (3, zi (0))] [2, 3, 1, 0] rfl ?_
  exact L4 z_N (p0, 0, 0) _
theorem hy_X11_root : yX11_root.cls = RX11 ∧ yX11_root.cls ≠ "java/lang/invoke/MethodHandle" ∧ yX11_root.cls ≠ "java/lang/invoke/VarHandle" ∧ (parseMethodDescriptor yX11_root.desc).map (fun d => d.parameters.length) = some 1 := by decide +kernel
set_option maxHeartbeats 4000000 in
set_option maxRecDepth 100000 in
theorem c_X11_root (l : Launch) (E : zE) (a0 : Nat) (p0 : Int32) : z_Met l E yX11_root wsX11_root 2 52 [za ((some a0)), zi p0] z_rv (F_X11_root a0 p0) := by
  refine z_of (own := RX11) (cc := cX11_root) (maxL := 3) (rt := none) rfl (by decide) rfl (Nat.le_of_ble_eq_true rfl) ?_
  intro p e R s0 m args below meth c M0 fin X hr hnm
  have hiX11 : ∀ w ∈ u_ws RX11 TX11 32, w ∈ wsX11_root := by decide +kernel
  have hl94 : Cond.fieldLink RX11 94 (TX11 16).1 (TX11 16).2.1 (TX11 16).2.2.1 ∈ wsX11_root := by decide +kernel
  have hl81 : Cond.fieldLink RX11 81 (TX11 28).1 (TX11 28).2.1 (TX11 28).2.2.1 ∈ wsX11_root := by decide +kernel
  have hl78 : Cond.fieldLink RX11 78 (TX11 27).1 (TX11 27).2.1 (TX11 27).2.2.1 ∈ wsX11_root := by decide +kernel
  have hl55 : Cond.fieldLink RX11 55 (TX11 18).1 (TX11 18).2.1 (TX11 18).2.2.1 ∈ wsX11_root := by decide +kernel
  have L7 : ∀ (n : Nat) (s : Int32 × Int32) (M : zM), z_S p l e R s0 m args below meth c (z_Qm E below args s0 M0 z_rv fin) E 3 M0 fin M 7 [(0, za (some a0)), (1, zi s.1), (2, zi s.2)] [] (F_X11_root_7 a0 n s) := by
    refine s_fix ?_
    intro ih7_ hih7
    rintro ⟨x_1, x_2⟩ M
    refine s_iload_n X dX11_root_7 2 rfl ?_
    refine s_aload_n X dX11_root_8 0 rfl ?_
    refine s_gi X (C := RX11) (T := TX11) (N := 32) rfl (by decide) hiX11 hl94 dX11_root_9 (fun x2 => ?_)
    refine s_icmp_ge X 45 dX11_root_12 (by decide) (fun h3 => ?_) (fun h3 => ?_)
    · refine s_aload_n X dX11_root_45 0 rfl ?_
      refine s_ga X (C := RX11) (T := TX11) (N := 32) rfl (by decide) hiX11 hl81 dX11_root_46 (fun r4 => ?_)
      refine s_iload_n X dX11_root_49 1 rfl ?_
      refine s_iconst X 1 dX11_root_50 (by decide) ?_
      refine s_sb X dX11_root_51 (fun M => ?_)
      exact s_retv X hr dX11_root_52
    · refine s_aload_n X dX11_root_15 0 rfl ?_
      refine s_ga X (C := RX11) (T := TX11) (N := 32) rfl (by decide) hiX11 hl78 dX11_root_16 (fun r5 => ?_)
      refine s_sipush X 1300 dX11_root_19 (by decide) ?_
      refine s_iload_n X dX11_root_22 1 rfl ?_
      refine s_imul X dX11_root_23 ?_
      refine s_iload_n X dX11_root_24 2 rfl ?_
      refine s_iadd X dX11_root_25 ?_
      refine s_aload_n X dX11_root_26 0 rfl ?_
      refine s_ga X (C := RX11) (T := TX11) (N := 32) rfl (by decide) hiX11 hl55 dX11_root_27 (fun r6 => ?_)
      refine s_aload_n X dX11_root_30 0 rfl ?_
      refine s_iload_n X dX11_root_31 1 rfl ?_
      refine s_callV (ci := 11) (C := RX11) (As := [zi x_1]) (st := [za r6, zi ((1300 * x_1) + x_2), za r5]) X (fun a => c_X11_row l E a x_1) gX11_root_X11_row rfl hy_X11_row rfl rfl rfl rfl (Nat.le_of_ble_eq_true rfl) (by decide) dX11_root_32 (fun x7 M => ?_)
      refine s_iload_n X dX11_root_35 2 rfl ?_
      refine s_iadd X dX11_root_36 ?_
      refine s_lb X dX11_root_37 (fun x9 => ?_)
      refine s_sb X dX11_root_38 (fun M => ?_)
      refine s_iinc X 1 dX11_root_39 2 rfl (by decide) (by decide) [(2, zi (x_2 + 1)), (0, za ((some a0))), (1, zi x_1)] rfl ?_
      refine s_goto X 7 dX11_root_42 (by decide) ?_
      refine s_lv [(0, za ((some a0))), (1, zi x_1), (2, zi (x_2 + 1))] [1, 2, 0] rfl ?_
      exact hih7 (x_1, x_2 + 1) _
  refine s_aload_n X dX11_root_0 0 rfl ?_
  refine s_iload_n X dX11_root_1 1 rfl ?_
  refine s_callV (ci := 11) (C := RX11) (As := [zi p0]) (st := []) X (fun a => c_X11_make l E a p0) gX11_root_X11_make rfl hy_X11_make rfl rfl rfl rfl (Nat.le_of_ble_eq_true rfl) (by decide) dX11_root_2 (fun _ M => ?_)
  refine s_iconst X 0 dX11_root_5 (by decide) ?_
  refine s_istore_n X dX11_root_6 (by decide) [(2, zi (0)), (0, za ((some a0))), (1, zi p0)] rfl ?_
  refine s_lv [(0, za ((some a0))), (1, zi p0), (2, zi (0))] [1, 2, 0] rfl ?_
  exact L7 z_N (p0, 0) _
theorem hy_X11_weigh : yX11_weigh.cls = RX11 ∧ yX11_weigh.cls ≠ "java/lang/invoke/MethodHandle" ∧ yX11_weigh.cls ≠ "java/lang/invoke/VarHandle" ∧ (parseMethodDescriptor yX11_weigh.desc).map (fun d => d.parameters.length) = some 2 := by decide +kernel
set_option maxHeartbeats 4000000 in
set_option maxRecDepth 100000 in
theorem c_X11_weigh (l : Launch) (E : zE) (a0 : Nat) (p0 : Int32) (p1 : Int32) : z_Met l E yX11_weigh wsX11_weigh 3 74 [za ((some a0)), zi p0, zi p1] z_rl (F_X11_weigh a0 p0 p1) := by
  refine z_of (own := RX11) (cc := cX11_weigh) (maxL := 6) (rt := (some .long)) rfl (by decide) rfl (Nat.le_of_ble_eq_true rfl) ?_
  intro p e R s0 m args below meth c M0 fin X hr hnm
  have hiX11 : ∀ w ∈ u_ws RX11 TX11 32, w ∈ wsX11_weigh := by decide +kernel
  have hl32 : Cond.fieldLink RX11 32 (TX11 8).1 (TX11 8).2.1 (TX11 8).2.2.1 ∈ wsX11_weigh := by decide +kernel
  have hl81 : Cond.fieldLink RX11 81 (TX11 28).1 (TX11 28).2.1 (TX11 28).2.2.1 ∈ wsX11_weigh := by decide +kernel
  have hl94 : Cond.fieldLink RX11 94 (TX11 16).1 (TX11 16).2.1 (TX11 16).2.2.1 ∈ wsX11_weigh := by decide +kernel
  have hl84 : Cond.fieldLink RX11 84 (TX11 29).1 (TX11 29).2.1 (TX11 29).2.2.1 ∈ wsX11_weigh := by decide +kernel
  have hl100 : Cond.fieldLink RX11 100 (TX11 1).1 (TX11 1).2.1 (TX11 1).2.2.1 ∈ wsX11_weigh := by decide +kernel
  have hl13 : Cond.fieldLink RX11 13 (TX11 0).1 (TX11 0).2.1 (TX11 0).2.2.1 ∈ wsX11_weigh := by decide +kernel
  have hl78 : Cond.fieldLink RX11 78 (TX11 27).1 (TX11 27).2.1 (TX11 27).2.2.1 ∈ wsX11_weigh := by decide +kernel
  have L149 : ∀ (n : Nat) (s : Int32 × Int64 × Int32) (M : zM), z_S p l e R s0 m args below meth c (z_Qm E below args s0 M0 z_rl fin) E 6 M0 fin M 149 [(0, za (some a0)), (2, zi s.1), (3, zl s.2.1), (5, zi s.2.2)] [] (F_X11_weigh_149 a0 n s) := by
    refine s_fix ?_
    intro ih149_ hih149
    have J191 : ∀ (x_2 : Int32) (x_5 : Int32) (u_0 : Int64) (u_1 : Int64) (M : zM), z_S p l e R s0 m args below meth c (z_Qm E below args s0 M0 z_rl fin) E 6 M0 fin M 191 [(0, za ((some a0))), (2, zi x_2), (5, zi x_5)] [zl u_1, zl u_0] (F_X11_weigh_191 a0 (fun y0 y1 y2 => ih149_ (y0, y1, y2)) x_2 x_5 u_0 u_1) := by
      intro x_2 x_5 u_0 u_1 M
      refine s_ladd X dX11_weigh_191 ?_
      refine s_letl (fun w36 => ?_)
      refine s_lstore_n X dX11_weigh_192 (by decide) [(3, zl w36), (0, za ((some a0))), (2, zi x_2), (5, zi x_5)] rfl ?_
      refine s_iinc X 1 dX11_weigh_193 3 rfl (by decide) (by decide) [(5, zi (x_5 + 1)), (3, zl w36), (0, za ((some a0))), (2, zi x_2)] rfl ?_
      refine s_goto X 149 dX11_weigh_196 (by decide) ?_
      refine s_lv [(0, za ((some a0))), (2, zi x_2), (3, zl w36), (5, zi (x_5 + 1))] [2, 3, 1, 0] rfl ?_
      exact hih149 (x_2, w36, x_5 + 1) _
    rintro ⟨x_2, w_3, x_5⟩ M
    refine s_iload X dX11_weigh_149 3 rfl ?_
    refine s_aload_n X dX11_weigh_151 0 rfl ?_
    refine s_gi X (C := RX11) (T := TX11) (N := 32) rfl (by decide) hiX11 hl94 dX11_weigh_152 (fun x27 => ?_)
    refine s_icmp_ge X 199 dX11_weigh_155 (by decide) (fun h28 => ?_) (fun h28 => ?_)
    · refine s_lload_n X dX11_weigh_199 2 rfl ?_
      exact s_retl X hr dX11_weigh_200
    · refine s_lload_n X dX11_weigh_158 2 rfl ?_
      refine s_aload_n X dX11_weigh_159 0 rfl ?_
      refine s_ga X (C := RX11) (T := TX11) (N := 32) rfl (by decide) hiX11 hl78 dX11_weigh_160 (fun r29 => ?_)
      refine s_sipush X 1300 dX11_weigh_163 (by decide) ?_
      refine s_aload_n X dX11_weigh_166 0 rfl ?_
      refine s_ga X (C := RX11) (T := TX11) (N := 32) rfl (by decide) hiX11 hl32 dX11_weigh_167 (fun r30 => ?_)
      refine s_iload_n X dX11_weigh_170 1 rfl ?_
      refine s_li X dX11_weigh_171 (fun x31 => ?_)
      refine s_imul X dX11_weigh_172 ?_
      refine s_iload X dX11_weigh_173 3 rfl ?_
      refine s_iadd X dX11_weigh_175 ?_
      refine s_lb X dX11_weigh_176 (fun x32 => ?_)
      refine s_if_eq X 190 dX11_weigh_177 (by decide) (fun h33 => ?_) (fun h33 => ?_)
      · refine s_lconst X 0 dX11_weigh_190 (by decide) ?_
        refine s_lv [(0, za ((some a0))), (2, zi x_2), (5, zi x_5)] [0, 1, 3] rfl ?_
        exact J191 x_2 x_5 w_3 0 _
      · refine s_aload_n X dX11_weigh_180 0 rfl ?_
        refine s_ga X (C := RX11) (T := TX11) (N := 32) rfl (by decide) hiX11 hl84 dX11_weigh_181 (fun r34 => ?_)
        refine s_iload X dX11_weigh_184 3 rfl ?_
        refine s_ll X dX11_weigh_186 (fun w35 => ?_)
        refine s_goto X 191 dX11_weigh_187 (by decide) ?_
        refine s_lv [(0, za ((some a0))), (2, zi x_2), (5, zi x_5)] [0, 1, 3] rfl ?_
        exact J191 x_2 x_5 w_3 w35 _
  have L67 : ∀ (n : Nat) (s : Int32 × Int32 × Int32) (M : zM), z_S p l e R s0 m args below meth c (z_Qm E below args s0 M0 z_rl fin) E 6 M0 fin M 67 [(0, za (some a0)), (1, zi s.1), (2, zi s.2.1), (3, zi s.2.2)] [] (F_X11_weigh_67 a0 n s) := by
    refine s_fix ?_
    intro ih67_ hih67
    have J138 : ∀ (x_1 : Int32) (x_2 : Int32) (x_3 : Int32) (M : zM), z_S p l e R s0 m args below meth c (z_Qm E below args s0 M0 z_rl fin) E 6 M0 fin M 138 [(0, za ((some a0))), (1, zi x_1), (2, zi x_2), (3, zi x_3)] [] (F_X11_weigh_138 a0 (fun y0 y1 y2 => ih67_ (y0, y1, y2)) x_1 x_2 x_3) := by
      intro x_1 x_2 x_3 M
      refine s_iinc X 1 dX11_weigh_138 3 rfl (by decide) (by decide) [(3, zi (x_3 + 1)), (0, za ((some a0))), (1, zi x_1), (2, zi x_2)] rfl ?_
      refine s_goto X 67 dX11_weigh_141 (by decide) ?_
      refine s_lv [(0, za ((some a0))), (1, zi x_1), (2, zi x_2), (3, zi (x_3 + 1))] [1, 2, 3, 0] rfl ?_
      exact hih67 (x_1, x_2, x_3 + 1) _
    have J109 : ∀ (x_1 : Int32) (x_2 : Int32) (x_3 : Int32) (x_4 : Int32) (t_0 : Option Nat) (s_1 : Int32) (s_2 : Int32) (M : zM), z_S p l e R s0 m args below meth c (z_Qm E below args s0 M0 z_rl fin) E 6 M0 fin M 109 [(0, za ((some a0))), (1, zi x_1), (2, zi x_2), (3, zi x_3), (4, zi x_4)] [zi s_2, zi s_1, za t_0] (F_X11_weigh_109 a0 (fun y0 y1 y2 => ih67_ (y0, y1, y2)) x_1 x_2 x_3 x_4 t_0 s_1 s_2) := by
      intro x_1 x_2 x_3 x_4 t_0 s_1 s_2 M
      refine s_iadd X dX11_weigh_109 ?_
      refine s_li X dX11_weigh_110 (fun x21 => ?_)
      refine s_iload_n X dX11_weigh_111 1 rfl ?_
      refine s_icmp_ne X 138 dX11_weigh_112 (by decide) (fun h22 => ?_) (fun h22 => ?_)
      · refine s_lv [(0, za ((some a0))), (1, zi x_1), (2, zi x_2), (3, zi x_3)] [0, 1, 2, 3] rfl ?_
        exact J138 x_1 x_2 x_3 _
      · refine s_aload_n X dX11_weigh_115 0 rfl ?_
        refine s_iload_n X dX11_weigh_116 2 rfl ?_
        refine s_iload_n X dX11_weigh_117 3 rfl ?_
        refine s_iconst X 2 dX11_weigh_118 (by decide) ?_
        refine s_idiv X dX11_weigh_119 (by decide) ?_
        refine s_iload X dX11_weigh_120 4 rfl ?_
        refine s_callV (ci := 11) (C := RX11) (As := [zi x_2, zi (x_3 / 2), zi x_4]) (st := []) X (fun a => c_X11_concerns l E a x_2 (x_3 / 2) x_4) gX11_weigh_X11_concerns rfl hy_X11_concerns rfl rfl rfl rfl (Nat.le_of_ble_eq_true rfl) (by decide) dX11_weigh_122 (fun x23 M => ?_)
        refine s_if_eq X 138 dX11_weigh_125 (by decide) (fun h25 => ?_) (fun h25 => ?_)
        · refine s_lv [(0, za ((some a0))), (1, zi x_1), (2, zi x_2), (3, zi x_3)] [0, 1, 2, 3] rfl ?_
          exact J138 x_1 x_2 x_3 _
        · refine s_aload_n X dX11_weigh_128 0 rfl ?_
          refine s_iload_n X dX11_weigh_129 2 rfl ?_
          refine s_iload_n X dX11_weigh_130 3 rfl ?_
          refine s_iconst X 2 dX11_weigh_131 (by decide) ?_
          refine s_idiv X dX11_weigh_132 (by decide) ?_
          refine s_iload X dX11_weigh_133 4 rfl ?_
          refine s_callV (ci := 11) (C := RX11) (As := [zi x_2, zi (x_3 / 2), zi x_4]) (st := []) X (fun a => c_X11_giveOut l E a x_2 (x_3 / 2) x_4) gX11_weigh_X11_giveOut rfl hy_X11_giveOut rfl rfl rfl rfl (Nat.le_of_ble_eq_true rfl) (by decide) dX11_weigh_135 (fun _ M => ?_)
          refine s_lv [(0, za ((some a0))), (1, zi x_1), (2, zi x_2), (3, zi x_3)] [0, 1, 2, 3] rfl ?_
          exact J138 x_1 x_2 x_3 _
    have J88 : ∀ (x_1 : Int32) (x_2 : Int32) (x_3 : Int32) (s_0 : Int32) (M : zM), z_S p l e R s0 m args below meth c (z_Qm E below args s0 M0 z_rl fin) E 6 M0 fin M 88 [(0, za ((some a0))), (1, zi x_1), (2, zi x_2), (3, zi x_3)] [zi s_0] (F_X11_weigh_88 a0 (fun y0 y1 y2 => ih67_ (y0, y1, y2)) x_1 x_2 x_3 s_0) := by
      intro x_1 x_2 x_3 s_0 M
      refine s_istore X dX11_weigh_88 (by decide) [(4, zi s_0), (0, za ((some a0))), (1, zi x_1), (2, zi x_2), (3, zi x_3)] rfl ?_
      refine s_aload_n X dX11_weigh_90 1 rfl ?_
      refine s_ga X (C := RX11) (T := TX11) (N := 32) rfl (by decide) hiX11 hl13 dX11_weigh_91 (fun r19 => ?_)
      refine s_iconst X 3 dX11_weigh_94 (by decide) ?_
      refine s_iload_n X dX11_weigh_95 4 rfl ?_
      refine s_iconst X 2 dX11_weigh_96 (by decide) ?_
      refine s_idiv X dX11_weigh_97 (by decide) ?_
      refine s_imul X dX11_weigh_98 ?_
      refine s_iload X dX11_weigh_99 0 rfl ?_
      refine s_if_eq X 108 dX11_weigh_101 (by decide) (fun h20 => ?_) (fun h20 => ?_)
      · refine s_iconst X 2 dX11_weigh_108 (by decide) ?_
        refine s_lv [(0, za ((some a0))), (1, zi x_1), (2, zi x_2), (3, zi x_3), (4, zi s_0)] [1, 2, 3, 4, 0] rfl ?_
        exact J109 x_1 x_2 x_3 s_0 r19 (3 * (x_3 / 2)) 2 _
      · refine s_iconst X 0 dX11_weigh_104 (by decide) ?_
        refine s_goto X 109 dX11_weigh_105 (by decide) ?_
        refine s_lv [(0, za ((some a0))), (1, zi x_1), (2, zi x_2), (3, zi x_3), (4, zi s_0)] [1, 2, 3, 4, 0] rfl ?_
        exact J109 x_1 x_2 x_3 s_0 r19 (3 * (x_3 / 2)) 0 _
    rintro ⟨x_1, x_2, x_3⟩ M
    refine s_iload_n X dX11_weigh_67 3 rfl ?_
    refine s_iconst X 2 dX11_weigh_68 (by decide) ?_
    refine s_aload_n X dX11_weigh_69 0 rfl ?_
    refine s_gi X (C := RX11) (T := TX11) (N := 32) rfl (by decide) hiX11 hl100 dX11_weigh_70 (fun x16 => ?_)
    refine s_imul X dX11_weigh_73 ?_
    refine s_icmp_ge X 144 dX11_weigh_74 (by decide) (fun h17 => ?_) (fun h17 => ?_)
    · refine s_lconst X 0 dX11_weigh_144 (by decide) ?_
      refine s_lstore_n X dX11_weigh_145 (by decide) [(3, zl (0)), (0, za ((some a0))), (1, zi x_1), (2, zi x_2)] rfl ?_
      refine s_iconst X 0 dX11_weigh_146 (by decide) ?_
      refine s_istore X dX11_weigh_147 (by decide) [(5, zi (0)), (3, zl (0)), (0, za ((some a0))), (1, zi x_1), (2, zi x_2)] rfl ?_
      refine s_lv [(0, za ((some a0))), (2, zi x_2), (3, zl (0)), (5, zi (0))] [2, 4, 1, 0] rfl ?_
      exact L149 z_N (x_2, 0, 0) _
    · refine s_iload_n X dX11_weigh_77 3 rfl ?_
      refine s_iconst X 2 dX11_weigh_78 (by decide) ?_
      refine s_irem X dX11_weigh_79 (by decide) ?_
      refine s_if_ne X 87 dX11_weigh_80 (by decide) (fun h18 => ?_) (fun h18 => ?_)
      · refine s_iconst X 0 dX11_weigh_87 (by decide) ?_
        exact J88 x_1 x_2 x_3 0 _
      · refine s_iconst X 1 dX11_weigh_83 (by decide) ?_
        refine s_goto X 88 dX11_weigh_84 (by decide) ?_
        exact J88 x_1 x_2 x_3 1 _
  have L36 : ∀ (n : Nat) (s : Int32 × Int32 × Int32) (M : zM), z_S p l e R s0 m args below meth c (z_Qm E below args s0 M0 z_rl fin) E 6 M0 fin M 36 [(0, za (some a0)), (1, zi s.1), (2, zi s.2.1), (3, zi s.2.2)] [] (F_X11_weigh_36 a0 n s) := by
    refine s_fix ?_
    intro ih36_ hih36
    have J58 : ∀ (x_1 : Int32) (x_2 : Int32) (x_3 : Int32) (t_0 : Option Nat) (s_1 : Int32) (u_2 : Int64) (M : zM), z_S p l e R s0 m args below meth c (z_Qm E below args s0 M0 z_rl fin) E 6 M0 fin M 58 [(0, za ((some a0))), (1, zi x_1), (2, zi x_2), (3, zi x_3)] [zl u_2, zi s_1, za t_0] (F_X11_weigh_58 a0 (fun y0 y1 y2 => ih36_ (y0, y1, y2)) x_1 x_2 x_3 t_0 s_1 u_2) := by
      intro x_1 x_2 x_3 t_0 s_1 u_2 M
      refine s_sl X dX11_weigh_58 (fun M => ?_)
      refine s_iinc X 1 dX11_weigh_59 3 rfl (by decide) (by decide) [(3, zi (x_3 + 1)), (0, za ((some a0))), (1, zi x_1), (2, zi x_2)] rfl ?_
      refine s_goto X 36 dX11_weigh_62 (by decide) ?_
      refine s_lv [(0, za ((some a0))), (1, zi x_1), (2, zi x_2), (3, zi (x_3 + 1))] [1, 2, 3, 0] rfl ?_
      exact hih36 (x_1, x_2, x_3 + 1) _
    rintro ⟨x_1, x_2, x_3⟩ M
    refine s_iload_n X dX11_weigh_36 3 rfl ?_
    refine s_aload_n X dX11_weigh_37 0 rfl ?_
    refine s_gi X (C := RX11) (T := TX11) (N := 32) rfl (by decide) hiX11 hl94 dX11_weigh_38 (fun x12 => ?_)
    refine s_icmp_ge X 65 dX11_weigh_41 (by decide) (fun h13 => ?_) (fun h13 => ?_)
    · refine s_iconst X 0 dX11_weigh_65 (by decide) ?_
      refine s_istore_n X dX11_weigh_66 (by decide) [(3, zi (0)), (0, za ((some a0))), (1, zi x_1), (2, zi x_2)] rfl ?_
      refine s_lv [(0, za ((some a0))), (1, zi x_1), (2, zi x_2), (3, zi (0))] [1, 2, 3, 0] rfl ?_
      exact L67 z_N (x_1, x_2, 0) _
    · refine s_aload_n X dX11_weigh_44 0 rfl ?_
      refine s_ga X (C := RX11) (T := TX11) (N := 32) rfl (by decide) hiX11 hl84 dX11_weigh_45 (fun r14 => ?_)
      refine s_iload_n X dX11_weigh_48 3 rfl ?_
      refine s_iload_n X dX11_weigh_49 3 rfl ?_
      refine s_if_ne X 57 dX11_weigh_50 (by decide) (fun h15 => ?_) (fun h15 => ?_)
      · refine s_lconst X 0 dX11_weigh_57 (by decide) ?_
        exact J58 x_1 x_2 x_3 r14 x_3 0 _
      · refine s_lconst X 1 dX11_weigh_53 (by decide) ?_
        refine s_goto X 58 dX11_weigh_54 (by decide) ?_
        exact J58 x_1 x_2 x_3 r14 x_3 1 _
  have J34 : ∀ (x_1 : Int32) (x_2 : Int32) (M : zM), z_S p l e R s0 m args below meth c (z_Qm E below args s0 M0 z_rl fin) E 6 M0 fin M 34 [(0, za ((some a0))), (1, zi x_1), (2, zi x_2)] [] (F_X11_weigh_34 a0 x_1 x_2) := by
    intro x_1 x_2 M
    refine s_iconst X 0 dX11_weigh_34 (by decide) ?_
    refine s_istore_n X dX11_weigh_35 (by decide) [(3, zi (0)), (0, za ((some a0))), (1, zi x_1), (2, zi x_2)] rfl ?_
    refine s_lv [(0, za ((some a0))), (1, zi x_1), (2, zi x_2), (3, zi (0))] [1, 2, 3, 0] rfl ?_
    exact L36 z_N (x_1, x_2, 0) _
  refine s_aload_n X dX11_weigh_0 0 rfl ?_
  refine s_aload_n X dX11_weigh_1 0 rfl ?_
  refine s_ga X (C := RX11) (T := TX11) (N := 32) rfl (by decide) hiX11 hl32 dX11_weigh_2 (fun r1 => ?_)
  refine s_iload_n X dX11_weigh_5 2 rfl ?_
  refine s_li X dX11_weigh_6 (fun x2 => ?_)
  refine s_callV (ci := 11) (C := RX11) (As := [zi x2]) (st := []) X (fun a => c_X11_findPlaces l E a x2) gX11_weigh_X11_findPlaces rfl hy_X11_findPlaces rfl rfl rfl rfl (Nat.le_of_ble_eq_true rfl) (by decide) dX11_weigh_7 (fun _ M => ?_)
  refine s_aload_n X dX11_weigh_10 0 rfl ?_
  refine s_ga X (C := RX11) (T := TX11) (N := 32) rfl (by decide) hiX11 hl81 dX11_weigh_11 (fun r4 => ?_)
  refine s_aload_n X dX11_weigh_14 0 rfl ?_
  refine s_ga X (C := RX11) (T := TX11) (N := 32) rfl (by decide) hiX11 hl32 dX11_weigh_15 (fun r5 => ?_)
  refine s_iload_n X dX11_weigh_18 2 rfl ?_
  refine s_li X dX11_weigh_19 (fun x6 => ?_)
  refine s_lb X dX11_weigh_20 (fun x7 => ?_)
  refine s_if_ne X 34 dX11_weigh_21 (by decide) (fun h8 => ?_) (fun h8 => ?_)
  · exact J34 p0 p1 _
  · refine s_aload_n X dX11_weigh_24 0 rfl ?_
    refine s_aload_n X dX11_weigh_25 0 rfl ?_
    refine s_ga X (C := RX11) (T := TX11) (N := 32) rfl (by decide) hiX11 hl32 dX11_weigh_26 (fun r9 => ?_)
    refine s_iload_n X dX11_weigh_29 2 rfl ?_
    refine s_li X dX11_weigh_30 (fun x10 => ?_)
    refine s_callV (ci := 11) (C := RX11) (As := [zi x10]) (st := []) X (fun a => c_X11_root l E a x10) gX11_weigh_X11_root rfl hy_X11_root rfl rfl rfl rfl (Nat.le_of_ble_eq_true rfl) (by decide) dX11_weigh_31 (fun _ M => ?_)
    exact J34 p0 p1 _
theorem hy_X11_holds : yX11_holds.cls = RX11 ∧ yX11_holds.cls ≠ "java/lang/invoke/MethodHandle" ∧ yX11_holds.cls ≠ "java/lang/invoke/VarHandle" ∧ (parseMethodDescriptor yX11_holds.desc).map (fun d => d.parameters.length) = some 2 := by decide +kernel
set_option maxHeartbeats 4000000 in
set_option maxRecDepth 100000 in
theorem c_X11_holds (l : Launch) (E : zE) (a0 : Nat) (p0 : Int32) (p1 : Int32) : z_Met l E yX11_holds wsX11_holds 4 99 [za ((some a0)), zi p0, zi p1] z_ri (F_X11_holds a0 p0 p1) := by
  refine z_of (own := RX11) (cc := cX11_holds) (maxL := 4) (rt := (some .boolean)) rfl (by decide) rfl (Nat.le_of_ble_eq_true rfl) ?_
  intro p e R s0 m args below meth c M0 fin X hr hnm
  have hiX11 : ∀ w ∈ u_ws RX11 TX11 32, w ∈ wsX11_holds := by decide +kernel
  have hl32 : Cond.fieldLink RX11 32 (TX11 8).1 (TX11 8).2.1 (TX11 8).2.2.1 ∈ wsX11_holds := by decide +kernel
  have hl29 : Cond.fieldLink RX11 29 (TX11 7).1 (TX11 7).2.1 (TX11 7).2.2.1 ∈ wsX11_holds := by decide +kernel
  have hl41 : Cond.fieldLink RX11 41 (TX11 11).1 (TX11 11).2.1 (TX11 11).2.2.1 ∈ wsX11_holds := by decide +kernel
  have hl35 : Cond.fieldLink RX11 35 (TX11 9).1 (TX11 9).2.1 (TX11 9).2.2.1 ∈ wsX11_holds := by decide +kernel
  have J176 : ∀ (s_0 : Int32) (M : zM), z_S p l e R s0 m args below meth c (z_Qm E below args s0 M0 z_ri fin) E 4 M0 fin M 176 [] [zi s_0] (F_X11_holds_176 a0 s_0) := by
    intro s_0 M
    exact s_retb X hr dX11_holds_176
  have J161 : ∀ (s_0 : Int32) (M : zM), z_S p l e R s0 m args below meth c (z_Qm E below args s0 M0 z_ri fin) E 4 M0 fin M 161 [] [zi s_0] (F_X11_holds_161 a0 s_0) := by
    intro s_0 M
    exact s_retb X hr dX11_holds_161
  have J142 : ∀ (s_0 : Int32) (M : zM), z_S p l e R s0 m args below meth c (z_Qm E below args s0 M0 z_ri fin) E 4 M0 fin M 142 [] [zi s_0] (F_X11_holds_142 a0 s_0) := by
    intro s_0 M
    exact s_retb X hr dX11_holds_142
  have J137 : ∀ (M : zM), z_S p l e R s0 m args below meth c (z_Qm E below args s0 M0 z_ri fin) E 4 M0 fin M 137 [] [] (F_X11_holds_137 a0) := by
    intro M
    refine s_iconst X 1 dX11_holds_137 (by decide) ?_
    refine s_goto X 142 dX11_holds_138 (by decide) ?_
    exact J142 1 _
  have J103 : ∀ (s_0 : Int32) (M : zM), z_S p l e R s0 m args below meth c (z_Qm E below args s0 M0 z_ri fin) E 4 M0 fin M 103 [] [zi s_0] (F_X11_holds_103 a0 s_0) := by
    intro s_0 M
    exact s_retb X hr dX11_holds_103
  have J102 : ∀ (M : zM), z_S p l e R s0 m args below meth c (z_Qm E below args s0 M0 z_ri fin) E 4 M0 fin M 102 [] [] (F_X11_holds_102 a0) := by
    intro M
    refine s_iconst X 0 dX11_holds_102 (by decide) ?_
    exact J103 0 _
  have J64 : ∀ (s_0 : Int32) (M : zM), z_S p l e R s0 m args below meth c (z_Qm E below args s0 M0 z_ri fin) E 4 M0 fin M 64 [] [zi s_0] (F_X11_holds_64 a0 s_0) := by
    intro s_0 M
    exact s_retb X hr dX11_holds_64
  refine s_aload_n X dX11_holds_0 0 rfl ?_
  refine s_ga X (C := RX11) (T := TX11) (N := 32) rfl (by decide) hiX11 hl32 dX11_holds_1 (fun r1 => ?_)
  refine s_iload_n X dX11_holds_4 2 rfl ?_
  refine s_li X dX11_holds_5 (fun x2 => ?_)
  refine s_istore_n X dX11_holds_6 (by decide) [(3, zi x2), (0, za ((some a0))), (1, zi p0), (2, zi p1)] rfl ?_
  refine s_aload_n X dX11_holds_7 1 rfl ?_
  refine s_ga X (C := RX11) (T := TX11) (N := 32) rfl (by decide) hiX11 hl29 dX11_holds_8 (fun r3 => ?_)
  refine s_iload_n X dX11_holds_11 3 rfl ?_
  refine s_li X dX11_holds_12 (fun x4 => ?_)
  refine s_by (fun h5 => ?_) (fun h5 => ?_)
  · refine s_tabIn X 0 48 h5 dX11_holds_13 (by decide) (by decide) (by decide) trivial ?_
    refine s_aload_n X dX11_holds_48 1 rfl ?_
    refine s_iload_n X dX11_holds_49 2 rfl ?_
    refine s_iload_n X dX11_holds_50 3 rfl ?_
    refine s_callV (ci := 11) (C := RX11) (As := [zi p0, zi p1]) (st := []) X (fun a => c_X11_weigh l E a p0 p1) gX11_holds_X11_weigh rfl hy_X11_weigh rfl rfl rfl rfl (Nat.le_of_ble_eq_true rfl) (by decide) dX11_holds_51 (fun w6 M => ?_)
    refine s_lconst X 0 dX11_holds_54 (by decide) ?_
    refine s_lcmp X dX11_holds_55 ?_
    refine s_if_le X 63 dX11_holds_56 (by decide) (fun h8 => ?_) (fun h8 => ?_)
    · refine s_iconst X 0 dX11_holds_63 (by decide) ?_
      refine s_lv [] [] rfl ?_
      exact J64 0 _
    · refine s_iconst X 1 dX11_holds_59 (by decide) ?_
      refine s_goto X 64 dX11_holds_60 (by decide) ?_
      refine s_lv [] [] rfl ?_
      exact J64 1 _
  · refine s_by (fun h9 => ?_) (fun h9 => ?_)
    · refine s_tabIn X 1 65 h9 dX11_holds_13 (by decide) (by decide) (by decide) trivial ?_
      refine s_aload_n X dX11_holds_65 1 rfl ?_
      refine s_ga X (C := RX11) (T := TX11) (N := 32) rfl (by decide) hiX11 hl41 dX11_holds_66 (fun r10 => ?_)
      refine s_iload_n X dX11_holds_69 0 rfl ?_
      refine s_li X dX11_holds_70 (fun x11 => ?_)
      refine s_iload_n X dX11_holds_71 2 rfl ?_
      refine s_ishr X dX11_holds_72 ?_
      refine s_iconst X 1 dX11_holds_73 (by decide) ?_
      refine s_iand X dX11_holds_74 ?_
      refine s_iconst X 1 dX11_holds_75 (by decide) ?_
      refine s_icmp_ne X 102 dX11_holds_76 (by decide) (fun h12 => ?_) (fun h12 => ?_)
      · refine s_lv [] [] rfl ?_
        exact J102 _
      · refine s_aload_n X dX11_holds_79 1 rfl ?_
        refine s_ga X (C := RX11) (T := TX11) (N := 32) rfl (by decide) hiX11 hl41 dX11_holds_80 (fun r13 => ?_)
        refine s_aload_n X dX11_holds_83 1 rfl ?_
        refine s_ga X (C := RX11) (T := TX11) (N := 32) rfl (by decide) hiX11 hl35 dX11_holds_84 (fun r14 => ?_)
        refine s_iload_n X dX11_holds_87 3 rfl ?_
        refine s_li X dX11_holds_88 (fun x15 => ?_)
        refine s_li X dX11_holds_89 (fun x16 => ?_)
        refine s_iload_n X dX11_holds_90 2 rfl ?_
        refine s_ishr X dX11_holds_91 ?_
        refine s_iconst X 1 dX11_holds_92 (by decide) ?_
        refine s_iand X dX11_holds_93 ?_
        refine s_iconst X 1 dX11_holds_94 (by decide) ?_
        refine s_icmp_ne X 102 dX11_holds_95 (by decide) (fun h17 => ?_) (fun h17 => ?_)
        · refine s_lv [] [] rfl ?_
          exact J102 _
        · refine s_iconst X 1 dX11_holds_98 (by decide) ?_
          refine s_goto X 103 dX11_holds_99 (by decide) ?_
          refine s_lv [] [] rfl ?_
          exact J103 1 _
    · refine s_by (fun h18 => ?_) (fun h18 => ?_)
      · refine s_tabIn X 2 104 h18 dX11_holds_13 (by decide) (by decide) (by decide) trivial ?_
        refine s_aload_n X dX11_holds_104 1 rfl ?_
        refine s_ga X (C := RX11) (T := TX11) (N := 32) rfl (by decide) hiX11 hl41 dX11_holds_105 (fun r19 => ?_)
        refine s_iload_n X dX11_holds_108 0 rfl ?_
        refine s_li X dX11_holds_109 (fun x20 => ?_)
        refine s_iload_n X dX11_holds_110 2 rfl ?_
        refine s_ishr X dX11_holds_111 ?_
        refine s_iconst X 1 dX11_holds_112 (by decide) ?_
        refine s_iand X dX11_holds_113 ?_
        refine s_iconst X 1 dX11_holds_114 (by decide) ?_
        refine s_icmp_eq X 137 dX11_holds_115 (by decide) (fun h21 => ?_) (fun h21 => ?_)
        · refine s_lv [] [] rfl ?_
          exact J137 _
        · refine s_aload_n X dX11_holds_118 1 rfl ?_
          refine s_ga X (C := RX11) (T := TX11) (N := 32) rfl (by decide) hiX11 hl41 dX11_holds_119 (fun r22 => ?_)
          refine s_aload_n X dX11_holds_122 1 rfl ?_
          refine s_ga X (C := RX11) (T := TX11) (N := 32) rfl (by decide) hiX11 hl35 dX11_holds_123 (fun r23 => ?_)
          refine s_iload_n X dX11_holds_126 3 rfl ?_
          refine s_li X dX11_holds_127 (fun x24 => ?_)
          refine s_li X dX11_holds_128 (fun x25 => ?_)
          refine s_iload_n X dX11_holds_129 2 rfl ?_
          refine s_ishr X dX11_holds_130 ?_
          refine s_iconst X 1 dX11_holds_131 (by decide) ?_
          refine s_iand X dX11_holds_132 ?_
          refine s_iconst X 1 dX11_holds_133 (by decide) ?_
          refine s_icmp_ne X 141 dX11_holds_134 (by decide) (fun h26 => ?_) (fun h26 => ?_)
          · refine s_iconst X 0 dX11_holds_141 (by decide) ?_
            refine s_lv [] [] rfl ?_
            exact J142 0 _
          · refine s_lv [] [] rfl ?_
            exact J137 _
      · refine s_by (fun h27 => ?_) (fun h27 => ?_)
        · refine s_tabIn X 3 143 h27 dX11_holds_13 (by decide) (by decide) (by decide) trivial ?_
          refine s_aload_n X dX11_holds_143 1 rfl ?_
          refine s_ga X (C := RX11) (T := TX11) (N := 32) rfl (by decide) hiX11 hl41 dX11_holds_144 (fun r28 => ?_)
          refine s_iload_n X dX11_holds_147 0 rfl ?_
          refine s_li X dX11_holds_148 (fun x29 => ?_)
          refine s_iload_n X dX11_holds_149 2 rfl ?_
          refine s_ishr X dX11_holds_150 ?_
          refine s_iconst X 1 dX11_holds_151 (by decide) ?_
          refine s_iand X dX11_holds_152 ?_
          refine s_if_ne X 160 dX11_holds_153 (by decide) (fun h30 => ?_) (fun h30 => ?_)
          · refine s_iconst X 0 dX11_holds_160 (by decide) ?_
            refine s_lv [] [] rfl ?_
            exact J161 0 _
          · refine s_iconst X 1 dX11_holds_156 (by decide) ?_
            refine s_goto X 161 dX11_holds_157 (by decide) ?_
            refine s_lv [] [] rfl ?_
            exact J161 1 _
        · refine s_by (fun h31 => ?_) (fun h31 => ?_)
          · refine s_tabIn X 4 162 h31 dX11_holds_13 (by decide) (by decide) (by decide) trivial ?_
            refine s_iload_n X dX11_holds_162 0 rfl ?_
            refine s_iload_n X dX11_holds_163 2 rfl ?_
            refine s_ishr X dX11_holds_164 ?_
            refine s_iconst X 1 dX11_holds_165 (by decide) ?_
            refine s_iand X dX11_holds_166 ?_
            refine s_iconst X 1 dX11_holds_167 (by decide) ?_
            refine s_icmp_ne X 175 dX11_holds_168 (by decide) (fun h32 => ?_) (fun h32 => ?_)
            · refine s_iconst X 0 dX11_holds_175 (by decide) ?_
              refine s_lv [] [] rfl ?_
              exact J176 0 _
            · refine s_iconst X 1 dX11_holds_171 (by decide) ?_
              refine s_goto X 176 dX11_holds_172 (by decide) ?_
              refine s_lv [] [] rfl ?_
              exact J176 1 _
          · refine s_tabOut X 177 dX11_holds_13 (by have := lv_neT h5 (show (0 : Int32).toInt = 0 by decide); have := lv_neT h9 (show (1 : Int32).toInt = 1 by decide); have := lv_neT h18 (show (2 : Int32).toInt = 2 by decide); have := lv_neT h27 (show (3 : Int32).toInt = 3 by decide); have := lv_neT h31 (show (4 : Int32).toInt = 4 by decide); omega) (by decide) ?_
            refine s_iconst X 0 dX11_holds_177 (by decide) ?_
            exact s_retb X hr dX11_holds_178
theorem hy_X11_lose : yX11_lose.cls = RX11 ∧ yX11_lose.cls ≠ "java/lang/invoke/MethodHandle" ∧ yX11_lose.cls ≠ "java/lang/invoke/VarHandle" ∧ (parseMethodDescriptor yX11_lose.desc).map (fun d => d.parameters.length) = some 1 := by decide +kernel
set_option maxHeartbeats 4000000 in
set_option maxRecDepth 100000 in
theorem c_X11_lose (l : Launch) (E : zE) (a0 : Nat) (p0 : Int32) : z_Met l E yX11_lose wsX11_lose 5 122 [za ((some a0)), zi p0] z_ri (F_X11_lose a0 p0) := by
  refine z_of (own := RX11) (cc := cX11_lose) (maxL := 5) (rt := (some .boolean)) rfl (by decide) rfl (Nat.le_of_ble_eq_true rfl) ?_
  intro p e R s0 m args below meth c M0 fin X hr hnm
  have hiX11 : ∀ w ∈ u_ws RX11 TX11 32, w ∈ wsX11_lose := by decide +kernel
  have hl41 : Cond.fieldLink RX11 41 (TX11 11).1 (TX11 11).2.1 (TX11 11).2.2.1 ∈ wsX11_lose := by decide +kernel
  have L4 : ∀ (n : Nat) (s : Int32 × Int32 × Int32) (M : zM), z_S p l e R s0 m args below meth c (z_Qm E below args s0 M0 z_ri fin) E 5 M0 fin M 4 [(0, za (some a0)), (1, zi s.1), (2, zi s.2.1), (3, zi s.2.2)] [] (F_X11_lose_4 a0 n s) := by
    refine s_fix ?_
    intro ih4_ hih4
    have J81 : ∀ (x_1 : Int32) (x_2 : Int32) (x_3 : Int32) (M : zM), z_S p l e R s0 m args below meth c (z_Qm E below args s0 M0 z_ri fin) E 5 M0 fin M 81 [(0, za ((some a0))), (1, zi x_1), (2, zi x_2), (3, zi x_3)] [] (F_X11_lose_81 a0 (fun y0 y1 y2 => ih4_ (y0, y1, y2)) x_1 x_2 x_3) := by
      intro x_1 x_2 x_3 M
      refine s_iinc X 1 dX11_lose_81 3 rfl (by decide) (by decide) [(3, zi (x_3 + 1)), (0, za ((some a0))), (1, zi x_1), (2, zi x_2)] rfl ?_
      refine s_goto X 4 dX11_lose_84 (by decide) ?_
      refine s_lv [(0, za ((some a0))), (1, zi x_1), (2, zi x_2), (3, zi (x_3 + 1))] [1, 2, 3, 0] rfl ?_
      exact hih4 (x_1, x_2, x_3 + 1) _
    have L24 : ∀ (n : Nat) (s : Int32 × Int32 × Int32 × Int32) (M : zM), z_S p l e R s0 m args below meth c (z_Qm E below args s0 M0 z_ri fin) E 5 M0 fin M 24 [(0, za (some a0)), (1, zi s.1), (2, zi s.2.1), (3, zi s.2.2.1), (4, zi s.2.2.2)] [] (F_X11_lose_24 a0 (fun y0 y1 y2 => ih4_ (y0, y1, y2)) n s) := by
      refine s_fix ?_
      intro ih24_ hih24
      have J75 : ∀ (x_1 : Int32) (x_2 : Int32) (x_3 : Int32) (x_4 : Int32) (M : zM), z_S p l e R s0 m args below meth c (z_Qm E below args s0 M0 z_ri fin) E 5 M0 fin M 75 [(0, za ((some a0))), (1, zi x_1), (2, zi x_2), (3, zi x_3), (4, zi x_4)] [] (F_X11_lose_75 a0 (fun y0 y1 y2 => ih4_ (y0, y1, y2)) (fun y0 y1 y2 y3 => ih24_ (y0, y1, y2, y3)) x_1 x_2 x_3 x_4) := by
        intro x_1 x_2 x_3 x_4 M
        refine s_iinc X 1 dX11_lose_75 4 rfl (by decide) (by decide) [(4, zi (x_4 + 1)), (0, za ((some a0))), (1, zi x_1), (2, zi x_2), (3, zi x_3)] rfl ?_
        refine s_goto X 24 dX11_lose_78 (by decide) ?_
        refine s_lv [(0, za ((some a0))), (1, zi x_1), (2, zi x_2), (3, zi x_3), (4, zi (x_4 + 1))] [1, 2, 3, 4, 0] rfl ?_
        exact hih24 (x_1, x_2, x_3, x_4 + 1) _
      rintro ⟨x_1, x_2, x_3, x_4⟩ M
      refine s_iload X dX11_lose_24 4 rfl ?_
      refine s_bipush X 16 dX11_lose_26 (by decide) ?_
      refine s_icmp_ge X 81 dX11_lose_28 (by decide) (fun h3 => ?_) (fun h3 => ?_)
      · refine s_lv [(0, za ((some a0))), (1, zi x_1), (2, zi x_2), (3, zi x_3)] [0, 1, 2, 3] rfl ?_
        exact J81 x_1 x_2 x_3 _
      · refine s_aload_n X dX11_lose_31 0 rfl ?_
        refine s_ga X (C := RX11) (T := TX11) (N := 32) rfl (by decide) hiX11 hl41 dX11_lose_32 (fun r4 => ?_)
        refine s_iload_n X dX11_lose_35 3 rfl ?_
        refine s_li X dX11_lose_36 (fun x5 => ?_)
        refine s_iload X dX11_lose_37 4 rfl ?_
        refine s_ishr X dX11_lose_39 ?_
        refine s_iconst X 1 dX11_lose_40 (by decide) ?_
        refine s_iand X dX11_lose_41 ?_
        refine s_if_eq X 75 dX11_lose_42 (by decide) (fun h6 => ?_) (fun h6 => ?_)
        · exact J75 x_1 x_2 x_3 x_4 _
        · refine s_aload_n X dX11_lose_45 0 rfl ?_
          refine s_iload X dX11_lose_46 4 rfl ?_
          refine s_iload_n X dX11_lose_48 3 rfl ?_
          refine s_callV (ci := 11) (C := RX11) (As := [zi x_4, zi x_3]) (st := []) X (fun a => c_X11_holds l E a x_4 x_3) gX11_lose_X11_holds rfl hy_X11_holds rfl rfl rfl rfl (Nat.le_of_ble_eq_true rfl) (by decide) dX11_lose_49 (fun x7 M => ?_)
          refine s_if_eq X 58 dX11_lose_52 (by decide) (fun h9 => ?_) (fun h9 => ?_)
          · refine s_aload_n X dX11_lose_58 0 rfl ?_
            refine s_ga X (C := RX11) (T := TX11) (N := 32) rfl (by decide) hiX11 hl41 dX11_lose_59 (fun r10 => ?_)
            refine s_iload_n X dX11_lose_62 3 rfl ?_
            refine s_dup2 X dX11_lose_63 rfl rfl ?_
            refine s_li X dX11_lose_64 (fun x11 => ?_)
            refine s_iconst X 1 dX11_lose_65 (by decide) ?_
            refine s_iload X dX11_lose_66 4 rfl ?_
            refine s_ishl X dX11_lose_68 ?_
            refine s_iconst X (-1) dX11_lose_69 (by decide) ?_
            refine s_ixor X dX11_lose_70 ?_
            refine s_iand X dX11_lose_71 ?_
            refine s_si X dX11_lose_72 (fun M => ?_)
            refine s_iconst X 1 dX11_lose_73 (by decide) ?_
            refine s_istore_n X dX11_lose_74 (by decide) [(2, zi (1)), (0, za ((some a0))), (1, zi x_1), (3, zi x_3), (4, zi x_4)] rfl ?_
            refine s_lv [(0, za ((some a0))), (1, zi x_1), (2, zi (1)), (3, zi x_3), (4, zi x_4)] [1, 2, 0, 3, 4] rfl ?_
            exact J75 x_1 1 x_3 x_4 _
          · refine s_goto X 75 dX11_lose_55 (by decide) ?_
            exact J75 x_1 x_2 x_3 x_4 _
    rintro ⟨x_1, x_2, x_3⟩ M
    refine s_iload_n X dX11_lose_4 3 rfl ?_
    refine s_bipush X 16 dX11_lose_5 (by decide) ?_
    refine s_icmp_ge X 87 dX11_lose_7 (by decide) (fun h1 => ?_) (fun h1 => ?_)
    · refine s_iload_n X dX11_lose_87 2 rfl ?_
      exact s_retb X hr dX11_lose_88
    · refine s_iload_n X dX11_lose_10 1 rfl ?_
      refine s_iload_n X dX11_lose_11 3 rfl ?_
      refine s_ishr X dX11_lose_12 ?_
      refine s_iconst X 1 dX11_lose_13 (by decide) ?_
      refine s_iand X dX11_lose_14 ?_
      refine s_if_ne X 21 dX11_lose_15 (by decide) (fun h2 => ?_) (fun h2 => ?_)
      · refine s_iconst X 0 dX11_lose_21 (by decide) ?_
        refine s_istore X dX11_lose_22 (by decide) [(4, zi (0)), (0, za ((some a0))), (1, zi x_1), (2, zi x_2), (3, zi x_3)] rfl ?_
        refine s_lv [(0, za ((some a0))), (1, zi x_1), (2, zi x_2), (3, zi x_3), (4, zi (0))] [1, 2, 3, 4, 0] rfl ?_
        exact L24 z_N (x_1, x_2, x_3, 0) _
      · refine s_goto X 81 dX11_lose_18 (by decide) ?_
        exact J81 x_1 x_2 x_3 _
  refine s_iconst X 0 dX11_lose_0 (by decide) ?_
  refine s_istore_n X dX11_lose_1 (by decide) [(2, zi (0)), (0, za ((some a0))), (1, zi p0)] rfl ?_
  refine s_iconst X 0 dX11_lose_2 (by decide) ?_
  refine s_istore_n X dX11_lose_3 (by decide) [(3, zi (0)), (2, zi (0)), (0, za ((some a0))), (1, zi p0)] rfl ?_
  refine s_lv [(0, za ((some a0))), (1, zi p0), (2, zi (0)), (3, zi (0))] [2, 3, 1, 0] rfl ?_
  exact L4 z_N (p0, 0, 0) _
theorem hy_X11_reckon : yX11_reckon.cls = RX11 ∧ yX11_reckon.cls ≠ "java/lang/invoke/MethodHandle" ∧ yX11_reckon.cls ≠ "java/lang/invoke/VarHandle" ∧ (parseMethodDescriptor yX11_reckon.desc).map (fun d => d.parameters.length) = some 0 := by decide +kernel
set_option maxHeartbeats 4000000 in
set_option maxRecDepth 100000 in
theorem c_X11_reckon (l : Launch) (E : zE) (a0 : Nat) : z_Met l E yX11_reckon wsX11_reckon 6 146 [za ((some a0))] z_rv (F_X11_reckon a0) := by
  refine z_of (own := RX11) (cc := cX11_reckon) (maxL := 5) (rt := none) rfl (by decide) rfl (Nat.le_of_ble_eq_true rfl) ?_
  intro p e R s0 m args below meth c M0 fin X hr hnm
  have hiX11 : ∀ w ∈ u_ws RX11 TX11 32, w ∈ wsX11_reckon := by decide +kernel
  have hl118 : Cond.fieldLink RX11 118 (TX11 12).1 (TX11 12).2.1 (TX11 12).2.2.1 ∈ wsX11_reckon := by decide +kernel
  have hl187 : Cond.fieldLink RX11 187 (TX11 13).1 (TX11 13).2.1 (TX11 13).2.2.1 ∈ wsX11_reckon := by decide +kernel
  have hl41 : Cond.fieldLink RX11 41 (TX11 11).1 (TX11 11).2.1 (TX11 11).2.2.1 ∈ wsX11_reckon := by decide +kernel
  have L27 : ∀ (n : Nat) (s : Int32) (M : zM), z_S p l e R s0 m args below meth c (z_Qm E below args s0 M0 z_rv fin) E 5 M0 fin M 27 [(0, za (some a0)), (1, zi s)] [] (F_X11_reckon_27 a0 n s) := by
    refine s_fix ?_
    intro ih27_ hih27
    have L149 : ∀ (n : Nat) (s : Int32 × Int32 × Int32) (M : zM), z_S p l e R s0 m args below meth c (z_Qm E below args s0 M0 z_rv fin) E 5 M0 fin M 149 [(0, za (some a0)), (1, zi s.1), (3, zi s.2.1), (4, zi s.2.2)] [] (F_X11_reckon_149 a0 (fun y0 => ih27_ (y0)) n s) := by
      refine s_fix ?_
      intro ih149_ hih149
      rintro ⟨x_1, x_3, x_4⟩ M
      refine s_iload X dX11_reckon_149 3 rfl ?_
      refine s_if_eq X 164 dX11_reckon_151 (by decide) (fun h24 => ?_) (fun h24 => ?_)
      · refine s_iload_n X dX11_reckon_164 1 rfl ?_
        refine s_iload_n X dX11_reckon_165 2 rfl ?_
        refine s_ior X dX11_reckon_166 ?_
        refine s_let (fun x25 => ?_)
        refine s_istore_n X dX11_reckon_167 (by decide) [(1, zi x25), (0, za ((some a0))), (3, zi x_3), (4, zi x_4)] rfl ?_
        refine s_goto X 27 dX11_reckon_168 (by decide) ?_
        refine s_lv [(0, za ((some a0))), (1, zi x25)] [1, 0] rfl ?_
        exact hih27 (x25) _
      · refine s_aload_n X dX11_reckon_154 0 rfl ?_
        refine s_iload_n X dX11_reckon_155 2 rfl ?_
        refine s_callV (ci := 11) (C := RX11) (As := [zi x_3]) (st := []) X (fun a => c_X11_lose l E a x_3) gX11_reckon_X11_lose rfl hy_X11_lose rfl rfl rfl rfl (Nat.le_of_ble_eq_true rfl) (by decide) dX11_reckon_156 (fun x26 M => ?_)
        refine s_istore X dX11_reckon_159 (by decide) [(4, zi x26), (0, za ((some a0))), (1, zi x_1), (3, zi x_3)] rfl ?_
        refine s_goto X 149 dX11_reckon_161 (by decide) ?_
        refine s_lv [(0, za ((some a0))), (1, zi x_1), (3, zi x_3), (4, zi x26)] [1, 2, 3, 0] rfl ?_
        exact hih149 (x_1, x_3, x26) _
    have L104 : ∀ (n : Nat) (s : Int32 × Int32 × Int32) (M : zM), z_S p l e R s0 m args below meth c (z_Qm E below args s0 M0 z_rv fin) E 5 M0 fin M 104 [(0, za (some a0)), (1, zi s.1), (3, zi s.2.1), (4, zi s.2.2)] [] (F_X11_reckon_104 a0 (fun y0 => ih27_ (y0)) n s) := by
      refine s_fix ?_
      intro ih104_ hih104
      have J139 : ∀ (x_1 : Int32) (x_3 : Int32) (x_4 : Int32) (t_0 : Option Nat) (s_1 : Int32) (s_2 : Int32) (M : zM), z_S p l e R s0 m args below meth c (z_Qm E below args s0 M0 z_rv fin) E 5 M0 fin M 139 [(0, za ((some a0))), (1, zi x_1), (3, zi x_3), (4, zi x_4)] [zi s_2, zi s_1, za t_0] (F_X11_reckon_139 a0 (fun y0 => ih27_ (y0)) (fun y0 y1 y2 => ih104_ (y0, y1, y2)) x_1 x_3 x_4 t_0 s_1 s_2) := by
        intro x_1 x_3 x_4 t_0 s_1 s_2 M
        refine s_si X dX11_reckon_139 (fun M => ?_)
        refine s_iinc X 1 dX11_reckon_140 3 rfl (by decide) (by decide) [(4, zi (x_4 + 1)), (0, za ((some a0))), (1, zi x_1), (3, zi x_3)] rfl ?_
        refine s_goto X 104 dX11_reckon_143 (by decide) ?_
        refine s_lv [(0, za ((some a0))), (1, zi x_1), (3, zi x_3), (4, zi (x_4 + 1))] [1, 2, 3, 0] rfl ?_
        exact hih104 (x_1, x_3, x_4 + 1) _
      rintro ⟨x_1, x_3, x_4⟩ M
      refine s_iload X dX11_reckon_104 3 rfl ?_
      refine s_bipush X 16 dX11_reckon_106 (by decide) ?_
      refine s_icmp_ge X 146 dX11_reckon_108 (by decide) (fun h19 => ?_) (fun h19 => ?_)
      · refine s_iconst X 1 dX11_reckon_146 (by decide) ?_
        refine s_istore X dX11_reckon_147 (by decide) [(4, zi (1)), (0, za ((some a0))), (1, zi x_1), (3, zi x_3)] rfl ?_
        refine s_lv [(0, za ((some a0))), (1, zi x_1), (3, zi x_3), (4, zi (1))] [1, 2, 3, 0] rfl ?_
        exact L149 z_N (x_1, x_3, 1) _
      · refine s_aload_n X dX11_reckon_111 0 rfl ?_
        refine s_ga X (C := RX11) (T := TX11) (N := 32) rfl (by decide) hiX11 hl41 dX11_reckon_112 (fun r20 => ?_)
        refine s_iload X dX11_reckon_115 3 rfl ?_
        refine s_iload_n X dX11_reckon_117 2 rfl ?_
        refine s_iload X dX11_reckon_118 3 rfl ?_
        refine s_ishr X dX11_reckon_120 ?_
        refine s_iconst X 1 dX11_reckon_121 (by decide) ?_
        refine s_iand X dX11_reckon_122 ?_
        refine s_iconst X 1 dX11_reckon_123 (by decide) ?_
        refine s_icmp_ne X 132 dX11_reckon_124 (by decide) (fun h21 => ?_) (fun h21 => ?_)
        · refine s_aload_n X dX11_reckon_132 0 rfl ?_
          refine s_ga X (C := RX11) (T := TX11) (N := 32) rfl (by decide) hiX11 hl41 dX11_reckon_133 (fun r22 => ?_)
          refine s_iload X dX11_reckon_136 3 rfl ?_
          refine s_li X dX11_reckon_138 (fun x23 => ?_)
          exact J139 x_1 x_3 x_4 r20 x_4 x23 _
        · refine s_ldc X 65535 dX11_reckon_127 (by decide +kernel) ?_
          refine s_goto X 139 dX11_reckon_129 (by decide) ?_
          exact J139 x_1 x_3 x_4 r20 x_4 65535 _
    have L57 : ∀ (n : Nat) (s : Int32 × Int32 × Int32 × Int32) (M : zM), z_S p l e R s0 m args below meth c (z_Qm E below args s0 M0 z_rv fin) E 5 M0 fin M 57 [(0, za (some a0)), (1, zi s.1), (2, zi s.2.1), (3, zi s.2.2.1), (4, zi s.2.2.2)] [] (F_X11_reckon_57 a0 (fun y0 => ih27_ (y0)) n s) := by
      refine s_fix ?_
      intro ih57_ hih57
      have J93 : ∀ (x_1 : Int32) (x_2 : Int32) (x_4 : Int32) (s_0 : Int32) (s_1 : Int32) (M : zM), z_S p l e R s0 m args below meth c (z_Qm E below args s0 M0 z_rv fin) E 5 M0 fin M 93 [(0, za ((some a0))), (1, zi x_1), (2, zi x_2), (4, zi x_4)] [zi s_1, zi s_0] (F_X11_reckon_93 a0 (fun y0 => ih27_ (y0)) (fun y0 y1 y2 y3 => ih57_ (y0, y1, y2, y3)) x_1 x_2 x_4 s_0 s_1) := by
        intro x_1 x_2 x_4 s_0 s_1 M
        refine s_ior X dX11_reckon_93 ?_
        refine s_let (fun x18 => ?_)
        refine s_istore_n X dX11_reckon_94 (by decide) [(3, zi x18), (0, za ((some a0))), (1, zi x_1), (2, zi x_2), (4, zi x_4)] rfl ?_
        refine s_iinc X 1 dX11_reckon_95 4 rfl (by decide) (by decide) [(4, zi (x_4 + 1)), (3, zi x18), (0, za ((some a0))), (1, zi x_1), (2, zi x_2)] rfl ?_
        refine s_goto X 57 dX11_reckon_98 (by decide) ?_
        refine s_lv [(0, za ((some a0))), (1, zi x_1), (2, zi x_2), (3, zi x18), (4, zi (x_4 + 1))] [2, 3, 4, 1, 0] rfl ?_
        exact hih57 (x_1, x_2, x18, x_4 + 1) _
      have J92 : ∀ (x_1 : Int32) (x_2 : Int32) (x_4 : Int32) (s_0 : Int32) (M : zM), z_S p l e R s0 m args below meth c (z_Qm E below args s0 M0 z_rv fin) E 5 M0 fin M 92 [(0, za ((some a0))), (1, zi x_1), (2, zi x_2), (4, zi x_4)] [zi s_0] (F_X11_reckon_92 a0 (fun y0 => ih27_ (y0)) (fun y0 y1 y2 y3 => ih57_ (y0, y1, y2, y3)) x_1 x_2 x_4 s_0) := by
        intro x_1 x_2 x_4 s_0 M
        refine s_iconst X 0 dX11_reckon_92 (by decide) ?_
        exact J93 x_1 x_2 x_4 s_0 0 _
      rintro ⟨x_1, x_2, x_3, x_4⟩ M
      refine s_iload X dX11_reckon_57 4 rfl ?_
      refine s_bipush X 16 dX11_reckon_59 (by decide) ?_
      refine s_icmp_ge X 101 dX11_reckon_61 (by decide) (fun h11 => ?_) (fun h11 => ?_)
      · refine s_iconst X 0 dX11_reckon_101 (by decide) ?_
        refine s_istore X dX11_reckon_102 (by decide) [(4, zi (0)), (0, za ((some a0))), (1, zi x_1), (2, zi x_2), (3, zi x_3)] rfl ?_
        refine s_lv [(0, za ((some a0))), (1, zi x_1), (3, zi x_3), (4, zi (0))] [1, 2, 4, 0] rfl ?_
        exact L104 z_N (x_1, x_3, 0) _
      · refine s_iload_n X dX11_reckon_64 3 rfl ?_
        refine s_aload_n X dX11_reckon_65 0 rfl ?_
        refine s_iload_n X dX11_reckon_66 2 rfl ?_
        refine s_iload X dX11_reckon_67 4 rfl ?_
        refine s_callV (ci := 11) (C := RX11) (As := [zi x_2, zi x_4]) (st := [zi x_3]) X (fun a => c_X11_comesTo l E a x_2 x_4) gX11_reckon_X11_comesTo rfl hy_X11_comesTo rfl rfl rfl rfl (Nat.le_of_ble_eq_true rfl) (by decide) dX11_reckon_69 (fun x12 M => ?_)
        refine s_if_eq X 92 dX11_reckon_72 (by decide) (fun h14 => ?_) (fun h14 => ?_)
        · refine s_lv [(0, za ((some a0))), (1, zi x_1), (2, zi x_2), (4, zi x_4)] [0, 1, 2, 4] rfl ?_
          exact J92 x_1 x_2 x_4 x_3 _
        · refine s_aload_n X dX11_reckon_75 0 rfl ?_
          refine s_iload X dX11_reckon_76 4 rfl ?_
          refine s_iload_n X dX11_reckon_78 2 rfl ?_
          refine s_callV (ci := 11) (C := RX11) (As := [zi x_4, zi x_2]) (st := [zi x_3]) X (fun a => c_X11_comesTo l E a x_4 x_2) gX11_reckon_X11_comesTo rfl hy_X11_comesTo rfl rfl rfl rfl (Nat.le_of_ble_eq_true rfl) (by decide) dX11_reckon_79 (fun x15 M => ?_)
          refine s_if_eq X 92 dX11_reckon_82 (by decide) (fun h17 => ?_) (fun h17 => ?_)
          · refine s_lv [(0, za ((some a0))), (1, zi x_1), (2, zi x_2), (4, zi x_4)] [0, 1, 2, 4] rfl ?_
            exact J92 x_1 x_2 x_4 x_3 _
          · refine s_iconst X 1 dX11_reckon_85 (by decide) ?_
            refine s_iload X dX11_reckon_86 4 rfl ?_
            refine s_ishl X dX11_reckon_88 ?_
            refine s_goto X 93 dX11_reckon_89 (by decide) ?_
            refine s_lv [(0, za ((some a0))), (1, zi x_1), (2, zi x_2), (4, zi x_4)] [0, 1, 2, 4] rfl ?_
            exact J93 x_1 x_2 x_4 x_3 ((1 : Int32) <<< (x_4 &&& 31)) _
    have L35 : ∀ (n : Nat) (s : Int32 × Int32) (M : zM), z_S p l e R s0 m args below meth c (z_Qm E below args s0 M0 z_rv fin) E 5 M0 fin M 35 [(0, za (some a0)), (1, zi s.1), (2, zi s.2)] [] (F_X11_reckon_35 a0 (fun y0 => ih27_ (y0)) n s) := by
      refine s_fix ?_
      intro ih35_ hih35
      rintro ⟨x_1, x_2⟩ M
      refine s_aload_n X dX11_reckon_35 0 rfl ?_
      refine s_iload_n X dX11_reckon_36 2 rfl ?_
      refine s_iload_n X dX11_reckon_37 1 rfl ?_
      refine s_callV (ci := 11) (C := RX11) (As := [zi x_2, zi x_1]) (st := []) X (fun a => c_X11_isReady l E a x_2 x_1) gX11_reckon_X11_isReady rfl hy_X11_isReady rfl rfl rfl rfl (Nat.le_of_ble_eq_true rfl) (by decide) dX11_reckon_38 (fun x7 M => ?_)
      refine s_if_ne X 50 dX11_reckon_41 (by decide) (fun h9 => ?_) (fun h9 => ?_)
      · refine s_iconst X 1 dX11_reckon_50 (by decide) ?_
        refine s_iload_n X dX11_reckon_51 2 rfl ?_
        refine s_ishl X dX11_reckon_52 ?_
        refine s_let (fun x10 => ?_)
        refine s_istore_n X dX11_reckon_53 (by decide) [(3, zi x10), (0, za ((some a0))), (1, zi x_1), (2, zi x_2)] rfl ?_
        refine s_iconst X 0 dX11_reckon_54 (by decide) ?_
        refine s_istore X dX11_reckon_55 (by decide) [(4, zi (0)), (3, zi x10), (0, za ((some a0))), (1, zi x_1), (2, zi x_2)] rfl ?_
        refine s_lv [(0, za ((some a0))), (1, zi x_1), (2, zi x_2), (3, zi x10), (4, zi (0))] [2, 3, 4, 1, 0] rfl ?_
        exact L57 z_N (x_1, x_2, x10, 0) _
      · refine s_iinc X 1 dX11_reckon_44 2 rfl (by decide) (by decide) [(2, zi (x_2 + 1)), (0, za ((some a0))), (1, zi x_1)] rfl ?_
        refine s_goto X 35 dX11_reckon_47 (by decide) ?_
        refine s_lv [(0, za ((some a0))), (1, zi x_1), (2, zi (x_2 + 1))] [1, 2, 0] rfl ?_
        exact hih35 (x_1, x_2 + 1) _
    rintro x_1 M
    refine s_iload_n X dX11_reckon_27 1 rfl ?_
    refine s_ldc X 65535 dX11_reckon_28 (by decide +kernel) ?_
    refine s_icmp_eq X 171 dX11_reckon_30 (by decide) (fun h6 => ?_) (fun h6 => ?_)
    · exact s_retv X hr dX11_reckon_171
    · refine s_iconst X 0 dX11_reckon_33 (by decide) ?_
      refine s_istore_n X dX11_reckon_34 (by decide) [(2, zi (0)), (0, za ((some a0))), (1, zi x_1)] rfl ?_
      refine s_lv [(0, za ((some a0))), (1, zi x_1), (2, zi (0))] [1, 2, 0] rfl ?_
      exact L35 z_N (x_1, 0) _
  refine s_aload_n X dX11_reckon_0 0 rfl ?_
  refine s_gi X (C := RX11) (T := TX11) (N := 32) rfl (by decide) hiX11 hl118 dX11_reckon_1 (fun x1 => ?_)
  refine s_if_eq X 8 dX11_reckon_4 (by decide) (fun h2 => ?_) (fun h2 => ?_)
  · refine s_aload_n X dX11_reckon_8 0 rfl ?_
    refine s_iconst X 1 dX11_reckon_9 (by decide) ?_
    refine s_pf (x := zi (1)) X (C := RX11) (T := TX11) (N := 32) rfl (by decide) hiX11 tyX11 tyX11_ok nmX11 hl118 (Or.inl rfl) rfl (fun E => ⟨rfl, rfl⟩) dX11_reckon_10 (fun M => ?_)
    refine s_aload_n X dX11_reckon_13 0 rfl ?_
    refine s_callV (ci := 11) (C := RX11) (As := []) (st := []) X (fun a => c_X11_findRings l E a) gX11_reckon_X11_findRings rfl hy_X11_findRings rfl rfl rfl rfl (Nat.le_of_ble_eq_true rfl) (by decide) dX11_reckon_14 (fun _ M => ?_)
    refine s_aload_n X dX11_reckon_17 0 rfl ?_
    refine s_gi X (C := RX11) (T := TX11) (N := 32) rfl (by decide) hiX11 hl187 dX11_reckon_18 (fun x4 => ?_)
    refine s_if_lt X 25 dX11_reckon_21 (by decide) (fun h5 => ?_) (fun h5 => ?_)
    · refine s_iconst X 0 dX11_reckon_25 (by decide) ?_
      refine s_istore_n X dX11_reckon_26 (by decide) [(1, zi (0)), (0, za ((some a0)))] rfl ?_
      refine s_lv [(0, za ((some a0))), (1, zi (0))] [1, 0] rfl ?_
      exact L27 z_N (0) _
    · exact s_retv X hr dX11_reckon_24
  · exact s_retv X hr dX11_reckon_7
