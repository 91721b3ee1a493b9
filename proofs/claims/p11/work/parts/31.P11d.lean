theorem hy_X11_giveOut : yX11_giveOut.cls = RX11 ∧ yX11_giveOut.cls ≠ "java/lang/invoke/MethodHandle" ∧ yX11_giveOut.cls ≠ "java/lang/invoke/VarHandle" ∧ (parseMethodDescriptor yX11_giveOut.desc).map (fun d => d.parameters.length) = some 3 := by decide +kernel
set_option maxHeartbeats 4000000 in
set_option maxRecDepth 100000 in
theorem c_X11_giveOut (l : Launch) (E : zE) (a0 : Nat) (p0 : Int32) (p1 : Int32) (p2 : Int32) : z_Met l E yX11_giveOut wsX11_giveOut 2 45 [za ((some a0)), zi p0, zi p1, zi p2] z_rv (F_X11_giveOut a0 p0 p1 p2) := by
  refine z_of (own := RX11) (cc := cX11_giveOut) (maxL := 7) (rt := none) rfl (by decide) rfl (Nat.le_of_ble_eq_true rfl) ?_
  intro p e R s0 m args below meth c M0 fin X hr hnm
  have hiX11 : ∀ w ∈ u_ws RX11 TX11 32, w ∈ wsX11_giveOut := by decide +kernel
  have hl94 : Cond.fieldLink RX11 94 (TX11 16).1 (TX11 16).2.1 (TX11 16).2.2.1 ∈ wsX11_giveOut := by decide +kernel
  have hl88 : Cond.fieldLink RX11 88 (TX11 30).1 (TX11 30).2.1 (TX11 30).2.2.1 ∈ wsX11_giveOut := by decide +kernel
  have hl84 : Cond.fieldLink RX11 84 (TX11 29).1 (TX11 29).2.1 (TX11 29).2.2.1 ∈ wsX11_giveOut := by decide +kernel
  have hl128 : Cond.fieldLink RX11 128 (TX11 21).1 (TX11 21).2.1 (TX11 21).2.2.1 ∈ wsX11_giveOut := by decide +kernel
  have hl62 : Cond.fieldLink RX11 62 (TX11 20).1 (TX11 20).2.1 (TX11 20).2.2.1 ∈ wsX11_giveOut := by decide +kernel
  have hl47 : Cond.fieldLink RX11 47 (TX11 15).1 (TX11 15).2.1 (TX11 15).2.2.1 ∈ wsX11_giveOut := by decide +kernel
  have hl51 : Cond.fieldLink RX11 51 (TX11 17).1 (TX11 17).2.1 (TX11 17).2.2.1 ∈ wsX11_giveOut := by decide +kernel
  have hl44 : Cond.fieldLink RX11 44 (TX11 14).1 (TX11 14).2.1 (TX11 14).2.2.1 ∈ wsX11_giveOut := by decide +kernel
  have L165 : ∀ (n : Nat) (s : Int32) (M : zM), z_S p l e R s0 m args below meth c (z_Qm E below args s0 M0 z_rv fin) E 7 M0 fin M 165 [(0, za (some a0)), (5, zi s)] [] (F_X11_giveOut_165 a0 n s) := by
    refine s_fix ?_
    intro ih165_ hih165
    rintro x_5 M
    refine s_iload X dX11_giveOut_165 1 rfl ?_
    refine s_aload_n X dX11_giveOut_167 0 rfl ?_
    refine s_gi X (C := RX11) (T := TX11) (N := 32) rfl (by decide) hiX11 hl94 dX11_giveOut_168 (fun x33 => ?_)
    refine s_icmp_ge X 194 dX11_giveOut_171 (by decide) (fun h34 => ?_) (fun h34 => ?_)
    · exact s_retv X hr dX11_giveOut_194
    · refine s_aload_n X dX11_giveOut_174 0 rfl ?_
      refine s_ga X (C := RX11) (T := TX11) (N := 32) rfl (by decide) hiX11 hl84 dX11_giveOut_175 (fun r35 => ?_)
      refine s_iload X dX11_giveOut_178 1 rfl ?_
      refine s_aload_n X dX11_giveOut_180 0 rfl ?_
      refine s_ga X (C := RX11) (T := TX11) (N := 32) rfl (by decide) hiX11 hl88 dX11_giveOut_181 (fun r36 => ?_)
      refine s_iload X dX11_giveOut_184 1 rfl ?_
      refine s_ll X dX11_giveOut_186 (fun w37 => ?_)
      refine s_sl X dX11_giveOut_187 (fun M => ?_)
      refine s_iinc X 1 dX11_giveOut_188 1 rfl (by decide) (by decide) [(5, zi (x_5 + 1)), (0, za ((some a0)))] rfl ?_
      refine s_goto X 165 dX11_giveOut_191 (by decide) ?_
      refine s_lv [(0, za ((some a0))), (5, zi (x_5 + 1))] [1, 0] rfl ?_
      exact hih165 (x_5 + 1) _
  have L52 : ∀ (n : Nat) (s : Int32 × Int32 × Int32 × Int32) (M : zM), z_S p l e R s0 m args below meth c (z_Qm E below args s0 M0 z_rv fin) E 7 M0 fin M 52 [(0, za (some a0)), (2, zi s.1), (3, zi s.2.1), (4, zi s.2.2.1), (5, zi s.2.2.2)] [] (F_X11_giveOut_52 a0 n s) := by
    refine s_fix ?_
    intro ih52_ hih52
    have J149 : ∀ (x_2 : Int32) (x_3 : Int32) (x_4 : Int32) (x_5 : Int32) (M : zM), z_S p l e R s0 m args below meth c (z_Qm E below args s0 M0 z_rv fin) E 7 M0 fin M 149 [(0, za ((some a0))), (2, zi x_2), (3, zi x_3), (4, zi x_4), (5, zi x_5)] [] (F_X11_giveOut_149 a0 (fun y0 y1 y2 y3 => ih52_ (y0, y1, y2, y3)) x_2 x_3 x_4 x_5) := by
      intro x_2 x_3 x_4 x_5 M
      refine s_bipush X 9 dX11_giveOut_149 (by decide) ?_
      refine s_iload X dX11_giveOut_151 3 rfl ?_
      refine s_imul X dX11_giveOut_153 ?_
      refine s_let (fun x32 => ?_)
      refine s_istore X dX11_giveOut_154 (by decide) [(4, zi x32), (0, za ((some a0))), (2, zi x_2), (3, zi x_3), (5, zi x_5)] rfl ?_
      refine s_iinc X 1 dX11_giveOut_156 4 rfl (by decide) (by decide) [(5, zi (x_5 + 1)), (4, zi x32), (0, za ((some a0))), (2, zi x_2), (3, zi x_3)] rfl ?_
      refine s_goto X 52 dX11_giveOut_159 (by decide) ?_
      refine s_lv [(0, za ((some a0))), (2, zi x_2), (3, zi x_3), (4, zi x32), (5, zi (x_5 + 1))] [2, 3, 4, 1, 0] rfl ?_
      exact hih52 (x_2, x_3, x32, x_5 + 1) _
    have L64 : ∀ (n : Nat) (s : Int32 × Int32 × Int32 × Int32 × Int32) (M : zM), z_S p l e R s0 m args below meth c (z_Qm E below args s0 M0 z_rv fin) E 7 M0 fin M 64 [(0, za (some a0)), (2, zi s.1), (3, zi s.2.1), (4, zi s.2.2.1), (5, zi s.2.2.2.1), (6, zi s.2.2.2.2)] [] (F_X11_giveOut_64 a0 (fun y0 y1 y2 y3 => ih52_ (y0, y1, y2, y3)) n s) := by
      refine s_fix ?_
      intro ih64_ hih64
      have J143 : ∀ (x_2 : Int32) (x_3 : Int32) (x_4 : Int32) (x_5 : Int32) (x_6 : Int32) (M : zM), z_S p l e R s0 m args below meth c (z_Qm E below args s0 M0 z_rv fin) E 7 M0 fin M 143 [(0, za ((some a0))), (2, zi x_2), (3, zi x_3), (4, zi x_4), (5, zi x_5), (6, zi x_6)] [] (F_X11_giveOut_143 a0 (fun y0 y1 y2 y3 => ih52_ (y0, y1, y2, y3)) (fun y0 y1 y2 y3 y4 => ih64_ (y0, y1, y2, y3, y4)) x_2 x_3 x_4 x_5 x_6) := by
        intro x_2 x_3 x_4 x_5 x_6 M
        refine s_iinc X 1 dX11_giveOut_143 5 rfl (by decide) (by decide) [(6, zi (x_6 + 1)), (0, za ((some a0))), (2, zi x_2), (3, zi x_3), (4, zi x_4), (5, zi x_5)] rfl ?_
        refine s_goto X 64 dX11_giveOut_146 (by decide) ?_
        refine s_lv [(0, za ((some a0))), (2, zi x_2), (3, zi x_3), (4, zi x_4), (5, zi x_5), (6, zi (x_6 + 1))] [1, 2, 3, 4, 5, 0] rfl ?_
        exact hih64 (x_2, x_3, x_4, x_5, x_6 + 1) _
      rintro ⟨x_2, x_3, x_4, x_5, x_6⟩ M
      refine s_iload X dX11_giveOut_64 5 rfl ?_
      refine s_aload_n X dX11_giveOut_66 0 rfl ?_
      refine s_gi X (C := RX11) (T := TX11) (N := 32) rfl (by decide) hiX11 hl94 dX11_giveOut_67 (fun x11 => ?_)
      refine s_icmp_ge X 149 dX11_giveOut_70 (by decide) (fun h12 => ?_) (fun h12 => ?_)
      · refine s_lv [(0, za ((some a0))), (2, zi x_2), (3, zi x_3), (4, zi x_4), (5, zi x_5)] [0, 1, 2, 3, 4] rfl ?_
        exact J149 x_2 x_3 x_4 x_5 _
      · refine s_aload_n X dX11_giveOut_73 0 rfl ?_
        refine s_aload_n X dX11_giveOut_74 0 rfl ?_
        refine s_ga X (C := RX11) (T := TX11) (N := 32) rfl (by decide) hiX11 hl62 dX11_giveOut_75 (fun r13 => ?_)
        refine s_iload X dX11_giveOut_78 4 rfl ?_
        refine s_li X dX11_giveOut_80 (fun x14 => ?_)
        refine s_iload_n X dX11_giveOut_81 1 rfl ?_
        refine s_iload_n X dX11_giveOut_82 2 rfl ?_
        refine s_callV (ci := 11) (C := RX11) (As := [zi x14, zi x_2, zi x_3]) (st := []) X (fun a => c_X11_takes l E a x14 x_2 x_3) gX11_giveOut_X11_takes rfl hy_X11_takes rfl rfl rfl rfl (Nat.le_of_ble_eq_true rfl) (by decide) dX11_giveOut_83 (fun x15 M => ?_)
        refine s_if_eq X 149 dX11_giveOut_86 (by decide) (fun h17 => ?_) (fun h17 => ?_)
        · refine s_lv [(0, za ((some a0))), (2, zi x_2), (3, zi x_3), (4, zi x_4), (5, zi x_5)] [0, 1, 2, 3, 4] rfl ?_
          exact J149 x_2 x_3 x_4 x_5 _
        · refine s_aload_n X dX11_giveOut_89 0 rfl ?_
          refine s_ga X (C := RX11) (T := TX11) (N := 32) rfl (by decide) hiX11 hl84 dX11_giveOut_90 (fun r18 => ?_)
          refine s_iload X dX11_giveOut_93 5 rfl ?_
          refine s_ll X dX11_giveOut_95 (fun w19 => ?_)
          refine s_lconst X 0 dX11_giveOut_96 (by decide) ?_
          refine s_lcmp X dX11_giveOut_97 ?_
          refine s_if_le X 143 dX11_giveOut_98 (by decide) (fun h20 => ?_) (fun h20 => ?_)
          · exact J143 x_2 x_3 x_4 x_5 x_6 _
          · refine s_aload_n X dX11_giveOut_101 0 rfl ?_
            refine s_ga X (C := RX11) (T := TX11) (N := 32) rfl (by decide) hiX11 hl47 dX11_giveOut_102 (fun r21 => ?_)
            refine s_iload X dX11_giveOut_105 5 rfl ?_
            refine s_li X dX11_giveOut_107 (fun x22 => ?_)
            refine s_bipush X 8 dX11_giveOut_108 (by decide) ?_
            refine s_icmp_ge X 143 dX11_giveOut_110 (by decide) (fun h23 => ?_) (fun h23 => ?_)
            · exact J143 x_2 x_3 x_4 x_5 x_6 _
            · refine s_aload_n X dX11_giveOut_113 0 rfl ?_
              refine s_ga X (C := RX11) (T := TX11) (N := 32) rfl (by decide) hiX11 hl88 dX11_giveOut_114 (fun r24 => ?_)
              refine s_aload_n X dX11_giveOut_117 0 rfl ?_
              refine s_ga X (C := RX11) (T := TX11) (N := 32) rfl (by decide) hiX11 hl51 dX11_giveOut_118 (fun r25 => ?_)
              refine s_aload_n X dX11_giveOut_121 0 rfl ?_
              refine s_ga X (C := RX11) (T := TX11) (N := 32) rfl (by decide) hiX11 hl44 dX11_giveOut_122 (fun r26 => ?_)
              refine s_iload X dX11_giveOut_125 5 rfl ?_
              refine s_li X dX11_giveOut_127 (fun x27 => ?_)
              refine s_iload X dX11_giveOut_128 3 rfl ?_
              refine s_iadd X dX11_giveOut_130 ?_
              refine s_li X dX11_giveOut_131 (fun x28 => ?_)
              refine s_dup2 X dX11_giveOut_132 rfl rfl ?_
              refine s_ll X dX11_giveOut_133 (fun w29 => ?_)
              refine s_aload_n X dX11_giveOut_134 0 rfl ?_
              refine s_ga X (C := RX11) (T := TX11) (N := 32) rfl (by decide) hiX11 hl84 dX11_giveOut_135 (fun r30 => ?_)
              refine s_iload X dX11_giveOut_138 5 rfl ?_
              refine s_ll X dX11_giveOut_140 (fun w31 => ?_)
              refine s_ladd X dX11_giveOut_141 ?_
              refine s_sl X dX11_giveOut_142 (fun M => ?_)
              exact J143 x_2 x_3 x_4 x_5 x_6 _
    rintro ⟨x_2, x_3, x_4, x_5⟩ M
    refine s_iload X dX11_giveOut_52 4 rfl ?_
    refine s_aload_n X dX11_giveOut_54 0 rfl ?_
    refine s_gi X (C := RX11) (T := TX11) (N := 32) rfl (by decide) hiX11 hl128 dX11_giveOut_55 (fun x9 => ?_)
    refine s_icmp_ge X 162 dX11_giveOut_58 (by decide) (fun h10 => ?_) (fun h10 => ?_)
    · refine s_iconst X 0 dX11_giveOut_162 (by decide) ?_
      refine s_istore X dX11_giveOut_163 (by decide) [(5, zi (0)), (0, za ((some a0))), (2, zi x_2), (3, zi x_3), (4, zi x_4)] rfl ?_
      refine s_lv [(0, za ((some a0))), (5, zi (0))] [1, 0] rfl ?_
      exact L165 z_N (0) _
    · refine s_iconst X 0 dX11_giveOut_61 (by decide) ?_
      refine s_istore X dX11_giveOut_62 (by decide) [(6, zi (0)), (0, za ((some a0))), (2, zi x_2), (3, zi x_3), (4, zi x_4), (5, zi x_5)] rfl ?_
      refine s_lv [(0, za ((some a0))), (2, zi x_2), (3, zi x_3), (4, zi x_4), (5, zi x_5), (6, zi (0))] [1, 2, 3, 4, 5, 0] rfl ?_
      exact L64 z_N (x_2, x_3, x_4, x_5, 0) _
  have L3 : ∀ (n : Nat) (s : Int32 × Int32 × Int32 × Int32) (M : zM), z_S p l e R s0 m args below meth c (z_Qm E below args s0 M0 z_rv fin) E 7 M0 fin M 3 [(0, za (some a0)), (1, zi s.1), (2, zi s.2.1), (3, zi s.2.2.1), (4, zi s.2.2.2)] [] (F_X11_giveOut_3 a0 n s) := by
    refine s_fix ?_
    intro ih3_ hih3
    have J39 : ∀ (x_1 : Int32) (x_2 : Int32) (x_3 : Int32) (x_4 : Int32) (t_0 : Option Nat) (s_1 : Int32) (u_2 : Int64) (M : zM), z_S p l e R s0 m args below meth c (z_Qm E below args s0 M0 z_rv fin) E 7 M0 fin M 39 [(0, za ((some a0))), (1, zi x_1), (2, zi x_2), (3, zi x_3), (4, zi x_4)] [zl u_2, zi s_1, za t_0] (F_X11_giveOut_39 a0 (fun y0 y1 y2 y3 => ih3_ (y0, y1, y2, y3)) x_1 x_2 x_3 x_4 t_0 s_1 u_2) := by
      intro x_1 x_2 x_3 x_4 t_0 s_1 u_2 M
      refine s_sl X dX11_giveOut_39 (fun M => ?_)
      refine s_iinc X 1 dX11_giveOut_40 4 rfl (by decide) (by decide) [(4, zi (x_4 + 1)), (0, za ((some a0))), (1, zi x_1), (2, zi x_2), (3, zi x_3)] rfl ?_
      refine s_goto X 3 dX11_giveOut_43 (by decide) ?_
      refine s_lv [(0, za ((some a0))), (1, zi x_1), (2, zi x_2), (3, zi x_3), (4, zi (x_4 + 1))] [1, 2, 3, 4, 0] rfl ?_
      exact hih3 (x_1, x_2, x_3, x_4 + 1) _
    rintro ⟨x_1, x_2, x_3, x_4⟩ M
    refine s_iload X dX11_giveOut_3 4 rfl ?_
    refine s_aload_n X dX11_giveOut_5 0 rfl ?_
    refine s_gi X (C := RX11) (T := TX11) (N := 32) rfl (by decide) hiX11 hl94 dX11_giveOut_6 (fun x1 => ?_)
    refine s_icmp_ge X 46 dX11_giveOut_9 (by decide) (fun h2 => ?_) (fun h2 => ?_)
    · refine s_iconst X 1 dX11_giveOut_46 (by decide) ?_
      refine s_istore X dX11_giveOut_47 (by decide) [(4, zi (1)), (0, za ((some a0))), (1, zi x_1), (2, zi x_2), (3, zi x_3)] rfl ?_
      refine s_iconst X 0 dX11_giveOut_49 (by decide) ?_
      refine s_istore X dX11_giveOut_50 (by decide) [(5, zi (0)), (4, zi (1)), (0, za ((some a0))), (1, zi x_1), (2, zi x_2), (3, zi x_3)] rfl ?_
      refine s_lv [(0, za ((some a0))), (2, zi x_2), (3, zi x_3), (4, zi (1)), (5, zi (0))] [2, 4, 5, 1, 0] rfl ?_
      exact L52 z_N (x_2, x_3, 1, 0) _
    · refine s_aload_n X dX11_giveOut_12 0 rfl ?_
      refine s_ga X (C := RX11) (T := TX11) (N := 32) rfl (by decide) hiX11 hl88 dX11_giveOut_13 (fun r3 => ?_)
      refine s_iload X dX11_giveOut_16 4 rfl ?_
      refine s_aload_n X dX11_giveOut_18 0 rfl ?_
      refine s_iload_n X dX11_giveOut_19 1 rfl ?_
      refine s_iload_n X dX11_giveOut_20 2 rfl ?_
      refine s_iload_n X dX11_giveOut_21 3 rfl ?_
      refine s_callV (ci := 11) (C := RX11) (As := [zi x_1, zi x_2, zi x_3]) (st := [zi x_4, za r3]) X (fun a => c_X11_mayBeLeft l E a x_1 x_2 x_3) gX11_giveOut_X11_mayBeLeft rfl hy_X11_mayBeLeft rfl rfl rfl rfl (Nat.le_of_ble_eq_true rfl) (by decide) dX11_giveOut_22 (fun x4 M => ?_)
      refine s_if_eq X 38 dX11_giveOut_25 (by decide) (fun h6 => ?_) (fun h6 => ?_)
      · refine s_lconst X 0 dX11_giveOut_38 (by decide) ?_
        exact J39 x_1 x_2 x_3 x_4 r3 x_4 0 _
      · refine s_aload_n X dX11_giveOut_28 0 rfl ?_
        refine s_ga X (C := RX11) (T := TX11) (N := 32) rfl (by decide) hiX11 hl84 dX11_giveOut_29 (fun r7 => ?_)
        refine s_iload X dX11_giveOut_32 4 rfl ?_
        refine s_ll X dX11_giveOut_34 (fun w8 => ?_)
        refine s_goto X 39 dX11_giveOut_35 (by decide) ?_
        exact J39 x_1 x_2 x_3 x_4 r3 x_4 w8 _
  refine s_iconst X 0 dX11_giveOut_0 (by decide) ?_
  refine s_istore X dX11_giveOut_1 (by decide) [(4, zi (0)), (0, za ((some a0))), (1, zi p0), (2, zi p1), (3, zi p2)] rfl ?_
  refine s_lv [(0, za ((some a0))), (1, zi p0), (2, zi p1), (3, zi p2), (4, zi (0))] [1, 2, 3, 4, 0] rfl ?_
  exact L3 z_N (p0, p1, p2, 0) _
theorem hy_X11_least : yX11_least.cls ≠ "java/lang/invoke/MethodHandle" ∧ yX11_least.cls ≠ "java/lang/invoke/VarHandle" ∧ (parseMethodDescriptor yX11_least.desc).map (fun d => d.parameters.length) = some 1 := by decide +kernel
set_option maxHeartbeats 4000000 in
set_option maxRecDepth 100000 in
theorem c_X11_least (l : Launch) (E : zE) (p0 : Int32) : z_Met l E yX11_least wsX11_least 0 0 [zi p0] z_ri (F_X11_least p0) := by
  refine z_of (own := RX11) (cc := cX11_least) (maxL := 1) (rt := (some .int)) rfl (by decide) rfl (Nat.le_of_ble_eq_true rfl) ?_
  intro p e R s0 m args below meth c M0 fin X hr hnm
  have J12 : ∀ (s_0 : Int32) (M : zM), z_S p l e R s0 m args below meth c (z_Qm E below args s0 M0 z_ri fin) E 1 M0 fin M 12 [] [zi s_0] (F_X11_least_12 s_0) := by
    intro s_0 M
    exact s_ret X hr dX11_least_12
  refine s_iload_n X dX11_least_0 0 rfl ?_
  refine s_bipush X 9 dX11_least_1 (by decide) ?_
  refine s_icmp_ge X 10 dX11_least_3 (by decide) (fun h1 => ?_) (fun h1 => ?_)
  · refine s_bipush X 9 dX11_least_10 (by decide) ?_
    refine s_lv [] [] rfl ?_
    exact J12 9 _
  · refine s_iload_n X dX11_least_6 0 rfl ?_
    refine s_goto X 12 dX11_least_7 (by decide) ?_
    refine s_lv [] [] rfl ?_
    exact J12 p0 _
theorem hy_X11_repeat : yX11_repeat.cls = RX11 ∧ yX11_repeat.cls ≠ "java/lang/invoke/MethodHandle" ∧ yX11_repeat.cls ≠ "java/lang/invoke/VarHandle" ∧ (parseMethodDescriptor yX11_repeat.desc).map (fun d => d.parameters.length) = some 4 := by decide +kernel
set_option maxHeartbeats 4000000 in
set_option maxRecDepth 100000 in
theorem c_X11_repeat (l : Launch) (E : zE) (a0 : Nat) (p0 : Int32) (p1 : Int32) (p2 : Int32) (p3 : Int32) : z_Met l E yX11_repeat wsX11_repeat 0 0 [za ((some a0)), zi p0, zi p1, zi p2, zi p3] z_rv (F_X11_repeat a0 p0 p1 p2 p3) := by
  refine z_of (own := RX11) (cc := cX11_repeat) (maxL := 8) (rt := none) rfl (by decide) rfl (Nat.le_of_ble_eq_true rfl) ?_
  intro p e R s0 m args below meth c M0 fin X hr hnm
  have hiX11 : ∀ w ∈ u_ws RX11 TX11 32, w ∈ wsX11_repeat := by decide +kernel
  have hl94 : Cond.fieldLink RX11 94 (TX11 16).1 (TX11 16).2.1 (TX11 16).2.2.1 ∈ wsX11_repeat := by decide +kernel
  have hl71 : Cond.fieldLink RX11 71 (TX11 25).1 (TX11 25).2.1 (TX11 25).2.2.1 ∈ wsX11_repeat := by decide +kernel
  have hl55 : Cond.fieldLink RX11 55 (TX11 18).1 (TX11 18).2.1 (TX11 18).2.2.1 ∈ wsX11_repeat := by decide +kernel
  have hl74 : Cond.fieldLink RX11 74 (TX11 26).1 (TX11 26).2.1 (TX11 26).2.2.1 ∈ wsX11_repeat := by decide +kernel
  have hl47 : Cond.fieldLink RX11 47 (TX11 15).1 (TX11 15).2.1 (TX11 15).2.2.1 ∈ wsX11_repeat := by decide +kernel
  have hl51 : Cond.fieldLink RX11 51 (TX11 17).1 (TX11 17).2.1 (TX11 17).2.2.1 ∈ wsX11_repeat := by decide +kernel
  have hl44 : Cond.fieldLink RX11 44 (TX11 14).1 (TX11 14).2.1 (TX11 14).2.2.1 ∈ wsX11_repeat := by decide +kernel
  have L38 : ∀ (n : Nat) (s : Int32 × Int32 × Int32 × Int32 × Int32) (M : zM), z_S p l e R s0 m args below meth c (z_Qm E below args s0 M0 z_rv fin) E 8 M0 fin M 38 [(0, za (some a0)), (1, zi s.1), (2, zi s.2.1), (3, zi s.2.2.1), (4, zi s.2.2.2.1), (5, zi s.2.2.2.2)] [] (F_X11_repeat_38 a0 n s) := by
    refine s_fix ?_
    intro ih38_ hih38
    have L238 : ∀ (n : Nat) (s : Int32 × Int32 × Int32 × Int32 × Int32 × Int32) (M : zM), z_S p l e R s0 m args below meth c (z_Qm E below args s0 M0 z_rv fin) E 8 M0 fin M 238 [(0, za (some a0)), (1, zi s.1), (2, zi s.2.1), (3, zi s.2.2.1), (4, zi s.2.2.2.1), (5, zi s.2.2.2.2.1), (6, zi s.2.2.2.2.2)] [] (F_X11_repeat_238 a0 (fun y0 y1 y2 y3 y4 => ih38_ (y0, y1, y2, y3, y4)) n s) := by
      refine s_fix ?_
      intro ih238_ hih238
      rintro ⟨x_1, x_2, x_3, x_4, x_5, x_6⟩ M
      refine s_iload X dX11_repeat_238 6 rfl ?_
      refine s_aload_n X dX11_repeat_240 0 rfl ?_
      refine s_gi X (C := RX11) (T := TX11) (N := 32) rfl (by decide) hiX11 hl94 dX11_repeat_241 (fun x41 => ?_)
      refine s_icmp_ge X 267 dX11_repeat_244 (by decide) (fun h42 => ?_) (fun h42 => ?_)
      · refine s_iinc X 1 dX11_repeat_267 5 rfl (by decide) (by decide) [(5, zi (x_5 + 1)), (0, za ((some a0))), (1, zi x_1), (2, zi x_2), (3, zi x_3), (4, zi x_4), (6, zi x_6)] rfl ?_
        refine s_goto X 38 dX11_repeat_270 (by decide) ?_
        refine s_lv [(0, za ((some a0))), (1, zi x_1), (2, zi x_2), (3, zi x_3), (4, zi x_4), (5, zi (x_5 + 1))] [1, 2, 3, 4, 5, 0] rfl ?_
        exact hih38 (x_1, x_2, x_3, x_4, x_5 + 1) _
      · refine s_aload_n X dX11_repeat_247 0 rfl ?_
        refine s_ga X (C := RX11) (T := TX11) (N := 32) rfl (by decide) hiX11 hl71 dX11_repeat_248 (fun r43 => ?_)
        refine s_iload X dX11_repeat_251 6 rfl ?_
        refine s_aload_n X dX11_repeat_253 0 rfl ?_
        refine s_ga X (C := RX11) (T := TX11) (N := 32) rfl (by decide) hiX11 hl74 dX11_repeat_254 (fun r44 => ?_)
        refine s_iload X dX11_repeat_257 6 rfl ?_
        refine s_lb X dX11_repeat_259 (fun x45 => ?_)
        refine s_sb X dX11_repeat_260 (fun M => ?_)
        refine s_iinc X 1 dX11_repeat_261 6 rfl (by decide) (by decide) [(6, zi (x_6 + 1)), (0, za ((some a0))), (1, zi x_1), (2, zi x_2), (3, zi x_3), (4, zi x_4), (5, zi x_5)] rfl ?_
        refine s_goto X 238 dX11_repeat_264 (by decide) ?_
        refine s_lv [(0, za ((some a0))), (1, zi x_1), (2, zi x_2), (3, zi x_3), (4, zi x_4), (5, zi x_5), (6, zi (x_6 + 1))] [1, 2, 3, 4, 5, 6, 0] rfl ?_
        exact hih238 (x_1, x_2, x_3, x_4, x_5, x_6 + 1) _
    have L134 : ∀ (n : Nat) (s : Int32 × Int32 × Int32 × Int32 × Int32 × Int32) (M : zM), z_S p l e R s0 m args below meth c (z_Qm E below args s0 M0 z_rv fin) E 8 M0 fin M 134 [(0, za (some a0)), (1, zi s.1), (2, zi s.2.1), (3, zi s.2.2.1), (4, zi s.2.2.2.1), (5, zi s.2.2.2.2.1), (6, zi s.2.2.2.2.2)] [] (F_X11_repeat_134 a0 (fun y0 y1 y2 y3 y4 => ih38_ (y0, y1, y2, y3, y4)) n s) := by
      refine s_fix ?_
      intro ih134_ hih134
      have J229 : ∀ (x_1 : Int32) (x_2 : Int32) (x_3 : Int32) (x_4 : Int32) (x_5 : Int32) (x_6 : Int32) (M : zM), z_S p l e R s0 m args below meth c (z_Qm E below args s0 M0 z_rv fin) E 8 M0 fin M 229 [(0, za ((some a0))), (1, zi x_1), (2, zi x_2), (3, zi x_3), (4, zi x_4), (5, zi x_5), (6, zi x_6)] [] (F_X11_repeat_229 a0 (fun y0 y1 y2 y3 y4 => ih38_ (y0, y1, y2, y3, y4)) (fun y0 y1 y2 y3 y4 y5 => ih134_ (y0, y1, y2, y3, y4, y5)) x_1 x_2 x_3 x_4 x_5 x_6) := by
        intro x_1 x_2 x_3 x_4 x_5 x_6 M
        refine s_iinc X 1 dX11_repeat_229 6 rfl (by decide) (by decide) [(6, zi (x_6 + 1)), (0, za ((some a0))), (1, zi x_1), (2, zi x_2), (3, zi x_3), (4, zi x_4), (5, zi x_5)] rfl ?_
        refine s_goto X 134 dX11_repeat_232 (by decide) ?_
        refine s_lv [(0, za ((some a0))), (1, zi x_1), (2, zi x_2), (3, zi x_3), (4, zi x_4), (5, zi x_5), (6, zi (x_6 + 1))] [1, 2, 3, 4, 5, 6, 0] rfl ?_
        exact hih134 (x_1, x_2, x_3, x_4, x_5, x_6 + 1) _
      have L146 : ∀ (n : Nat) (s : Int32 × Int32 × Int32 × Int32 × Int32 × Int32 × Int32) (M : zM), z_S p l e R s0 m args below meth c (z_Qm E below args s0 M0 z_rv fin) E 8 M0 fin M 146 [(0, za (some a0)), (1, zi s.1), (2, zi s.2.1), (3, zi s.2.2.1), (4, zi s.2.2.2.1), (5, zi s.2.2.2.2.1), (6, zi s.2.2.2.2.2.1), (7, zi s.2.2.2.2.2.2)] [] (F_X11_repeat_146 a0 (fun y0 y1 y2 y3 y4 => ih38_ (y0, y1, y2, y3, y4)) (fun y0 y1 y2 y3 y4 y5 => ih134_ (y0, y1, y2, y3, y4, y5)) n s) := by
        refine s_fix ?_
        intro ih146_ hih146
        have J223 : ∀ (x_1 : Int32) (x_2 : Int32) (x_3 : Int32) (x_4 : Int32) (x_5 : Int32) (x_6 : Int32) (x_7 : Int32) (M : zM), z_S p l e R s0 m args below meth c (z_Qm E below args s0 M0 z_rv fin) E 8 M0 fin M 223 [(0, za ((some a0))), (1, zi x_1), (2, zi x_2), (3, zi x_3), (4, zi x_4), (5, zi x_5), (6, zi x_6), (7, zi x_7)] [] (F_X11_repeat_223 a0 (fun y0 y1 y2 y3 y4 => ih38_ (y0, y1, y2, y3, y4)) (fun y0 y1 y2 y3 y4 y5 => ih134_ (y0, y1, y2, y3, y4, y5)) (fun y0 y1 y2 y3 y4 y5 y6 => ih146_ (y0, y1, y2, y3, y4, y5, y6)) x_1 x_2 x_3 x_4 x_5 x_6 x_7) := by
          intro x_1 x_2 x_3 x_4 x_5 x_6 x_7 M
          refine s_iinc X 1 dX11_repeat_223 7 rfl (by decide) (by decide) [(7, zi (x_7 + 1)), (0, za ((some a0))), (1, zi x_1), (2, zi x_2), (3, zi x_3), (4, zi x_4), (5, zi x_5), (6, zi x_6)] rfl ?_
          refine s_goto X 146 dX11_repeat_226 (by decide) ?_
          refine s_lv [(0, za ((some a0))), (1, zi x_1), (2, zi x_2), (3, zi x_3), (4, zi x_4), (5, zi x_5), (6, zi x_6), (7, zi (x_7 + 1))] [1, 2, 3, 4, 5, 6, 7, 0] rfl ?_
          exact hih146 (x_1, x_2, x_3, x_4, x_5, x_6, x_7 + 1) _
        rintro ⟨x_1, x_2, x_3, x_4, x_5, x_6, x_7⟩ M
        refine s_iload X dX11_repeat_146 7 rfl ?_
        refine s_aload_n X dX11_repeat_148 0 rfl ?_
        refine s_gi X (C := RX11) (T := TX11) (N := 32) rfl (by decide) hiX11 hl94 dX11_repeat_149 (fun x21 => ?_)
        refine s_icmp_ge X 229 dX11_repeat_152 (by decide) (fun h22 => ?_) (fun h22 => ?_)
        · refine s_lv [(0, za ((some a0))), (1, zi x_1), (2, zi x_2), (3, zi x_3), (4, zi x_4), (5, zi x_5), (6, zi x_6)] [0, 1, 2, 3, 4, 5, 6] rfl ?_
          exact J229 x_1 x_2 x_3 x_4 x_5 x_6 _
        · refine s_aload_n X dX11_repeat_155 0 rfl ?_
          refine s_ga X (C := RX11) (T := TX11) (N := 32) rfl (by decide) hiX11 hl71 dX11_repeat_156 (fun r23 => ?_)
          refine s_iload X dX11_repeat_159 6 rfl ?_
          refine s_lb X dX11_repeat_161 (fun x24 => ?_)
          refine s_if_eq X 229 dX11_repeat_162 (by decide) (fun h25 => ?_) (fun h25 => ?_)
          · refine s_lv [(0, za ((some a0))), (1, zi x_1), (2, zi x_2), (3, zi x_3), (4, zi x_4), (5, zi x_5), (6, zi x_6)] [0, 1, 2, 3, 4, 5, 6] rfl ?_
            exact J229 x_1 x_2 x_3 x_4 x_5 x_6 _
          · refine s_aload_n X dX11_repeat_165 0 rfl ?_
            refine s_ga X (C := RX11) (T := TX11) (N := 32) rfl (by decide) hiX11 hl55 dX11_repeat_166 (fun r26 => ?_)
            refine s_iload_n X dX11_repeat_169 1 rfl ?_
            refine s_iload X dX11_repeat_170 7 rfl ?_
            refine s_iadd X dX11_repeat_172 ?_
            refine s_lb X dX11_repeat_173 (fun x27 => ?_)
            refine s_if_eq X 223 dX11_repeat_174 (by decide) (fun h28 => ?_) (fun h28 => ?_)
            · exact J223 x_1 x_2 x_3 x_4 x_5 x_6 x_7 _
            · refine s_aload_n X dX11_repeat_177 0 rfl ?_
              refine s_ga X (C := RX11) (T := TX11) (N := 32) rfl (by decide) hiX11 hl47 dX11_repeat_178 (fun r29 => ?_)
              refine s_iload X dX11_repeat_181 6 rfl ?_
              refine s_li X dX11_repeat_183 (fun x30 => ?_)
              refine s_aload_n X dX11_repeat_184 0 rfl ?_
              refine s_ga X (C := RX11) (T := TX11) (N := 32) rfl (by decide) hiX11 hl47 dX11_repeat_185 (fun r31 => ?_)
              refine s_iload X dX11_repeat_188 7 rfl ?_
              refine s_li X dX11_repeat_190 (fun x32 => ?_)
              refine s_iadd X dX11_repeat_191 ?_
              refine s_bipush X 9 dX11_repeat_192 (by decide) ?_
              refine s_icmp_ge X 223 dX11_repeat_194 (by decide) (fun h33 => ?_) (fun h33 => ?_)
              · exact J223 x_1 x_2 x_3 x_4 x_5 x_6 x_7 _
              · refine s_aload_n X dX11_repeat_197 0 rfl ?_
                refine s_ga X (C := RX11) (T := TX11) (N := 32) rfl (by decide) hiX11 hl74 dX11_repeat_198 (fun r34 => ?_)
                refine s_aload_n X dX11_repeat_201 0 rfl ?_
                refine s_ga X (C := RX11) (T := TX11) (N := 32) rfl (by decide) hiX11 hl51 dX11_repeat_202 (fun r35 => ?_)
                refine s_aload_n X dX11_repeat_205 0 rfl ?_
                refine s_ga X (C := RX11) (T := TX11) (N := 32) rfl (by decide) hiX11 hl44 dX11_repeat_206 (fun r36 => ?_)
                refine s_iload X dX11_repeat_209 6 rfl ?_
                refine s_li X dX11_repeat_211 (fun x37 => ?_)
                refine s_aload_n X dX11_repeat_212 0 rfl ?_
                refine s_ga X (C := RX11) (T := TX11) (N := 32) rfl (by decide) hiX11 hl44 dX11_repeat_213 (fun r38 => ?_)
                refine s_iload X dX11_repeat_216 7 rfl ?_
                refine s_li X dX11_repeat_218 (fun x39 => ?_)
                refine s_iadd X dX11_repeat_219 ?_
                refine s_li X dX11_repeat_220 (fun x40 => ?_)
                refine s_iconst X 1 dX11_repeat_221 (by decide) ?_
                refine s_sb X dX11_repeat_222 (fun M => ?_)
                exact J223 x_1 x_2 x_3 x_4 x_5 x_6 x_7 _
      rintro ⟨x_1, x_2, x_3, x_4, x_5, x_6⟩ M
      refine s_iload X dX11_repeat_134 6 rfl ?_
      refine s_aload_n X dX11_repeat_136 0 rfl ?_
      refine s_gi X (C := RX11) (T := TX11) (N := 32) rfl (by decide) hiX11 hl94 dX11_repeat_137 (fun x19 => ?_)
      refine s_icmp_ge X 235 dX11_repeat_140 (by decide) (fun h20 => ?_) (fun h20 => ?_)
      · refine s_iconst X 0 dX11_repeat_235 (by decide) ?_
        refine s_istore X dX11_repeat_236 (by decide) [(6, zi (0)), (0, za ((some a0))), (1, zi x_1), (2, zi x_2), (3, zi x_3), (4, zi x_4), (5, zi x_5)] rfl ?_
        refine s_lv [(0, za ((some a0))), (1, zi x_1), (2, zi x_2), (3, zi x_3), (4, zi x_4), (5, zi x_5), (6, zi (0))] [1, 2, 3, 4, 5, 6, 0] rfl ?_
        exact L238 z_N (x_1, x_2, x_3, x_4, x_5, 0) _
      · refine s_iconst X 0 dX11_repeat_143 (by decide) ?_
        refine s_istore X dX11_repeat_144 (by decide) [(7, zi (0)), (0, za ((some a0))), (1, zi x_1), (2, zi x_2), (3, zi x_3), (4, zi x_4), (5, zi x_5), (6, zi x_6)] rfl ?_
        refine s_lv [(0, za ((some a0))), (1, zi x_1), (2, zi x_2), (3, zi x_3), (4, zi x_4), (5, zi x_5), (6, zi x_6), (7, zi (0))] [1, 2, 3, 4, 5, 6, 7, 0] rfl ?_
        exact L146 z_N (x_1, x_2, x_3, x_4, x_5, x_6, 0) _
    have L108 : ∀ (n : Nat) (s : Int32 × Int32 × Int32 × Int32 × Int32 × Int32) (M : zM), z_S p l e R s0 m args below meth c (z_Qm E below args s0 M0 z_rv fin) E 8 M0 fin M 108 [(0, za (some a0)), (1, zi s.1), (2, zi s.2.1), (3, zi s.2.2.1), (4, zi s.2.2.2.1), (5, zi s.2.2.2.2.1), (6, zi s.2.2.2.2.2)] [] (F_X11_repeat_108 a0 (fun y0 y1 y2 y3 y4 => ih38_ (y0, y1, y2, y3, y4)) n s) := by
      refine s_fix ?_
      intro ih108_ hih108
      rintro ⟨x_1, x_2, x_3, x_4, x_5, x_6⟩ M
      refine s_iload X dX11_repeat_108 6 rfl ?_
      refine s_aload_n X dX11_repeat_110 0 rfl ?_
      refine s_gi X (C := RX11) (T := TX11) (N := 32) rfl (by decide) hiX11 hl94 dX11_repeat_111 (fun x16 => ?_)
      refine s_icmp_ge X 131 dX11_repeat_114 (by decide) (fun h17 => ?_) (fun h17 => ?_)
      · refine s_iconst X 0 dX11_repeat_131 (by decide) ?_
        refine s_istore X dX11_repeat_132 (by decide) [(6, zi (0)), (0, za ((some a0))), (1, zi x_1), (2, zi x_2), (3, zi x_3), (4, zi x_4), (5, zi x_5)] rfl ?_
        refine s_lv [(0, za ((some a0))), (1, zi x_1), (2, zi x_2), (3, zi x_3), (4, zi x_4), (5, zi x_5), (6, zi (0))] [1, 2, 3, 4, 5, 6, 0] rfl ?_
        exact L134 z_N (x_1, x_2, x_3, x_4, x_5, 0) _
      · refine s_aload_n X dX11_repeat_117 0 rfl ?_
        refine s_ga X (C := RX11) (T := TX11) (N := 32) rfl (by decide) hiX11 hl74 dX11_repeat_118 (fun r18 => ?_)
        refine s_iload X dX11_repeat_121 6 rfl ?_
        refine s_iconst X 0 dX11_repeat_123 (by decide) ?_
        refine s_sb X dX11_repeat_124 (fun M => ?_)
        refine s_iinc X 1 dX11_repeat_125 6 rfl (by decide) (by decide) [(6, zi (x_6 + 1)), (0, za ((some a0))), (1, zi x_1), (2, zi x_2), (3, zi x_3), (4, zi x_4), (5, zi x_5)] rfl ?_
        refine s_goto X 108 dX11_repeat_128 (by decide) ?_
        refine s_lv [(0, za ((some a0))), (1, zi x_1), (2, zi x_2), (3, zi x_3), (4, zi x_4), (5, zi x_5), (6, zi (x_6 + 1))] [1, 2, 3, 4, 5, 6, 0] rfl ?_
        exact hih108 (x_1, x_2, x_3, x_4, x_5, x_6 + 1) _
    have J105 : ∀ (x_1 : Int32) (x_2 : Int32) (x_3 : Int32) (x_4 : Int32) (x_5 : Int32) (M : zM), z_S p l e R s0 m args below meth c (z_Qm E below args s0 M0 z_rv fin) E 8 M0 fin M 105 [(0, za ((some a0))), (1, zi x_1), (2, zi x_2), (3, zi x_3), (4, zi x_4), (5, zi x_5)] [] (F_X11_repeat_105 a0 (fun y0 y1 y2 y3 y4 => ih38_ (y0, y1, y2, y3, y4)) x_1 x_2 x_3 x_4 x_5) := by
      intro x_1 x_2 x_3 x_4 x_5 M
      refine s_iconst X 0 dX11_repeat_105 (by decide) ?_
      refine s_istore X dX11_repeat_106 (by decide) [(6, zi (0)), (0, za ((some a0))), (1, zi x_1), (2, zi x_2), (3, zi x_3), (4, zi x_4), (5, zi x_5)] rfl ?_
      refine s_lv [(0, za ((some a0))), (1, zi x_1), (2, zi x_2), (3, zi x_3), (4, zi x_4), (5, zi x_5), (6, zi (0))] [1, 2, 3, 4, 5, 6, 0] rfl ?_
      exact L108 z_N (x_1, x_2, x_3, x_4, x_5, 0) _
    have L48 : ∀ (n : Nat) (s : Int32 × Int32 × Int32 × Int32 × Int32 × Int32) (M : zM), z_S p l e R s0 m args below meth c (z_Qm E below args s0 M0 z_rv fin) E 8 M0 fin M 48 [(0, za (some a0)), (1, zi s.1), (2, zi s.2.1), (3, zi s.2.2.1), (4, zi s.2.2.2.1), (5, zi s.2.2.2.2.1), (6, zi s.2.2.2.2.2)] [] (F_X11_repeat_48 a0 (fun y0 y1 y2 y3 y4 => ih38_ (y0, y1, y2, y3, y4)) n s) := by
      refine s_fix ?_
      intro ih48_ hih48
      have J98 : ∀ (x_1 : Int32) (x_2 : Int32) (x_3 : Int32) (x_4 : Int32) (x_5 : Int32) (x_6 : Int32) (t_0 : Option Nat) (s_1 : Int32) (s_2 : Int32) (M : zM), z_S p l e R s0 m args below meth c (z_Qm E below args s0 M0 z_rv fin) E 8 M0 fin M 98 [(0, za ((some a0))), (1, zi x_1), (2, zi x_2), (3, zi x_3), (4, zi x_4), (5, zi x_5), (6, zi x_6)] [zi s_2, zi s_1, za t_0] (F_X11_repeat_98 a0 (fun y0 y1 y2 y3 y4 => ih38_ (y0, y1, y2, y3, y4)) (fun y0 y1 y2 y3 y4 y5 => ih48_ (y0, y1, y2, y3, y4, y5)) x_1 x_2 x_3 x_4 x_5 x_6 t_0 s_1 s_2) := by
        intro x_1 x_2 x_3 x_4 x_5 x_6 t_0 s_1 s_2 M
        refine s_sb X dX11_repeat_98 (fun M => ?_)
        refine s_iinc X 1 dX11_repeat_99 6 rfl (by decide) (by decide) [(6, zi (x_6 + 1)), (0, za ((some a0))), (1, zi x_1), (2, zi x_2), (3, zi x_3), (4, zi x_4), (5, zi x_5)] rfl ?_
        refine s_goto X 48 dX11_repeat_102 (by decide) ?_
        refine s_lv [(0, za ((some a0))), (1, zi x_1), (2, zi x_2), (3, zi x_3), (4, zi x_4), (5, zi x_5), (6, zi (x_6 + 1))] [1, 2, 3, 4, 5, 6, 0] rfl ?_
        exact hih48 (x_1, x_2, x_3, x_4, x_5, x_6 + 1) _
      have J93 : ∀ (x_1 : Int32) (x_2 : Int32) (x_3 : Int32) (x_4 : Int32) (x_5 : Int32) (x_6 : Int32) (t_0 : Option Nat) (s_1 : Int32) (M : zM), z_S p l e R s0 m args below meth c (z_Qm E below args s0 M0 z_rv fin) E 8 M0 fin M 93 [(0, za ((some a0))), (1, zi x_1), (2, zi x_2), (3, zi x_3), (4, zi x_4), (5, zi x_5), (6, zi x_6)] [zi s_1, za t_0] (F_X11_repeat_93 a0 (fun y0 y1 y2 y3 y4 => ih38_ (y0, y1, y2, y3, y4)) (fun y0 y1 y2 y3 y4 y5 => ih48_ (y0, y1, y2, y3, y4, y5)) x_1 x_2 x_3 x_4 x_5 x_6 t_0 s_1) := by
        intro x_1 x_2 x_3 x_4 x_5 x_6 t_0 s_1 M
        refine s_iconst X 1 dX11_repeat_93 (by decide) ?_
        refine s_goto X 98 dX11_repeat_94 (by decide) ?_
        exact J98 x_1 x_2 x_3 x_4 x_5 x_6 t_0 s_1 1 _
      rintro ⟨x_1, x_2, x_3, x_4, x_5, x_6⟩ M
      refine s_iload X dX11_repeat_48 6 rfl ?_
      refine s_aload_n X dX11_repeat_50 0 rfl ?_
      refine s_gi X (C := RX11) (T := TX11) (N := 32) rfl (by decide) hiX11 hl94 dX11_repeat_51 (fun x6 => ?_)
      refine s_icmp_ge X 105 dX11_repeat_54 (by decide) (fun h7 => ?_) (fun h7 => ?_)
      · refine s_lv [(0, za ((some a0))), (1, zi x_1), (2, zi x_2), (3, zi x_3), (4, zi x_4), (5, zi x_5)] [0, 1, 2, 3, 4, 5] rfl ?_
        exact J105 x_1 x_2 x_3 x_4 x_5 _
      · refine s_iload X dX11_repeat_57 5 rfl ?_
        refine s_iload_n X dX11_repeat_59 3 rfl ?_
        refine s_icmp_lt X 105 dX11_repeat_60 (by decide) (fun h8 => ?_) (fun h8 => ?_)
        · refine s_lv [(0, za ((some a0))), (1, zi x_1), (2, zi x_2), (3, zi x_3), (4, zi x_4), (5, zi x_5)] [0, 1, 2, 3, 4, 5] rfl ?_
          exact J105 x_1 x_2 x_3 x_4 x_5 _
        · refine s_aload_n X dX11_repeat_63 0 rfl ?_
          refine s_ga X (C := RX11) (T := TX11) (N := 32) rfl (by decide) hiX11 hl55 dX11_repeat_64 (fun r9 => ?_)
          refine s_iload_n X dX11_repeat_67 2 rfl ?_
          refine s_iload X dX11_repeat_68 6 rfl ?_
          refine s_iadd X dX11_repeat_70 ?_
          refine s_aload_n X dX11_repeat_71 0 rfl ?_
          refine s_ga X (C := RX11) (T := TX11) (N := 32) rfl (by decide) hiX11 hl55 dX11_repeat_72 (fun r10 => ?_)
          refine s_iload_n X dX11_repeat_75 2 rfl ?_
          refine s_iload X dX11_repeat_76 6 rfl ?_
          refine s_iadd X dX11_repeat_78 ?_
          refine s_lb X dX11_repeat_79 (fun x11 => ?_)
          refine s_if_ne X 93 dX11_repeat_80 (by decide) (fun h12 => ?_) (fun h12 => ?_)
          · exact J93 x_1 x_2 x_3 x_4 x_5 x_6 r9 (x_2 + x_6) _
          · refine s_aload_n X dX11_repeat_83 0 rfl ?_
            refine s_ga X (C := RX11) (T := TX11) (N := 32) rfl (by decide) hiX11 hl71 dX11_repeat_84 (fun r13 => ?_)
            refine s_iload X dX11_repeat_87 6 rfl ?_
            refine s_lb X dX11_repeat_89 (fun x14 => ?_)
            refine s_if_eq X 97 dX11_repeat_90 (by decide) (fun h15 => ?_) (fun h15 => ?_)
            · refine s_iconst X 0 dX11_repeat_97 (by decide) ?_
              exact J98 x_1 x_2 x_3 x_4 x_5 x_6 r9 (x_2 + x_6) 0 _
            · exact J93 x_1 x_2 x_3 x_4 x_5 x_6 r9 (x_2 + x_6) _
    rintro ⟨x_1, x_2, x_3, x_4, x_5⟩ M
    refine s_iload X dX11_repeat_38 5 rfl ?_
    refine s_iload X dX11_repeat_40 4 rfl ?_
    refine s_icmp_gt X 273 dX11_repeat_42 (by decide) (fun h5 => ?_) (fun h5 => ?_)
    · exact s_retv X hr dX11_repeat_273
    · refine s_iconst X 0 dX11_repeat_45 (by decide) ?_
      refine s_istore X dX11_repeat_46 (by decide) [(6, zi (0)), (0, za ((some a0))), (1, zi x_1), (2, zi x_2), (3, zi x_3), (4, zi x_4), (5, zi x_5)] rfl ?_
      refine s_lv [(0, za ((some a0))), (1, zi x_1), (2, zi x_2), (3, zi x_3), (4, zi x_4), (5, zi x_5), (6, zi (0))] [1, 2, 3, 4, 5, 6, 0] rfl ?_
      exact L48 z_N (x_1, x_2, x_3, x_4, x_5, 0) _
  have L3 : ∀ (n : Nat) (s : Int32 × Int32 × Int32 × Int32 × Int32) (M : zM), z_S p l e R s0 m args below meth c (z_Qm E below args s0 M0 z_rv fin) E 8 M0 fin M 3 [(0, za (some a0)), (1, zi s.1), (2, zi s.2.1), (3, zi s.2.2.1), (4, zi s.2.2.2.1), (5, zi s.2.2.2.2)] [] (F_X11_repeat_3 a0 n s) := by
    refine s_fix ?_
    intro ih3_ hih3
    have J28 : ∀ (x_1 : Int32) (x_2 : Int32) (x_3 : Int32) (x_4 : Int32) (x_5 : Int32) (t_0 : Option Nat) (s_1 : Int32) (s_2 : Int32) (M : zM), z_S p l e R s0 m args below meth c (z_Qm E below args s0 M0 z_rv fin) E 8 M0 fin M 28 [(0, za ((some a0))), (1, zi x_1), (2, zi x_2), (3, zi x_3), (4, zi x_4), (5, zi x_5)] [zi s_2, zi s_1, za t_0] (F_X11_repeat_28 a0 (fun y0 y1 y2 y3 y4 => ih3_ (y0, y1, y2, y3, y4)) x_1 x_2 x_3 x_4 x_5 t_0 s_1 s_2) := by
      intro x_1 x_2 x_3 x_4 x_5 t_0 s_1 s_2 M
      refine s_sb X dX11_repeat_28 (fun M => ?_)
      refine s_iinc X 1 dX11_repeat_29 5 rfl (by decide) (by decide) [(5, zi (x_5 + 1)), (0, za ((some a0))), (1, zi x_1), (2, zi x_2), (3, zi x_3), (4, zi x_4)] rfl ?_
      refine s_goto X 3 dX11_repeat_32 (by decide) ?_
      refine s_lv [(0, za ((some a0))), (1, zi x_1), (2, zi x_2), (3, zi x_3), (4, zi x_4), (5, zi (x_5 + 1))] [1, 2, 3, 4, 5, 0] rfl ?_
      exact hih3 (x_1, x_2, x_3, x_4, x_5 + 1) _
    rintro ⟨x_1, x_2, x_3, x_4, x_5⟩ M
    refine s_iload X dX11_repeat_3 5 rfl ?_
    refine s_aload_n X dX11_repeat_5 0 rfl ?_
    refine s_gi X (C := RX11) (T := TX11) (N := 32) rfl (by decide) hiX11 hl94 dX11_repeat_6 (fun x1 => ?_)
    refine s_icmp_ge X 35 dX11_repeat_9 (by decide) (fun h2 => ?_) (fun h2 => ?_)
    · refine s_iconst X 0 dX11_repeat_35 (by decide) ?_
      refine s_istore X dX11_repeat_36 (by decide) [(5, zi (0)), (0, za ((some a0))), (1, zi x_1), (2, zi x_2), (3, zi x_3), (4, zi x_4)] rfl ?_
      refine s_lv [(0, za ((some a0))), (1, zi x_1), (2, zi x_2), (3, zi x_3), (4, zi x_4), (5, zi (0))] [1, 2, 3, 4, 5, 0] rfl ?_
      exact L38 z_N (x_1, x_2, x_3, x_4, 0) _
    · refine s_aload_n X dX11_repeat_12 0 rfl ?_
      refine s_ga X (C := RX11) (T := TX11) (N := 32) rfl (by decide) hiX11 hl71 dX11_repeat_13 (fun r3 => ?_)
      refine s_iload X dX11_repeat_16 5 rfl ?_
      refine s_iload X dX11_repeat_18 5 rfl ?_
      refine s_if_ne X 27 dX11_repeat_20 (by decide) (fun h4 => ?_) (fun h4 => ?_)
      · refine s_iconst X 0 dX11_repeat_27 (by decide) ?_
        exact J28 x_1 x_2 x_3 x_4 x_5 r3 x_5 0 _
      · refine s_iconst X 1 dX11_repeat_23 (by decide) ?_
        refine s_goto X 28 dX11_repeat_24 (by decide) ?_
        exact J28 x_1 x_2 x_3 x_4 x_5 r3 x_5 1 _
  refine s_iconst X 0 dX11_repeat_0 (by decide) ?_
  refine s_istore X dX11_repeat_1 (by decide) [(5, zi (0)), (0, za ((some a0))), (1, zi p0), (2, zi p1), (3, zi p2), (4, zi p3)] rfl ?_
  refine s_lv [(0, za ((some a0))), (1, zi p0), (2, zi p1), (3, zi p2), (4, zi p3), (5, zi (0))] [1, 2, 3, 4, 5, 0] rfl ?_
  exact L3 z_N (p0, p1, p2, p3, 0) _
theorem hy_X11_row : yX11_row.cls = RX11 ∧ yX11_row.cls ≠ "java/lang/invoke/MethodHandle" ∧ yX11_row.cls ≠ "java/lang/invoke/VarHandle" ∧ (parseMethodDescriptor yX11_row.desc).map (fun d => d.parameters.length) = some 1 := by decide +kernel
set_option maxHeartbeats 4000000 in
set_option maxRecDepth 100000 in
theorem c_X11_row (l : Launch) (E : zE) (a0 : Nat) (p0 : Int32) : z_Met l E yX11_row wsX11_row 0 0 [za ((some a0)), zi p0] z_ri (F_X11_row a0 p0) := by
  refine z_of (own := RX11) (cc := cX11_row) (maxL := 2) (rt := (some .int)) rfl (by decide) rfl (Nat.le_of_ble_eq_true rfl) ?_
  intro p e R s0 m args below meth c M0 fin X hr hnm
  have hiX11 : ∀ w ∈ u_ws RX11 TX11 32, w ∈ wsX11_row := by decide +kernel
  have hl68 : Cond.fieldLink RX11 68 (TX11 24).1 (TX11 24).2.1 (TX11 24).2.2.1 ∈ wsX11_row := by decide +kernel
  refine s_sipush X 1300 dX11_row_0 (by decide) ?_
  refine s_aload_n X dX11_row_3 0 rfl ?_
  refine s_ga X (C := RX11) (T := TX11) (N := 32) rfl (by decide) hiX11 hl68 dX11_row_4 (fun r1 => ?_)
  refine s_iload_n X dX11_row_7 1 rfl ?_
  refine s_li X dX11_row_8 (fun x2 => ?_)
  refine s_imul X dX11_row_9 ?_
  exact s_ret X hr dX11_row_10
theorem hy_X11_together : yX11_together.cls = RX11 ∧ yX11_together.cls ≠ "java/lang/invoke/MethodHandle" ∧ yX11_together.cls ≠ "java/lang/invoke/VarHandle" ∧ (parseMethodDescriptor yX11_together.desc).map (fun d => d.parameters.length) = some 3 := by decide +kernel
set_option maxHeartbeats 4000000 in
set_option maxRecDepth 100000 in
theorem c_X11_together (l : Launch) (E : zE) (a0 : Nat) (p0 : Int32) (p1 : Int32) (p2 : Int32) : z_Met l E yX11_together wsX11_together 0 0 [za ((some a0)), zi p0, zi p1, zi p2] z_rv (F_X11_together a0 p0 p1 p2) := by
  refine z_of (own := RX11) (cc := cX11_together) (maxL := 6) (rt := none) rfl (by decide) rfl (Nat.le_of_ble_eq_true rfl) ?_
  intro p e R s0 m args below meth c M0 fin X hr hnm
  have hiX11 : ∀ w ∈ u_ws RX11 TX11 32, w ∈ wsX11_together := by decide +kernel
  have hl94 : Cond.fieldLink RX11 94 (TX11 16).1 (TX11 16).2.1 (TX11 16).2.2.1 ∈ wsX11_together := by decide +kernel
  have hl55 : Cond.fieldLink RX11 55 (TX11 18).1 (TX11 18).2.1 (TX11 18).2.2.1 ∈ wsX11_together := by decide +kernel
  have hl47 : Cond.fieldLink RX11 47 (TX11 15).1 (TX11 15).2.1 (TX11 15).2.2.1 ∈ wsX11_together := by decide +kernel
  have hl51 : Cond.fieldLink RX11 51 (TX11 17).1 (TX11 17).2.1 (TX11 17).2.2.1 ∈ wsX11_together := by decide +kernel
  have hl44 : Cond.fieldLink RX11 44 (TX11 14).1 (TX11 14).2.1 (TX11 14).2.2.1 ∈ wsX11_together := by decide +kernel
  have L3 : ∀ (n : Nat) (s : Int32 × Int32 × Int32 × Int32) (M : zM), z_S p l e R s0 m args below meth c (z_Qm E below args s0 M0 z_rv fin) E 6 M0 fin M 3 [(0, za (some a0)), (1, zi s.1), (2, zi s.2.1), (3, zi s.2.2.1), (4, zi s.2.2.2)] [] (F_X11_together_3 a0 n s) := by
    refine s_fix ?_
    intro ih3_ hih3
    have J102 : ∀ (x_1 : Int32) (x_2 : Int32) (x_3 : Int32) (x_4 : Int32) (M : zM), z_S p l e R s0 m args below meth c (z_Qm E below args s0 M0 z_rv fin) E 6 M0 fin M 102 [(0, za ((some a0))), (1, zi x_1), (2, zi x_2), (3, zi x_3), (4, zi x_4)] [] (F_X11_together_102 a0 (fun y0 y1 y2 y3 => ih3_ (y0, y1, y2, y3)) x_1 x_2 x_3 x_4) := by
      intro x_1 x_2 x_3 x_4 M
      refine s_iinc X 1 dX11_together_102 4 rfl (by decide) (by decide) [(4, zi (x_4 + 1)), (0, za ((some a0))), (1, zi x_1), (2, zi x_2), (3, zi x_3)] rfl ?_
      refine s_goto X 3 dX11_together_105 (by decide) ?_
      refine s_lv [(0, za ((some a0))), (1, zi x_1), (2, zi x_2), (3, zi x_3), (4, zi (x_4 + 1))] [1, 2, 3, 4, 0] rfl ?_
      exact hih3 (x_1, x_2, x_3, x_4 + 1) _
    have L15 : ∀ (n : Nat) (s : Int32 × Int32 × Int32 × Int32 × Int32) (M : zM), z_S p l e R s0 m args below meth c (z_Qm E below args s0 M0 z_rv fin) E 6 M0 fin M 15 [(0, za (some a0)), (1, zi s.1), (2, zi s.2.1), (3, zi s.2.2.1), (4, zi s.2.2.2.1), (5, zi s.2.2.2.2)] [] (F_X11_together_15 a0 (fun y0 y1 y2 y3 => ih3_ (y0, y1, y2, y3)) n s) := by
      refine s_fix ?_
      intro ih15_ hih15
      have J96 : ∀ (x_1 : Int32) (x_2 : Int32) (x_3 : Int32) (x_4 : Int32) (x_5 : Int32) (M : zM), z_S p l e R s0 m args below meth c (z_Qm E below args s0 M0 z_rv fin) E 6 M0 fin M 96 [(0, za ((some a0))), (1, zi x_1), (2, zi x_2), (3, zi x_3), (4, zi x_4), (5, zi x_5)] [] (F_X11_together_96 a0 (fun y0 y1 y2 y3 => ih3_ (y0, y1, y2, y3)) (fun y0 y1 y2 y3 y4 => ih15_ (y0, y1, y2, y3, y4)) x_1 x_2 x_3 x_4 x_5) := by
        intro x_1 x_2 x_3 x_4 x_5 M
        refine s_iinc X 1 dX11_together_96 5 rfl (by decide) (by decide) [(5, zi (x_5 + 1)), (0, za ((some a0))), (1, zi x_1), (2, zi x_2), (3, zi x_3), (4, zi x_4)] rfl ?_
        refine s_goto X 15 dX11_together_99 (by decide) ?_
        refine s_lv [(0, za ((some a0))), (1, zi x_1), (2, zi x_2), (3, zi x_3), (4, zi x_4), (5, zi (x_5 + 1))] [1, 2, 3, 4, 5, 0] rfl ?_
        exact hih15 (x_1, x_2, x_3, x_4, x_5 + 1) _
      rintro ⟨x_1, x_2, x_3, x_4, x_5⟩ M
      refine s_iload X dX11_together_15 5 rfl ?_
      refine s_aload_n X dX11_together_17 0 rfl ?_
      refine s_gi X (C := RX11) (T := TX11) (N := 32) rfl (by decide) hiX11 hl94 dX11_together_18 (fun x3 => ?_)
      refine s_icmp_ge X 102 dX11_together_21 (by decide) (fun h4 => ?_) (fun h4 => ?_)
      · refine s_lv [(0, za ((some a0))), (1, zi x_1), (2, zi x_2), (3, zi x_3), (4, zi x_4)] [0, 1, 2, 3, 4] rfl ?_
        exact J102 x_1 x_2 x_3 x_4 _
      · refine s_aload_n X dX11_together_24 0 rfl ?_
        refine s_ga X (C := RX11) (T := TX11) (N := 32) rfl (by decide) hiX11 hl55 dX11_together_25 (fun r5 => ?_)
        refine s_iload_n X dX11_together_28 1 rfl ?_
        refine s_iload X dX11_together_29 4 rfl ?_
        refine s_iadd X dX11_together_31 ?_
        refine s_lb X dX11_together_32 (fun x6 => ?_)
        refine s_if_eq X 102 dX11_together_33 (by decide) (fun h7 => ?_) (fun h7 => ?_)
        · refine s_lv [(0, za ((some a0))), (1, zi x_1), (2, zi x_2), (3, zi x_3), (4, zi x_4)] [0, 1, 2, 3, 4] rfl ?_
          exact J102 x_1 x_2 x_3 x_4 _
        · refine s_aload_n X dX11_together_36 0 rfl ?_
          refine s_ga X (C := RX11) (T := TX11) (N := 32) rfl (by decide) hiX11 hl55 dX11_together_37 (fun r8 => ?_)
          refine s_iload_n X dX11_together_40 2 rfl ?_
          refine s_iload X dX11_together_41 5 rfl ?_
          refine s_iadd X dX11_together_43 ?_
          refine s_lb X dX11_together_44 (fun x9 => ?_)
          refine s_if_eq X 96 dX11_together_45 (by decide) (fun h10 => ?_) (fun h10 => ?_)
          · exact J96 x_1 x_2 x_3 x_4 x_5 _
          · refine s_aload_n X dX11_together_48 0 rfl ?_
            refine s_ga X (C := RX11) (T := TX11) (N := 32) rfl (by decide) hiX11 hl47 dX11_together_49 (fun r11 => ?_)
            refine s_iload X dX11_together_52 4 rfl ?_
            refine s_li X dX11_together_54 (fun x12 => ?_)
            refine s_aload_n X dX11_together_55 0 rfl ?_
            refine s_ga X (C := RX11) (T := TX11) (N := 32) rfl (by decide) hiX11 hl47 dX11_together_56 (fun r13 => ?_)
            refine s_iload X dX11_together_59 5 rfl ?_
            refine s_li X dX11_together_61 (fun x14 => ?_)
            refine s_iadd X dX11_together_62 ?_
            refine s_bipush X 9 dX11_together_63 (by decide) ?_
            refine s_icmp_ge X 96 dX11_together_65 (by decide) (fun h15 => ?_) (fun h15 => ?_)
            · exact J96 x_1 x_2 x_3 x_4 x_5 _
            · refine s_aload_n X dX11_together_68 0 rfl ?_
              refine s_ga X (C := RX11) (T := TX11) (N := 32) rfl (by decide) hiX11 hl55 dX11_together_69 (fun r16 => ?_)
              refine s_iload_n X dX11_together_72 3 rfl ?_
              refine s_aload_n X dX11_together_73 0 rfl ?_
              refine s_ga X (C := RX11) (T := TX11) (N := 32) rfl (by decide) hiX11 hl51 dX11_together_74 (fun r17 => ?_)
              refine s_aload_n X dX11_together_77 0 rfl ?_
              refine s_ga X (C := RX11) (T := TX11) (N := 32) rfl (by decide) hiX11 hl44 dX11_together_78 (fun r18 => ?_)
              refine s_iload X dX11_together_81 4 rfl ?_
              refine s_li X dX11_together_83 (fun x19 => ?_)
              refine s_aload_n X dX11_together_84 0 rfl ?_
              refine s_ga X (C := RX11) (T := TX11) (N := 32) rfl (by decide) hiX11 hl44 dX11_together_85 (fun r20 => ?_)
              refine s_iload X dX11_together_88 5 rfl ?_
              refine s_li X dX11_together_90 (fun x21 => ?_)
              refine s_iadd X dX11_together_91 ?_
              refine s_li X dX11_together_92 (fun x22 => ?_)
              refine s_iadd X dX11_together_93 ?_
              refine s_iconst X 1 dX11_together_94 (by decide) ?_
              refine s_sb X dX11_together_95 (fun M => ?_)
              exact J96 x_1 x_2 x_3 x_4 x_5 _
    rintro ⟨x_1, x_2, x_3, x_4⟩ M
    refine s_iload X dX11_together_3 4 rfl ?_
    refine s_aload_n X dX11_together_5 0 rfl ?_
    refine s_gi X (C := RX11) (T := TX11) (N := 32) rfl (by decide) hiX11 hl94 dX11_together_6 (fun x1 => ?_)
    refine s_icmp_ge X 108 dX11_together_9 (by decide) (fun h2 => ?_) (fun h2 => ?_)
    · exact s_retv X hr dX11_together_108
    · refine s_iconst X 0 dX11_together_12 (by decide) ?_
      refine s_istore X dX11_together_13 (by decide) [(5, zi (0)), (0, za ((some a0))), (1, zi x_1), (2, zi x_2), (3, zi x_3), (4, zi x_4)] rfl ?_
      refine s_lv [(0, za ((some a0))), (1, zi x_1), (2, zi x_2), (3, zi x_3), (4, zi x_4), (5, zi (0))] [1, 2, 3, 4, 5, 0] rfl ?_
      exact L15 z_N (x_1, x_2, x_3, x_4, 0) _
  refine s_iconst X 0 dX11_together_0 (by decide) ?_
  refine s_istore X dX11_together_1 (by decide) [(4, zi (0)), (0, za ((some a0))), (1, zi p0), (2, zi p1), (3, zi p2)] rfl ?_
  refine s_lv [(0, za ((some a0))), (1, zi p0), (2, zi p1), (3, zi p2), (4, zi (0))] [1, 2, 3, 4, 0] rfl ?_
  exact L3 z_N (p0, p1, p2, 0) _
theorem hy_X11_unit : yX11_unit.cls = RX11 ∧ yX11_unit.cls ≠ "java/lang/invoke/MethodHandle" ∧ yX11_unit.cls ≠ "java/lang/invoke/VarHandle" ∧ (parseMethodDescriptor yX11_unit.desc).map (fun d => d.parameters.length) = some 1 := by decide +kernel
set_option maxHeartbeats 4000000 in
set_option maxRecDepth 100000 in
theorem c_X11_unit (l : Launch) (E : zE) (a0 : Nat) (p0 : Int32) : z_Met l E yX11_unit wsX11_unit 0 0 [za ((some a0)), zi p0] z_ri (F_X11_unit a0 p0) := by
  refine z_of (own := RX11) (cc := cX11_unit) (maxL := 4) (rt := (some .int)) rfl (by decide) rfl (Nat.le_of_ble_eq_true rfl) ?_
  intro p e R s0 m args below meth c M0 fin X hr hnm
  have hiX11 : ∀ w ∈ u_ws RX11 TX11 32, w ∈ wsX11_unit := by decide +kernel
  have hl62 : Cond.fieldLink RX11 62 (TX11 20).1 (TX11 20).2.1 (TX11 20).2.2.1 ∈ wsX11_unit := by decide +kernel
  have L4 : ∀ (n : Nat) (s : Int32 × Int32 × Int32) (M : zM), z_S p l e R s0 m args below meth c (z_Qm E below args s0 M0 z_ri fin) E 4 M0 fin M 4 [(0, za (some a0)), (1, zi s.1), (2, zi s.2.1), (3, zi s.2.2)] [] (F_X11_unit_4 a0 n s) := by
    refine s_fix ?_
    intro ih4_ hih4
    rintro ⟨x_1, x_2, x_3⟩ M
    refine s_aload_n X dX11_unit_4 0 rfl ?_
    refine s_ga X (C := RX11) (T := TX11) (N := 32) rfl (by decide) hiX11 hl62 dX11_unit_5 (fun r1 => ?_)
    refine s_iload_n X dX11_unit_8 3 rfl ?_
    refine s_li X dX11_unit_9 (fun x2 => ?_)
    refine s_iload_n X dX11_unit_10 1 rfl ?_
    refine s_icmp_eq X 25 dX11_unit_11 (by decide) (fun h3 => ?_) (fun h3 => ?_)
    · refine s_iload_n X dX11_unit_25 2 rfl ?_
      exact s_ret X hr dX11_unit_26
    · refine s_bipush X 9 dX11_unit_14 (by decide) ?_
      refine s_iload_n X dX11_unit_16 2 rfl ?_
      refine s_imul X dX11_unit_17 ?_
      refine s_let (fun x4 => ?_)
      refine s_istore_n X dX11_unit_18 (by decide) [(2, zi x4), (0, za ((some a0))), (1, zi x_1), (3, zi x_3)] rfl ?_
      refine s_iinc X 1 dX11_unit_19 3 rfl (by decide) (by decide) [(3, zi (x_3 + 1)), (2, zi x4), (0, za ((some a0))), (1, zi x_1)] rfl ?_
      refine s_goto X 4 dX11_unit_22 (by decide) ?_
      refine s_lv [(0, za ((some a0))), (1, zi x_1), (2, zi x4), (3, zi (x_3 + 1))] [2, 3, 1, 0] rfl ?_
      exact hih4 (x_1, x4, x_3 + 1) _
  refine s_iconst X 1 dX11_unit_0 (by decide) ?_
  refine s_istore_n X dX11_unit_1 (by decide) [(2, zi (1)), (0, za ((some a0))), (1, zi p0)] rfl ?_
  refine s_iconst X 0 dX11_unit_2 (by decide) ?_
  refine s_istore_n X dX11_unit_3 (by decide) [(3, zi (0)), (2, zi (1)), (0, za ((some a0))), (1, zi p0)] rfl ?_
  refine s_lv [(0, za ((some a0))), (1, zi p0), (2, zi (1)), (3, zi (0))] [2, 3, 1, 0] rfl ?_
  exact L4 z_N (p0, 1, 0) _
