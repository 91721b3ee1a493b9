theorem hy_X11_findRings : yX11_findRings.cls = RX11 ∧ yX11_findRings.cls ≠ "java/lang/invoke/MethodHandle" ∧ yX11_findRings.cls ≠ "java/lang/invoke/VarHandle" ∧ (parseMethodDescriptor yX11_findRings.desc).map (fun d => d.parameters.length) = some 0 := by decide +kernel
set_option maxHeartbeats 4000000 in
set_option maxRecDepth 100000 in
theorem c_X11_findRings (l : Launch) (E : zE) (a0 : Nat) : z_Met l E yX11_findRings wsX11_findRings 2 45 [za ((some a0))] z_rv (F_X11_findRings a0) := by
  refine z_of (own := RX11) (cc := cX11_findRings) (maxL := 5) (rt := none) rfl (by decide) rfl (Nat.le_of_ble_eq_true rfl) ?_
  intro p e R s0 m args below meth c M0 fin X hr hnm
  have hiX11 : ∀ w ∈ u_ws RX11 TX11 32, w ∈ wsX11_findRings := by decide +kernel
  have hl91 : Cond.fieldLink RX11 91 (TX11 31).1 (TX11 31).2.1 (TX11 31).2.2.1 ∈ wsX11_findRings := by decide +kernel
  have hl187 : Cond.fieldLink RX11 187 (TX11 13).1 (TX11 13).2.1 (TX11 13).2.2.1 ∈ wsX11_findRings := by decide +kernel
  have hl29 : Cond.fieldLink RX11 29 (TX11 7).1 (TX11 7).2.1 (TX11 7).2.2.1 ∈ wsX11_findRings := by decide +kernel
  have L131 : ∀ (n : Nat) (s : Int32) (M : zM), z_S p l e R s0 m args below meth c (z_Qm E below args s0 M0 z_rv fin) E 5 M0 fin M 131 [(0, za (some a0)), (2, zi s)] [] (F_X11_findRings_131 a0 n s) := by
    refine s_fix ?_
    intro ih131_ hih131
    have L137 : ∀ (n : Nat) (s : Int32 × Int32) (M : zM), z_S p l e R s0 m args below meth c (z_Qm E below args s0 M0 z_rv fin) E 5 M0 fin M 137 [(0, za (some a0)), (2, zi s.1), (3, zi s.2)] [] (F_X11_findRings_137 a0 (fun y0 => ih131_ (y0)) n s) := by
      refine s_fix ?_
      intro ih137_ hih137
      have J176 : ∀ (x_2 : Int32) (x_3 : Int32) (M : zM), z_S p l e R s0 m args below meth c (z_Qm E below args s0 M0 z_rv fin) E 5 M0 fin M 176 [(0, za ((some a0))), (2, zi x_2), (3, zi x_3)] [] (F_X11_findRings_176 a0 (fun y0 => ih131_ (y0)) (fun y0 y1 => ih137_ (y0, y1)) x_2 x_3) := by
        intro x_2 x_3 M
        refine s_iinc X 1 dX11_findRings_176 2 rfl (by decide) (by decide) [(3, zi (x_3 + 1)), (0, za ((some a0))), (2, zi x_2)] rfl ?_
        refine s_goto X 137 dX11_findRings_179 (by decide) ?_
        refine s_lv [(0, za ((some a0))), (2, zi x_2), (3, zi (x_3 + 1))] [1, 2, 0] rfl ?_
        exact hih137 (x_2, x_3 + 1) _
      rintro ⟨x_2, x_3⟩ M
      refine s_iload_n X dX11_findRings_137 2 rfl ?_
      refine s_bipush X 16 dX11_findRings_138 (by decide) ?_
      refine s_icmp_ge X 182 dX11_findRings_140 (by decide) (fun h22 => ?_) (fun h22 => ?_)
      · refine s_iinc X (-1) dX11_findRings_182 1 rfl (by decide) (by decide) [(2, zi (x_2 + (-1))), (0, za ((some a0))), (3, zi x_3)] rfl ?_
        refine s_goto X 131 dX11_findRings_185 (by decide) ?_
        refine s_lv [(0, za ((some a0))), (2, zi (x_2 + (-1)))] [1, 0] rfl ?_
        exact hih131 (x_2 + (-1)) _
      · refine s_aload_n X dX11_findRings_143 0 rfl ?_
        refine s_ga X (C := RX11) (T := TX11) (N := 32) rfl (by decide) hiX11 hl29 dX11_findRings_144 (fun r23 => ?_)
        refine s_iload_n X dX11_findRings_147 2 rfl ?_
        refine s_li X dX11_findRings_148 (fun x24 => ?_)
        refine s_iconst X 3 dX11_findRings_149 (by decide) ?_
        refine s_icmp_ne X 176 dX11_findRings_150 (by decide) (fun h25 => ?_) (fun h25 => ?_)
        · exact J176 x_2 x_3 _
        · refine s_aload_n X dX11_findRings_153 0 rfl ?_
          refine s_iload_n X dX11_findRings_154 1 rfl ?_
          refine s_iload_n X dX11_findRings_155 2 rfl ?_
          refine s_callV (ci := 11) (C := RX11) (As := [zi x_2, zi x_3]) (st := []) X (fun a => c_X11_comesTo l E a x_2 x_3) gX11_findRings_X11_comesTo rfl hy_X11_comesTo rfl rfl rfl rfl (Nat.le_of_ble_eq_true rfl) (by decide) dX11_findRings_156 (fun x26 M => ?_)
          refine s_if_eq X 176 dX11_findRings_159 (by decide) (fun h28 => ?_) (fun h28 => ?_)
          · exact J176 x_2 x_3 _
          · refine s_aload_n X dX11_findRings_162 0 rfl ?_
            refine s_iload_n X dX11_findRings_163 2 rfl ?_
            refine s_iload_n X dX11_findRings_164 1 rfl ?_
            refine s_callV (ci := 11) (C := RX11) (As := [zi x_3, zi x_2]) (st := []) X (fun a => c_X11_comesTo l E a x_3 x_2) gX11_findRings_X11_comesTo rfl hy_X11_comesTo rfl rfl rfl rfl (Nat.le_of_ble_eq_true rfl) (by decide) dX11_findRings_165 (fun x29 M => ?_)
            refine s_if_eq X 176 dX11_findRings_168 (by decide) (fun h31 => ?_) (fun h31 => ?_)
            · exact J176 x_2 x_3 _
            · refine s_aload_n X dX11_findRings_171 0 rfl ?_
              refine s_iload_n X dX11_findRings_172 1 rfl ?_
              refine s_pf (x := zi x_2) X (C := RX11) (T := TX11) (N := 32) rfl (by decide) hiX11 tyX11 tyX11_ok nmX11 hl187 (Or.inl rfl) rfl (fun E => ⟨rfl, rfl⟩) dX11_findRings_173 (fun M => ?_)
              exact J176 x_2 x_3 _
    rintro x_2 M
    refine s_iload_n X dX11_findRings_131 1 rfl ?_
    refine s_if_lt X 188 dX11_findRings_132 (by decide) (fun h21 => ?_) (fun h21 => ?_)
    · exact s_retv X hr dX11_findRings_188
    · refine s_iconst X 0 dX11_findRings_135 (by decide) ?_
      refine s_istore_n X dX11_findRings_136 (by decide) [(3, zi (0)), (0, za ((some a0))), (2, zi x_2)] rfl ?_
      refine s_lv [(0, za ((some a0))), (2, zi x_2), (3, zi (0))] [1, 2, 0] rfl ?_
      exact L137 z_N (x_2, 0) _
  have L27 : ∀ (n : Nat) (s : Int32) (M : zM), z_S p l e R s0 m args below meth c (z_Qm E below args s0 M0 z_rv fin) E 5 M0 fin M 27 [(0, za (some a0)), (1, zi s)] [] (F_X11_findRings_27 a0 n s) := by
    refine s_fix ?_
    intro ih27_ hih27
    have L35 : ∀ (n : Nat) (s : Int32 × Int32) (M : zM), z_S p l e R s0 m args below meth c (z_Qm E below args s0 M0 z_rv fin) E 5 M0 fin M 35 [(0, za (some a0)), (1, zi s.1), (2, zi s.2)] [] (F_X11_findRings_35 a0 (fun y0 => ih27_ (y0)) n s) := by
      refine s_fix ?_
      intro ih35_ hih35
      have J113 : ∀ (x_2 : Int32) (s_0 : Int32) (M : zM), z_S p l e R s0 m args below meth c (z_Qm E below args s0 M0 z_rv fin) E 5 M0 fin M 113 [(0, za ((some a0))), (2, zi x_2)] [zi s_0] (F_X11_findRings_113 a0 (fun y0 => ih27_ (y0)) (fun y0 y1 => ih35_ (y0, y1)) x_2 s_0) := by
        intro x_2 s_0 M
        refine s_istore_n X dX11_findRings_113 (by decide) [(1, zi s_0), (0, za ((some a0))), (2, zi x_2)] rfl ?_
        refine s_iinc X 1 dX11_findRings_114 2 rfl (by decide) (by decide) [(2, zi (x_2 + 1)), (1, zi s_0), (0, za ((some a0)))] rfl ?_
        refine s_goto X 35 dX11_findRings_117 (by decide) ?_
        refine s_lv [(0, za ((some a0))), (1, zi s_0), (2, zi (x_2 + 1))] [2, 1, 0] rfl ?_
        exact hih35 (s_0, x_2 + 1) _
      have J108 : ∀ (x_2 : Int32) (M : zM), z_S p l e R s0 m args below meth c (z_Qm E below args s0 M0 z_rv fin) E 5 M0 fin M 108 [(0, za ((some a0))), (2, zi x_2)] [] (F_X11_findRings_108 a0 (fun y0 => ih27_ (y0)) (fun y0 y1 => ih35_ (y0, y1)) x_2) := by
        intro x_2 M
        refine s_iconst X 1 dX11_findRings_108 (by decide) ?_
        refine s_goto X 113 dX11_findRings_109 (by decide) ?_
        exact J113 x_2 1 _
      have L51 : ∀ (n : Nat) (s : Int32 × Int32 × Int32 × Int32) (M : zM), z_S p l e R s0 m args below meth c (z_Qm E below args s0 M0 z_rv fin) E 5 M0 fin M 51 [(0, za (some a0)), (1, zi s.1), (2, zi s.2.1), (3, zi s.2.2.1), (4, zi s.2.2.2)] [] (F_X11_findRings_51 a0 (fun y0 => ih27_ (y0)) (fun y0 y1 => ih35_ (y0, y1)) n s) := by
        refine s_fix ?_
        intro ih51_ hih51
        have J86 : ∀ (x_1 : Int32) (x_2 : Int32) (x_3 : Int32) (x_4 : Int32) (t_0 : Option Nat) (s_1 : Int32) (s_2 : Int32) (s_3 : Int32) (M : zM), z_S p l e R s0 m args below meth c (z_Qm E below args s0 M0 z_rv fin) E 5 M0 fin M 86 [(0, za ((some a0))), (1, zi x_1), (2, zi x_2), (3, zi x_3), (4, zi x_4)] [zi s_3, zi s_2, zi s_1, za t_0] (F_X11_findRings_86 a0 (fun y0 => ih27_ (y0)) (fun y0 y1 => ih35_ (y0, y1)) (fun y0 y1 y2 y3 => ih51_ (y0, y1, y2, y3)) x_1 x_2 x_3 x_4 t_0 s_1 s_2 s_3) := by
          intro x_1 x_2 x_3 x_4 t_0 s_1 s_2 s_3 M
          refine s_ior X dX11_findRings_86 ?_
          refine s_si X dX11_findRings_87 (fun M => ?_)
          refine s_iinc X 1 dX11_findRings_88 4 rfl (by decide) (by decide) [(4, zi (x_4 + 1)), (0, za ((some a0))), (1, zi x_1), (2, zi x_2), (3, zi x_3)] rfl ?_
          refine s_goto X 51 dX11_findRings_91 (by decide) ?_
          refine s_lv [(0, za ((some a0))), (1, zi x_1), (2, zi x_2), (3, zi x_3), (4, zi (x_4 + 1))] [1, 2, 3, 4, 0] rfl ?_
          exact hih51 (x_1, x_2, x_3, x_4 + 1) _
        rintro ⟨x_1, x_2, x_3, x_4⟩ M
        refine s_iload X dX11_findRings_51 4 rfl ?_
        refine s_bipush X 16 dX11_findRings_53 (by decide) ?_
        refine s_icmp_ge X 94 dX11_findRings_55 (by decide) (fun h9 => ?_) (fun h9 => ?_)
        · refine s_iload_n X dX11_findRings_94 1 rfl ?_
          refine s_if_ne X 108 dX11_findRings_95 (by decide) (fun h10 => ?_) (fun h10 => ?_)
          · refine s_lv [(0, za ((some a0))), (2, zi x_2)] [0, 2] rfl ?_
            exact J108 x_2 _
          · refine s_aload_n X dX11_findRings_98 0 rfl ?_
            refine s_ga X (C := RX11) (T := TX11) (N := 32) rfl (by decide) hiX11 hl91 dX11_findRings_99 (fun r11 => ?_)
            refine s_iload_n X dX11_findRings_102 2 rfl ?_
            refine s_li X dX11_findRings_103 (fun x12 => ?_)
            refine s_iload_n X dX11_findRings_104 3 rfl ?_
            refine s_icmp_eq X 112 dX11_findRings_105 (by decide) (fun h13 => ?_) (fun h13 => ?_)
            · refine s_iconst X 0 dX11_findRings_112 (by decide) ?_
              refine s_lv [(0, za ((some a0))), (2, zi x_2)] [0, 2] rfl ?_
              exact J113 x_2 0 _
            · refine s_lv [(0, za ((some a0))), (2, zi x_2)] [0, 2] rfl ?_
              exact J108 x_2 _
        · refine s_aload_n X dX11_findRings_58 0 rfl ?_
          refine s_ga X (C := RX11) (T := TX11) (N := 32) rfl (by decide) hiX11 hl91 dX11_findRings_59 (fun r14 => ?_)
          refine s_iload_n X dX11_findRings_62 2 rfl ?_
          refine s_dup2 X dX11_findRings_63 rfl rfl ?_
          refine s_li X dX11_findRings_64 (fun x15 => ?_)
          refine s_aload_n X dX11_findRings_65 0 rfl ?_
          refine s_iload_n X dX11_findRings_66 2 rfl ?_
          refine s_iload X dX11_findRings_67 4 rfl ?_
          refine s_callV (ci := 11) (C := RX11) (As := [zi x_2, zi x_4]) (st := [zi x15, zi x_2, za r14]) X (fun a => c_X11_comesTo l E a x_2 x_4) gX11_findRings_X11_comesTo rfl hy_X11_comesTo rfl rfl rfl rfl (Nat.le_of_ble_eq_true rfl) (by decide) dX11_findRings_69 (fun x16 M => ?_)
          refine s_if_eq X 85 dX11_findRings_72 (by decide) (fun h18 => ?_) (fun h18 => ?_)
          · refine s_iconst X 0 dX11_findRings_85 (by decide) ?_
            exact J86 x_1 x_2 x_3 x_4 r14 x_2 x15 0 _
          · refine s_aload_n X dX11_findRings_75 0 rfl ?_
            refine s_ga X (C := RX11) (T := TX11) (N := 32) rfl (by decide) hiX11 hl91 dX11_findRings_76 (fun r19 => ?_)
            refine s_iload X dX11_findRings_79 4 rfl ?_
            refine s_li X dX11_findRings_81 (fun x20 => ?_)
            refine s_goto X 86 dX11_findRings_82 (by decide) ?_
            exact J86 x_1 x_2 x_3 x_4 r14 x_2 x15 x20 _
      rintro ⟨x_1, x_2⟩ M
      refine s_iload_n X dX11_findRings_35 2 rfl ?_
      refine s_bipush X 16 dX11_findRings_36 (by decide) ?_
      refine s_icmp_ge X 120 dX11_findRings_38 (by decide) (fun h6 => ?_) (fun h6 => ?_)
      · refine s_goto X 27 dX11_findRings_120 (by decide) ?_
        refine s_lv [(0, za ((some a0))), (1, zi x_1)] [0, 1] rfl ?_
        exact hih27 (x_1) _
      · refine s_aload_n X dX11_findRings_41 0 rfl ?_
        refine s_ga X (C := RX11) (T := TX11) (N := 32) rfl (by decide) hiX11 hl91 dX11_findRings_42 (fun r7 => ?_)
        refine s_iload_n X dX11_findRings_45 2 rfl ?_
        refine s_li X dX11_findRings_46 (fun x8 => ?_)
        refine s_istore_n X dX11_findRings_47 (by decide) [(3, zi x8), (0, za ((some a0))), (1, zi x_1), (2, zi x_2)] rfl ?_
        refine s_iconst X 0 dX11_findRings_48 (by decide) ?_
        refine s_istore X dX11_findRings_49 (by decide) [(4, zi (0)), (3, zi x8), (0, za ((some a0))), (1, zi x_1), (2, zi x_2)] rfl ?_
        refine s_lv [(0, za ((some a0))), (1, zi x_1), (2, zi x_2), (3, zi x8), (4, zi (0))] [2, 3, 4, 1, 0] rfl ?_
        exact L51 z_N (x_1, x_2, x8, 0) _
    rintro x_1 M
    refine s_iload_n X dX11_findRings_27 1 rfl ?_
    refine s_if_eq X 123 dX11_findRings_28 (by decide) (fun h5 => ?_) (fun h5 => ?_)
    · refine s_aload_n X dX11_findRings_123 0 rfl ?_
      refine s_iconst X (-1) dX11_findRings_124 (by decide) ?_
      refine s_pf (x := zi ((-1))) X (C := RX11) (T := TX11) (N := 32) rfl (by decide) hiX11 tyX11 tyX11_ok nmX11 hl187 (Or.inl rfl) rfl (fun E => ⟨rfl, rfl⟩) dX11_findRings_125 (fun M => ?_)
      refine s_bipush X 15 dX11_findRings_128 (by decide) ?_
      refine s_istore_n X dX11_findRings_130 (by decide) [(2, zi (15)), (0, za ((some a0))), (1, zi x_1)] rfl ?_
      refine s_lv [(0, za ((some a0))), (2, zi (15))] [1, 0] rfl ?_
      exact L131 z_N (15) _
    · refine s_iconst X 0 dX11_findRings_31 (by decide) ?_
      refine s_istore_n X dX11_findRings_32 (by decide) [(1, zi (0)), (0, za ((some a0)))] rfl ?_
      refine s_iconst X 0 dX11_findRings_33 (by decide) ?_
      refine s_istore_n X dX11_findRings_34 (by decide) [(2, zi (0)), (1, zi (0)), (0, za ((some a0)))] rfl ?_
      refine s_lv [(0, za ((some a0))), (1, zi (0)), (2, zi (0))] [2, 1, 0] rfl ?_
      exact L35 z_N (0, 0) _
  have L2 : ∀ (n : Nat) (s : Int32) (M : zM), z_S p l e R s0 m args below meth c (z_Qm E below args s0 M0 z_rv fin) E 5 M0 fin M 2 [(0, za (some a0)), (1, zi s)] [] (F_X11_findRings_2 a0 n s) := by
    refine s_fix ?_
    intro ih2_ hih2
    rintro x_1 M
    refine s_iload_n X dX11_findRings_2 1 rfl ?_
    refine s_bipush X 16 dX11_findRings_3 (by decide) ?_
    refine s_icmp_ge X 25 dX11_findRings_5 (by decide) (fun h1 => ?_) (fun h1 => ?_)
    · refine s_iconst X 1 dX11_findRings_25 (by decide) ?_
      refine s_istore_n X dX11_findRings_26 (by decide) [(1, zi (1)), (0, za ((some a0)))] rfl ?_
      refine s_lv [(0, za ((some a0))), (1, zi (1))] [1, 0] rfl ?_
      exact L27 z_N (1) _
    · refine s_aload_n X dX11_findRings_8 0 rfl ?_
      refine s_ga X (C := RX11) (T := TX11) (N := 32) rfl (by decide) hiX11 hl91 dX11_findRings_9 (fun r2 => ?_)
      refine s_iload_n X dX11_findRings_12 1 rfl ?_
      refine s_aload_n X dX11_findRings_13 0 rfl ?_
      refine s_iload_n X dX11_findRings_14 1 rfl ?_
      refine s_callV (ci := 11) (C := RX11) (As := [zi x_1]) (st := [zi x_1, za r2]) X (fun a => c_X11_refers l E a x_1) gX11_findRings_X11_refers rfl hy_X11_refers rfl rfl rfl rfl (Nat.le_of_ble_eq_true rfl) (by decide) dX11_findRings_15 (fun x3 M => ?_)
      refine s_si X dX11_findRings_18 (fun M => ?_)
      refine s_iinc X 1 dX11_findRings_19 1 rfl (by decide) (by decide) [(1, zi (x_1 + 1)), (0, za ((some a0)))] rfl ?_
      refine s_goto X 2 dX11_findRings_22 (by decide) ?_
      refine s_lv [(0, za ((some a0))), (1, zi (x_1 + 1))] [1, 0] rfl ?_
      exact hih2 (x_1 + 1) _
  refine s_iconst X 0 dX11_findRings_0 (by decide) ?_
  refine s_istore_n X dX11_findRings_1 (by decide) [(1, zi (0)), (0, za ((some a0)))] rfl ?_
  refine s_lv [(0, za ((some a0))), (1, zi (0))] [1, 0] rfl ?_
  exact L2 z_N (0) _
theorem hy_X11_isReady : yX11_isReady.cls = RX11 ∧ yX11_isReady.cls ≠ "java/lang/invoke/MethodHandle" ∧ yX11_isReady.cls ≠ "java/lang/invoke/VarHandle" ∧ (parseMethodDescriptor yX11_isReady.desc).map (fun d => d.parameters.length) = some 2 := by decide +kernel
set_option maxHeartbeats 4000000 in
set_option maxRecDepth 100000 in
theorem c_X11_isReady (l : Launch) (E : zE) (a0 : Nat) (p0 : Int32) (p1 : Int32) : z_Met l E yX11_isReady wsX11_isReady 1 22 [za ((some a0)), zi p0, zi p1] z_ri (F_X11_isReady a0 p0 p1) := by
  refine z_of (own := RX11) (cc := cX11_isReady) (maxL := 4) (rt := (some .boolean)) rfl (by decide) rfl (Nat.le_of_ble_eq_true rfl) ?_
  intro p e R s0 m args below meth c M0 fin X hr hnm
  have J55 : ∀ (s_0 : Int32) (M : zM), z_S p l e R s0 m args below meth c (z_Qm E below args s0 M0 z_ri fin) E 4 M0 fin M 55 [] [zi s_0] (F_X11_isReady_55 a0 s_0) := by
    intro s_0 M
    exact s_retb X hr dX11_isReady_55
  have L2 : ∀ (n : Nat) (s : Int32 × Int32 × Int32) (M : zM), z_S p l e R s0 m args below meth c (z_Qm E below args s0 M0 z_ri fin) E 4 M0 fin M 2 [(0, za (some a0)), (1, zi s.1), (2, zi s.2.1), (3, zi s.2.2)] [] (F_X11_isReady_2 a0 n s) := by
    refine s_fix ?_
    intro ih2_ hih2
    have J36 : ∀ (x_1 : Int32) (x_2 : Int32) (x_3 : Int32) (M : zM), z_S p l e R s0 m args below meth c (z_Qm E below args s0 M0 z_ri fin) E 4 M0 fin M 36 [(0, za ((some a0))), (1, zi x_1), (2, zi x_2), (3, zi x_3)] [] (F_X11_isReady_36 a0 (fun y0 y1 y2 => ih2_ (y0, y1, y2)) x_1 x_2 x_3) := by
      intro x_1 x_2 x_3 M
      refine s_iinc X 1 dX11_isReady_36 3 rfl (by decide) (by decide) [(3, zi (x_3 + 1)), (0, za ((some a0))), (1, zi x_1), (2, zi x_2)] rfl ?_
      refine s_goto X 2 dX11_isReady_39 (by decide) ?_
      refine s_lv [(0, za ((some a0))), (1, zi x_1), (2, zi x_2), (3, zi (x_3 + 1))] [1, 2, 3, 0] rfl ?_
      exact hih2 (x_1, x_2, x_3 + 1) _
    rintro ⟨x_1, x_2, x_3⟩ M
    refine s_iload_n X dX11_isReady_2 3 rfl ?_
    refine s_bipush X 16 dX11_isReady_3 (by decide) ?_
    refine s_icmp_ge X 42 dX11_isReady_5 (by decide) (fun h1 => ?_) (fun h1 => ?_)
    · refine s_iload_n X dX11_isReady_42 2 rfl ?_
      refine s_iload_n X dX11_isReady_43 1 rfl ?_
      refine s_ishr X dX11_isReady_44 ?_
      refine s_iconst X 1 dX11_isReady_45 (by decide) ?_
      refine s_iand X dX11_isReady_46 ?_
      refine s_if_ne X 54 dX11_isReady_47 (by decide) (fun h2 => ?_) (fun h2 => ?_)
      · refine s_iconst X 0 dX11_isReady_54 (by decide) ?_
        refine s_lv [] [] rfl ?_
        exact J55 0 _
      · refine s_iconst X 1 dX11_isReady_50 (by decide) ?_
        refine s_goto X 55 dX11_isReady_51 (by decide) ?_
        refine s_lv [] [] rfl ?_
        exact J55 1 _
    · refine s_aload_n X dX11_isReady_8 0 rfl ?_
      refine s_iload_n X dX11_isReady_9 1 rfl ?_
      refine s_iload_n X dX11_isReady_10 3 rfl ?_
      refine s_callV (ci := 11) (C := RX11) (As := [zi x_1, zi x_3]) (st := []) X (fun a => c_X11_comesTo l E a x_1 x_3) gX11_isReady_X11_comesTo rfl hy_X11_comesTo rfl rfl rfl rfl (Nat.le_of_ble_eq_true rfl) (by decide) dX11_isReady_11 (fun x3 M => ?_)
      refine s_if_eq X 36 dX11_isReady_14 (by decide) (fun h5 => ?_) (fun h5 => ?_)
      · exact J36 x_1 x_2 x_3 _
      · refine s_aload_n X dX11_isReady_17 0 rfl ?_
        refine s_iload_n X dX11_isReady_18 3 rfl ?_
        refine s_iload_n X dX11_isReady_19 1 rfl ?_
        refine s_callV (ci := 11) (C := RX11) (As := [zi x_3, zi x_1]) (st := []) X (fun a => c_X11_comesTo l E a x_3 x_1) gX11_isReady_X11_comesTo rfl hy_X11_comesTo rfl rfl rfl rfl (Nat.le_of_ble_eq_true rfl) (by decide) dX11_isReady_20 (fun x6 M => ?_)
        refine s_if_ne X 36 dX11_isReady_23 (by decide) (fun h8 => ?_) (fun h8 => ?_)
        · exact J36 x_1 x_2 x_3 _
        · refine s_iload_n X dX11_isReady_26 2 rfl ?_
          refine s_iload_n X dX11_isReady_27 3 rfl ?_
          refine s_ishr X dX11_isReady_28 ?_
          refine s_iconst X 1 dX11_isReady_29 (by decide) ?_
          refine s_iand X dX11_isReady_30 ?_
          refine s_if_ne X 36 dX11_isReady_31 (by decide) (fun h9 => ?_) (fun h9 => ?_)
          · exact J36 x_1 x_2 x_3 _
          · refine s_iconst X 0 dX11_isReady_34 (by decide) ?_
            exact s_retb X hr dX11_isReady_35
  refine s_iconst X 0 dX11_isReady_0 (by decide) ?_
  refine s_istore_n X dX11_isReady_1 (by decide) [(3, zi (0)), (0, za ((some a0))), (1, zi p0), (2, zi p1)] rfl ?_
  refine s_lv [(0, za ((some a0))), (1, zi p0), (2, zi p1), (3, zi (0))] [1, 2, 3, 0] rfl ?_
  exact L2 z_N (p0, p1, 0) _
theorem hy_X11_isOut : yX11_isOut.cls = RX11 ∧ yX11_isOut.cls ≠ "java/lang/invoke/MethodHandle" ∧ yX11_isOut.cls ≠ "java/lang/invoke/VarHandle" ∧ (parseMethodDescriptor yX11_isOut.desc).map (fun d => d.parameters.length) = some 1 := by decide +kernel
set_option maxHeartbeats 4000000 in
set_option maxRecDepth 100000 in
theorem c_X11_isOut (l : Launch) (E : zE) (a0 : Nat) (p0 : Int32) : z_Met l E yX11_isOut wsX11_isOut 0 0 [za ((some a0)), zi p0] z_ri (F_X11_isOut a0 p0) := by
  refine z_of (own := RX11) (cc := cX11_isOut) (maxL := 2) (rt := (some .boolean)) rfl (by decide) rfl (Nat.le_of_ble_eq_true rfl) ?_
  intro p e R s0 m args below meth c M0 fin X hr hnm
  have hiX11 : ∀ w ∈ u_ws RX11 TX11 32, w ∈ wsX11_isOut := by decide +kernel
  have hl17 : Cond.fieldLink RX11 17 (TX11 2).1 (TX11 2).2.1 (TX11 2).2.2.1 ∈ wsX11_isOut := by decide +kernel
  have J14 : ∀ (s_0 : Int32) (M : zM), z_S p l e R s0 m args below meth c (z_Qm E below args s0 M0 z_ri fin) E 2 M0 fin M 14 [] [zi s_0] (F_X11_isOut_14 a0 s_0) := by
    intro s_0 M
    exact s_retb X hr dX11_isOut_14
  refine s_aload_n X dX11_isOut_0 0 rfl ?_
  refine s_ga X (C := RX11) (T := TX11) (N := 32) rfl (by decide) hiX11 hl17 dX11_isOut_1 (fun r1 => ?_)
  refine s_iload_n X dX11_isOut_4 1 rfl ?_
  refine s_li X dX11_isOut_5 (fun x2 => ?_)
  refine s_if_ne X 13 dX11_isOut_6 (by decide) (fun h3 => ?_) (fun h3 => ?_)
  · refine s_iconst X 0 dX11_isOut_13 (by decide) ?_
    refine s_lv [] [] rfl ?_
    exact J14 0 _
  · refine s_iconst X 1 dX11_isOut_9 (by decide) ?_
    refine s_goto X 14 dX11_isOut_10 (by decide) ?_
    refine s_lv [] [] rfl ?_
    exact J14 1 _
theorem hy_X11_concerns : yX11_concerns.cls = RX11 ∧ yX11_concerns.cls ≠ "java/lang/invoke/MethodHandle" ∧ yX11_concerns.cls ≠ "java/lang/invoke/VarHandle" ∧ (parseMethodDescriptor yX11_concerns.desc).map (fun d => d.parameters.length) = some 3 := by decide +kernel
set_option maxHeartbeats 4000000 in
set_option maxRecDepth 100000 in
theorem c_X11_concerns (l : Launch) (E : zE) (a0 : Nat) (p0 : Int32) (p1 : Int32) (p2 : Int32) : z_Met l E yX11_concerns wsX11_concerns 1 21 [za ((some a0)), zi p0, zi p1, zi p2] z_ri (F_X11_concerns a0 p0 p1 p2) := by
  refine z_of (own := RX11) (cc := cX11_concerns) (maxL := 5) (rt := (some .boolean)) rfl (by decide) rfl (Nat.le_of_ble_eq_true rfl) ?_
  intro p e R s0 m args below meth c M0 fin X hr hnm
  have hiX11 : ∀ w ∈ u_ws RX11 TX11 32, w ∈ wsX11_concerns := by decide +kernel
  have hl38 : Cond.fieldLink RX11 38 (TX11 10).1 (TX11 10).2.1 (TX11 10).2.2.1 ∈ wsX11_concerns := by decide +kernel
  have hl128 : Cond.fieldLink RX11 128 (TX11 21).1 (TX11 21).2.1 (TX11 21).2.2.1 ∈ wsX11_concerns := by decide +kernel
  have hl62 : Cond.fieldLink RX11 62 (TX11 20).1 (TX11 20).2.1 (TX11 20).2.2.1 ∈ wsX11_concerns := by decide +kernel
  have hl20 : Cond.fieldLink RX11 20 (TX11 3).1 (TX11 3).2.1 (TX11 3).2.2.1 ∈ wsX11_concerns := by decide +kernel
  have hl13 : Cond.fieldLink RX11 13 (TX11 0).1 (TX11 0).2.1 (TX11 0).2.2.1 ∈ wsX11_concerns := by decide +kernel
  have L19 : ∀ (n : Nat) (s : Int32 × Int32 × Int32) (M : zM), z_S p l e R s0 m args below meth c (z_Qm E below args s0 M0 z_ri fin) E 5 M0 fin M 19 [(0, za (some a0)), (2, zi s.1), (3, zi s.2.1), (4, zi s.2.2)] [] (F_X11_concerns_19 a0 n s) := by
    refine s_fix ?_
    intro ih19_ hih19
    have J70 : ∀ (x_2 : Int32) (x_3 : Int32) (x_4 : Int32) (M : zM), z_S p l e R s0 m args below meth c (z_Qm E below args s0 M0 z_ri fin) E 5 M0 fin M 70 [(0, za ((some a0))), (2, zi x_2), (3, zi x_3), (4, zi x_4)] [] (F_X11_concerns_70 a0 (fun y0 y1 y2 => ih19_ (y0, y1, y2)) x_2 x_3 x_4) := by
      intro x_2 x_3 x_4 M
      refine s_iinc X 1 dX11_concerns_70 3 rfl (by decide) (by decide) [(4, zi (x_4 + 1)), (0, za ((some a0))), (2, zi x_2), (3, zi x_3)] rfl ?_
      refine s_goto X 19 dX11_concerns_73 (by decide) ?_
      refine s_lv [(0, za ((some a0))), (2, zi x_2), (3, zi x_3), (4, zi (x_4 + 1))] [1, 2, 3, 0] rfl ?_
      exact hih19 (x_2, x_3, x_4 + 1) _
    rintro ⟨x_2, x_3, x_4⟩ M
    refine s_iload X dX11_concerns_19 3 rfl ?_
    refine s_aload_n X dX11_concerns_21 0 rfl ?_
    refine s_gi X (C := RX11) (T := TX11) (N := 32) rfl (by decide) hiX11 hl128 dX11_concerns_22 (fun x5 => ?_)
    refine s_icmp_ge X 76 dX11_concerns_25 (by decide) (fun h6 => ?_) (fun h6 => ?_)
    · refine s_iconst X 0 dX11_concerns_76 (by decide) ?_
      exact s_retb X hr dX11_concerns_77
    · refine s_aload_n X dX11_concerns_28 0 rfl ?_
      refine s_aload_n X dX11_concerns_29 0 rfl ?_
      refine s_ga X (C := RX11) (T := TX11) (N := 32) rfl (by decide) hiX11 hl62 dX11_concerns_30 (fun r7 => ?_)
      refine s_iload X dX11_concerns_33 3 rfl ?_
      refine s_li X dX11_concerns_35 (fun x8 => ?_)
      refine s_callV (ci := 11) (C := RX11) (As := [zi x8]) (st := []) X (fun a => c_X11_isOut l E a x8) gX11_concerns_X11_isOut rfl hy_X11_isOut rfl rfl rfl rfl (Nat.le_of_ble_eq_true rfl) (by decide) dX11_concerns_36 (fun x9 M => ?_)
      refine s_iload_n X dX11_concerns_39 2 rfl ?_
      refine s_icmp_ne X 70 dX11_concerns_40 (by decide) (fun h11 => ?_) (fun h11 => ?_)
      · exact J70 x_2 x_3 x_4 _
      · refine s_aload_n X dX11_concerns_43 0 rfl ?_
        refine s_ga X (C := RX11) (T := TX11) (N := 32) rfl (by decide) hiX11 hl20 dX11_concerns_44 (fun r12 => ?_)
        refine s_aload_n X dX11_concerns_47 0 rfl ?_
        refine s_ga X (C := RX11) (T := TX11) (N := 32) rfl (by decide) hiX11 hl62 dX11_concerns_48 (fun r13 => ?_)
        refine s_iload X dX11_concerns_51 3 rfl ?_
        refine s_li X dX11_concerns_53 (fun x14 => ?_)
        refine s_li X dX11_concerns_54 (fun x15 => ?_)
        refine s_aload_n X dX11_concerns_55 0 rfl ?_
        refine s_ga X (C := RX11) (T := TX11) (N := 32) rfl (by decide) hiX11 hl13 dX11_concerns_56 (fun r16 => ?_)
        refine s_iconst X 3 dX11_concerns_59 (by decide) ?_
        refine s_iload_n X dX11_concerns_60 1 rfl ?_
        refine s_imul X dX11_concerns_61 ?_
        refine s_iconst X 1 dX11_concerns_62 (by decide) ?_
        refine s_iadd X dX11_concerns_63 ?_
        refine s_li X dX11_concerns_64 (fun x17 => ?_)
        refine s_icmp_ne X 70 dX11_concerns_65 (by decide) (fun h18 => ?_) (fun h18 => ?_)
        · exact J70 x_2 x_3 x_4 _
        · refine s_iconst X 1 dX11_concerns_68 (by decide) ?_
          exact s_retb X hr dX11_concerns_69
  have J16 : ∀ (x_2 : Int32) (x_3 : Int32) (M : zM), z_S p l e R s0 m args below meth c (z_Qm E below args s0 M0 z_ri fin) E 5 M0 fin M 16 [(0, za ((some a0))), (2, zi x_2), (3, zi x_3)] [] (F_X11_concerns_16 a0 x_2 x_3) := by
    intro x_2 x_3 M
    refine s_iconst X 0 dX11_concerns_16 (by decide) ?_
    refine s_istore X dX11_concerns_17 (by decide) [(4, zi (0)), (0, za ((some a0))), (2, zi x_2), (3, zi x_3)] rfl ?_
    refine s_lv [(0, za ((some a0))), (2, zi x_2), (3, zi x_3), (4, zi (0))] [1, 2, 3, 0] rfl ?_
    exact L19 z_N (x_2, x_3, 0) _
  refine s_iload_n X dX11_concerns_0 3 rfl ?_
  refine s_if_eq X 16 dX11_concerns_1 (by decide) (fun h1 => ?_) (fun h1 => ?_)
  · refine s_lv [(0, za ((some a0))), (2, zi p1), (3, zi p2)] [0, 2, 3] rfl ?_
    exact J16 p1 p2 _
  · refine s_aload_n X dX11_concerns_4 0 rfl ?_
    refine s_ga X (C := RX11) (T := TX11) (N := 32) rfl (by decide) hiX11 hl38 dX11_concerns_5 (fun r2 => ?_)
    refine s_iload_n X dX11_concerns_8 1 rfl ?_
    refine s_li X dX11_concerns_9 (fun x3 => ?_)
    refine s_iconst X 1 dX11_concerns_10 (by decide) ?_
    refine s_icmp_ne X 16 dX11_concerns_11 (by decide) (fun h4 => ?_) (fun h4 => ?_)
    · refine s_lv [(0, za ((some a0))), (2, zi p1), (3, zi p2)] [0, 2, 3] rfl ?_
      exact J16 p1 p2 _
    · refine s_iconst X 1 dX11_concerns_14 (by decide) ?_
      exact s_retb X hr dX11_concerns_15
theorem hy_X11_mayBeLeft : yX11_mayBeLeft.cls = RX11 ∧ yX11_mayBeLeft.cls ≠ "java/lang/invoke/MethodHandle" ∧ yX11_mayBeLeft.cls ≠ "java/lang/invoke/VarHandle" ∧ (parseMethodDescriptor yX11_mayBeLeft.desc).map (fun d => d.parameters.length) = some 3 := by decide +kernel
set_option maxHeartbeats 4000000 in
set_option maxRecDepth 100000 in
theorem c_X11_mayBeLeft (l : Launch) (E : zE) (a0 : Nat) (p0 : Int32) (p1 : Int32) (p2 : Int32) : z_Met l E yX11_mayBeLeft wsX11_mayBeLeft 0 0 [za ((some a0)), zi p0, zi p1, zi p2] z_ri (F_X11_mayBeLeft a0 p0 p1 p2) := by
  refine z_of (own := RX11) (cc := cX11_mayBeLeft) (maxL := 4) (rt := (some .boolean)) rfl (by decide) rfl (Nat.le_of_ble_eq_true rfl) ?_
  intro p e R s0 m args below meth c M0 fin X hr hnm
  have hiX11 : ∀ w ∈ u_ws RX11 TX11 32, w ∈ wsX11_mayBeLeft := by decide +kernel
  have hl35 : Cond.fieldLink RX11 35 (TX11 9).1 (TX11 9).2.1 (TX11 9).2.2.1 ∈ wsX11_mayBeLeft := by decide +kernel
  have hl13 : Cond.fieldLink RX11 13 (TX11 0).1 (TX11 0).2.1 (TX11 0).2.2.1 ∈ wsX11_mayBeLeft := by decide +kernel
  have J32 : ∀ (s_0 : Int32) (M : zM), z_S p l e R s0 m args below meth c (z_Qm E below args s0 M0 z_ri fin) E 4 M0 fin M 32 [] [zi s_0] (F_X11_mayBeLeft_32 a0 s_0) := by
    intro s_0 M
    exact s_retb X hr dX11_mayBeLeft_32
  have J31 : ∀ (M : zM), z_S p l e R s0 m args below meth c (z_Qm E below args s0 M0 z_ri fin) E 4 M0 fin M 31 [] [] (F_X11_mayBeLeft_31 a0) := by
    intro M
    refine s_iconst X 0 dX11_mayBeLeft_31 (by decide) ?_
    exact J32 0 _
  refine s_iload_n X dX11_mayBeLeft_0 3 rfl ?_
  refine s_if_eq X 31 dX11_mayBeLeft_1 (by decide) (fun h1 => ?_) (fun h1 => ?_)
  · refine s_lv [] [] rfl ?_
    exact J31 _
  · refine s_aload_n X dX11_mayBeLeft_4 0 rfl ?_
    refine s_ga X (C := RX11) (T := TX11) (N := 32) rfl (by decide) hiX11 hl35 dX11_mayBeLeft_5 (fun r2 => ?_)
    refine s_iload_n X dX11_mayBeLeft_8 1 rfl ?_
    refine s_li X dX11_mayBeLeft_9 (fun x3 => ?_)
    refine s_aload_n X dX11_mayBeLeft_10 0 rfl ?_
    refine s_ga X (C := RX11) (T := TX11) (N := 32) rfl (by decide) hiX11 hl13 dX11_mayBeLeft_11 (fun r4 => ?_)
    refine s_iconst X 3 dX11_mayBeLeft_14 (by decide) ?_
    refine s_iload_n X dX11_mayBeLeft_15 2 rfl ?_
    refine s_imul X dX11_mayBeLeft_16 ?_
    refine s_iconst X 1 dX11_mayBeLeft_17 (by decide) ?_
    refine s_iadd X dX11_mayBeLeft_18 ?_
    refine s_li X dX11_mayBeLeft_19 (fun x5 => ?_)
    refine s_ishr X dX11_mayBeLeft_20 ?_
    refine s_iconst X 1 dX11_mayBeLeft_21 (by decide) ?_
    refine s_iand X dX11_mayBeLeft_22 ?_
    refine s_iconst X 1 dX11_mayBeLeft_23 (by decide) ?_
    refine s_icmp_ne X 31 dX11_mayBeLeft_24 (by decide) (fun h6 => ?_) (fun h6 => ?_)
    · refine s_lv [] [] rfl ?_
      exact J31 _
    · refine s_iconst X 1 dX11_mayBeLeft_27 (by decide) ?_
      refine s_goto X 32 dX11_mayBeLeft_28 (by decide) ?_
      refine s_lv [] [] rfl ?_
      exact J32 1 _
theorem hy_X11_takes : yX11_takes.cls = RX11 ∧ yX11_takes.cls ≠ "java/lang/invoke/MethodHandle" ∧ yX11_takes.cls ≠ "java/lang/invoke/VarHandle" ∧ (parseMethodDescriptor yX11_takes.desc).map (fun d => d.parameters.length) = some 3 := by decide +kernel
set_option maxHeartbeats 4000000 in
set_option maxRecDepth 100000 in
theorem c_X11_takes (l : Launch) (E : zE) (a0 : Nat) (p0 : Int32) (p1 : Int32) (p2 : Int32) : z_Met l E yX11_takes wsX11_takes 1 21 [za ((some a0)), zi p0, zi p1, zi p2] z_ri (F_X11_takes a0 p0 p1 p2) := by
  refine z_of (own := RX11) (cc := cX11_takes) (maxL := 5) (rt := (some .boolean)) rfl (by decide) rfl (Nat.le_of_ble_eq_true rfl) ?_
  intro p e R s0 m args below meth c M0 fin X hr hnm
  have hiX11 : ∀ w ∈ u_ws RX11 TX11 32, w ∈ wsX11_takes := by decide +kernel
  have hl13 : Cond.fieldLink RX11 13 (TX11 0).1 (TX11 0).2.1 (TX11 0).2.2.1 ∈ wsX11_takes := by decide +kernel
  have hl20 : Cond.fieldLink RX11 20 (TX11 3).1 (TX11 3).2.1 (TX11 3).2.2.1 ∈ wsX11_takes := by decide +kernel
  have hl23 : Cond.fieldLink RX11 23 (TX11 4).1 (TX11 4).2.1 (TX11 4).2.2.1 ∈ wsX11_takes := by decide +kernel
  have hl41 : Cond.fieldLink RX11 41 (TX11 11).1 (TX11 11).2.1 (TX11 11).2.2.1 ∈ wsX11_takes := by decide +kernel
  have J83 : ∀ (s_0 : Int32) (M : zM), z_S p l e R s0 m args below meth c (z_Qm E below args s0 M0 z_ri fin) E 5 M0 fin M 83 [] [zi s_0] (F_X11_takes_83 a0 s_0) := by
    intro s_0 M
    exact s_retb X hr dX11_takes_83
  have J82 : ∀ (M : zM), z_S p l e R s0 m args below meth c (z_Qm E below args s0 M0 z_ri fin) E 5 M0 fin M 82 [] [] (F_X11_takes_82 a0) := by
    intro M
    refine s_iconst X 0 dX11_takes_82 (by decide) ?_
    exact J83 0 _
  have J78 : ∀ (M : zM), z_S p l e R s0 m args below meth c (z_Qm E below args s0 M0 z_ri fin) E 5 M0 fin M 78 [] [] (F_X11_takes_78 a0) := by
    intro M
    refine s_iconst X 1 dX11_takes_78 (by decide) ?_
    refine s_goto X 83 dX11_takes_79 (by decide) ?_
    exact J83 1 _
  have J16 : ∀ (x_1 : Int32) (x_2 : Int32) (x_3 : Int32) (t_0 : Option Nat) (s_1 : Int32) (s_2 : Int32) (M : zM), z_S p l e R s0 m args below meth c (z_Qm E below args s0 M0 z_ri fin) E 5 M0 fin M 16 [(0, za ((some a0))), (1, zi x_1), (2, zi x_2), (3, zi x_3)] [zi s_2, zi s_1, za t_0] (F_X11_takes_16 a0 x_1 x_2 x_3 t_0 s_1 s_2) := by
    intro x_1 x_2 x_3 t_0 s_1 s_2 M
    refine s_iadd X dX11_takes_16 ?_
    refine s_li X dX11_takes_17 (fun x3 => ?_)
    refine s_istore X dX11_takes_18 (by decide) [(4, zi x3), (0, za ((some a0))), (1, zi x_1), (2, zi x_2), (3, zi x_3)] rfl ?_
    refine s_aload_n X dX11_takes_20 1 rfl ?_
    refine s_iload_n X dX11_takes_21 2 rfl ?_
    refine s_callV (ci := 11) (C := RX11) (As := [zi x_1]) (st := []) X (fun a => c_X11_isOut l E a x_1) gX11_takes_X11_isOut rfl hy_X11_isOut rfl rfl rfl rfl (Nat.le_of_ble_eq_true rfl) (by decide) dX11_takes_22 (fun x4 M => ?_)
    refine s_iload_n X dX11_takes_25 4 rfl ?_
    refine s_icmp_ne X 82 dX11_takes_26 (by decide) (fun h6 => ?_) (fun h6 => ?_)
    · refine s_lv [] [] rfl ?_
      exact J82 _
    · refine s_aload_n X dX11_takes_29 1 rfl ?_
      refine s_ga X (C := RX11) (T := TX11) (N := 32) rfl (by decide) hiX11 hl20 dX11_takes_30 (fun r7 => ?_)
      refine s_iload_n X dX11_takes_33 2 rfl ?_
      refine s_li X dX11_takes_34 (fun x8 => ?_)
      refine s_aload_n X dX11_takes_35 1 rfl ?_
      refine s_ga X (C := RX11) (T := TX11) (N := 32) rfl (by decide) hiX11 hl13 dX11_takes_36 (fun r9 => ?_)
      refine s_iconst X 3 dX11_takes_39 (by decide) ?_
      refine s_iload_n X dX11_takes_40 3 rfl ?_
      refine s_imul X dX11_takes_41 ?_
      refine s_iconst X 1 dX11_takes_42 (by decide) ?_
      refine s_iadd X dX11_takes_43 ?_
      refine s_li X dX11_takes_44 (fun x10 => ?_)
      refine s_icmp_ne X 82 dX11_takes_45 (by decide) (fun h11 => ?_) (fun h11 => ?_)
      · refine s_lv [] [] rfl ?_
        exact J82 _
      · refine s_aload_n X dX11_takes_48 1 rfl ?_
        refine s_ga X (C := RX11) (T := TX11) (N := 32) rfl (by decide) hiX11 hl23 dX11_takes_49 (fun r12 => ?_)
        refine s_iload_n X dX11_takes_52 2 rfl ?_
        refine s_li X dX11_takes_53 (fun x13 => ?_)
        refine s_iconst X (-1) dX11_takes_54 (by decide) ?_
        refine s_icmp_eq X 78 dX11_takes_55 (by decide) (fun h14 => ?_) (fun h14 => ?_)
        · refine s_lv [] [] rfl ?_
          exact J78 _
        · refine s_aload_n X dX11_takes_58 1 rfl ?_
          refine s_ga X (C := RX11) (T := TX11) (N := 32) rfl (by decide) hiX11 hl41 dX11_takes_59 (fun r15 => ?_)
          refine s_aload_n X dX11_takes_62 1 rfl ?_
          refine s_ga X (C := RX11) (T := TX11) (N := 32) rfl (by decide) hiX11 hl23 dX11_takes_63 (fun r16 => ?_)
          refine s_iload_n X dX11_takes_66 2 rfl ?_
          refine s_li X dX11_takes_67 (fun x17 => ?_)
          refine s_li X dX11_takes_68 (fun x18 => ?_)
          refine s_iload X dX11_takes_69 0 rfl ?_
          refine s_ishr X dX11_takes_71 ?_
          refine s_iconst X 1 dX11_takes_72 (by decide) ?_
          refine s_iand X dX11_takes_73 ?_
          refine s_iconst X 1 dX11_takes_74 (by decide) ?_
          refine s_icmp_ne X 82 dX11_takes_75 (by decide) (fun h19 => ?_) (fun h19 => ?_)
          · refine s_lv [] [] rfl ?_
            exact J82 _
          · refine s_lv [] [] rfl ?_
            exact J78 _
  refine s_aload_n X dX11_takes_0 0 rfl ?_
  refine s_ga X (C := RX11) (T := TX11) (N := 32) rfl (by decide) hiX11 hl13 dX11_takes_1 (fun r1 => ?_)
  refine s_iconst X 3 dX11_takes_4 (by decide) ?_
  refine s_iload_n X dX11_takes_5 2 rfl ?_
  refine s_imul X dX11_takes_6 ?_
  refine s_iload_n X dX11_takes_7 3 rfl ?_
  refine s_if_eq X 15 dX11_takes_8 (by decide) (fun h2 => ?_) (fun h2 => ?_)
  · refine s_iconst X 0 dX11_takes_15 (by decide) ?_
    exact J16 p0 p1 p2 r1 (3 * p1) 0 _
  · refine s_iconst X 2 dX11_takes_11 (by decide) ?_
    refine s_goto X 16 dX11_takes_12 (by decide) ?_
    exact J16 p0 p1 p2 r1 (3 * p1) 2 _
