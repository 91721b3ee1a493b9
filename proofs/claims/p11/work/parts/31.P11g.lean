theorem hy_X11_other : yX11_other.cls = RX11 ∧ yX11_other.cls ≠ "java/lang/invoke/MethodHandle" ∧ yX11_other.cls ≠ "java/lang/invoke/VarHandle" ∧ (parseMethodDescriptor yX11_other.desc).map (fun d => d.parameters.length) = some 3 := by decide +kernel
set_option maxHeartbeats 4000000 in
set_option maxRecDepth 100000 in
theorem c_X11_other (l : Launch) (E : zE) (a0 : Nat) (p0 : Int32) (p1 : Int32) (p2 : Int32) : z_Met l E yX11_other wsX11_other 1 24 [za ((some a0)), zi p0, zi p1, zi p2] z_ri (F_X11_other a0 p0 p1 p2) := by
  refine z_of (own := RX11) (cc := cX11_other) (maxL := 7) (rt := (some .int)) rfl (by decide) rfl (Nat.le_of_ble_eq_true rfl) ?_
  intro p e R s0 m args below meth c M0 fin X hr hnm
  have hiX11 : ∀ w ∈ u_ws RX11 TX11 32, w ∈ wsX11_other := by decide +kernel
  have hl65 : Cond.fieldLink RX11 65 (TX11 23).1 (TX11 23).2.1 (TX11 23).2.2.1 ∈ wsX11_other := by decide +kernel
  have hl1 : Cond.fieldLink RX11 1 (TX11 22).1 (TX11 22).2.1 (TX11 22).2.2.1 ∈ wsX11_other := by decide +kernel
  have J118 : ∀ (s_0 : Int32) (M : zM), z_S p l e R s0 m args below meth c (z_Qm E below args s0 M0 z_ri fin) E 7 M0 fin M 118 [] [zi s_0] (F_X11_other_118 a0 s_0) := by
    intro s_0 M
    exact s_ret X hr dX11_other_118
  have J98 : ∀ (x_3 : Int32) (t_0 : Option Nat) (s_1 : Int32) (M : zM), z_S p l e R s0 m args below meth c (z_Qm E below args s0 M0 z_ri fin) E 7 M0 fin M 98 [(0, za ((some a0))), (3, zi x_3)] [zi s_1, za t_0] (F_X11_other_98 a0 x_3 t_0 s_1) := by
    intro x_3 t_0 s_1 M
    refine s_pf (x := zi s_1) X (C := RX11) (T := TX11) (N := 32) rfl (by decide) hiX11 tyX11 tyX11_ok nmX11 hl1 (Or.inl rfl) rfl (fun E => ⟨rfl, rfl⟩) dX11_other_98 (fun M => ?_)
    refine s_aload_n X dX11_other_101 0 rfl ?_
    refine s_gi X (C := RX11) (T := TX11) (N := 32) rfl (by decide) hiX11 hl1 dX11_other_102 (fun x11 => ?_)
    refine s_if_ne X 117 dX11_other_105 (by decide) (fun h12 => ?_) (fun h12 => ?_)
    · refine s_iconst X 0 dX11_other_117 (by decide) ?_
      refine s_lv [] [] rfl ?_
      exact J118 0 _
    · refine s_aload_n X dX11_other_108 0 rfl ?_
      refine s_ga X (C := RX11) (T := TX11) (N := 32) rfl (by decide) hiX11 hl65 dX11_other_109 (fun r13 => ?_)
      refine s_iload_n X dX11_other_112 1 rfl ?_
      refine s_li X dX11_other_113 (fun x14 => ?_)
      refine s_goto X 118 dX11_other_114 (by decide) ?_
      refine s_lv [] [] rfl ?_
      exact J118 x14 _
  have J97 : ∀ (x_3 : Int32) (t_0 : Option Nat) (M : zM), z_S p l e R s0 m args below meth c (z_Qm E below args s0 M0 z_ri fin) E 7 M0 fin M 97 [(0, za ((some a0))), (3, zi x_3)] [za t_0] (F_X11_other_97 a0 x_3 t_0) := by
    intro x_3 t_0 M
    refine s_iconst X 1 dX11_other_97 (by decide) ?_
    exact J98 x_3 t_0 1 _
  have L6 : ∀ (n : Nat) (s : Int32 × Int32 × Int32 × Int32 × Int32) (M : zM), z_S p l e R s0 m args below meth c (z_Qm E below args s0 M0 z_ri fin) E 7 M0 fin M 6 [(0, za (some a0)), (1, zi s.1), (2, zi s.2.1), (3, zi s.2.2.1), (4, zi s.2.2.2.1), (5, zi s.2.2.2.2)] [] (F_X11_other_6 a0 n s) := by
    refine s_fix ?_
    intro ih6_ hih6
    have J76 : ∀ (x_1 : Int32) (x_2 : Int32) (x_3 : Int32) (x_4 : Int32) (x_5 : Int32) (M : zM), z_S p l e R s0 m args below meth c (z_Qm E below args s0 M0 z_ri fin) E 7 M0 fin M 76 [(0, za ((some a0))), (1, zi x_1), (2, zi x_2), (3, zi x_3), (4, zi x_4), (5, zi x_5)] [] (F_X11_other_76 a0 (fun y0 y1 y2 y3 y4 => ih6_ (y0, y1, y2, y3, y4)) x_1 x_2 x_3 x_4 x_5) := by
      intro x_1 x_2 x_3 x_4 x_5 M
      refine s_iinc X 1 dX11_other_76 5 rfl (by decide) (by decide) [(5, zi (x_5 + 1)), (0, za ((some a0))), (1, zi x_1), (2, zi x_2), (3, zi x_3), (4, zi x_4)] rfl ?_
      refine s_goto X 6 dX11_other_79 (by decide) ?_
      refine s_lv [(0, za ((some a0))), (1, zi x_1), (2, zi x_2), (3, zi x_3), (4, zi x_4), (5, zi (x_5 + 1))] [1, 2, 3, 4, 5, 0] rfl ?_
      exact hih6 (x_1, x_2, x_3, x_4, x_5 + 1) _
    have J51 : ∀ (x_1 : Int32) (x_2 : Int32) (x_3 : Int32) (x_4 : Int32) (x_5 : Int32) (s_0 : Int32) (M : zM), z_S p l e R s0 m args below meth c (z_Qm E below args s0 M0 z_ri fin) E 7 M0 fin M 51 [(0, za ((some a0))), (1, zi x_1), (2, zi x_2), (3, zi x_3), (4, zi x_4), (5, zi x_5)] [zi s_0] (F_X11_other_51 a0 (fun y0 y1 y2 y3 y4 => ih6_ (y0, y1, y2, y3, y4)) x_1 x_2 x_3 x_4 x_5 s_0) := by
      intro x_1 x_2 x_3 x_4 x_5 s_0 M
      refine s_istore X dX11_other_51 (by decide) [(6, zi s_0), (0, za ((some a0))), (1, zi x_1), (2, zi x_2), (3, zi x_3), (4, zi x_4), (5, zi x_5)] rfl ?_
      refine s_iload X dX11_other_53 0 rfl ?_
      refine s_if_ge X 61 dX11_other_55 (by decide) (fun h9 => ?_) (fun h9 => ?_)
      · refine s_aload_n X dX11_other_61 1 rfl ?_
        refine s_ga X (C := RX11) (T := TX11) (N := 32) rfl (by decide) hiX11 hl65 dX11_other_62 (fun r10 => ?_)
        refine s_iload X dX11_other_65 5 rfl ?_
        refine s_iload X dX11_other_67 6 rfl ?_
        refine s_bipush X 16 dX11_other_69 (by decide) ?_
        refine s_irem X dX11_other_71 (by decide) ?_
        refine s_si X dX11_other_72 (fun M => ?_)
        refine s_iinc X 1 dX11_other_73 5 rfl (by decide) (by decide) [(4, zi (x_4 + 1)), (6, zi s_0), (0, za ((some a0))), (1, zi x_1), (2, zi x_2), (3, zi x_3), (5, zi x_5)] rfl ?_
        refine s_lv [(0, za ((some a0))), (1, zi x_1), (2, zi x_2), (3, zi x_3), (4, zi (x_4 + 1)), (5, zi x_5)] [2, 3, 4, 5, 0, 6] rfl ?_
        exact J76 x_1 x_2 x_3 (x_4 + 1) x_5 _
      · refine s_goto X 76 dX11_other_58 (by decide) ?_
        refine s_lv [(0, za ((some a0))), (1, zi x_1), (2, zi x_2), (3, zi x_3), (4, zi x_4), (5, zi x_5)] [1, 2, 3, 4, 5, 6] rfl ?_
        exact J76 x_1 x_2 x_3 x_4 x_5 _
    rintro ⟨x_1, x_2, x_3, x_4, x_5⟩ M
    refine s_iload X dX11_other_6 5 rfl ?_
    refine s_sipush X 128 dX11_other_8 (by decide) ?_
    refine s_icmp_ge X 82 dX11_other_11 (by decide) (fun h1 => ?_) (fun h1 => ?_)
    · refine s_aload_n X dX11_other_82 0 rfl ?_
      refine s_iload_n X dX11_other_83 3 rfl ?_
      refine s_if_lt X 97 dX11_other_84 (by decide) (fun h2 => ?_) (fun h2 => ?_)
      · refine s_lv [(0, za ((some a0))), (3, zi x_3)] [0, 3] rfl ?_
        exact J97 x_3 ((some a0)) _
      · refine s_iload_n X dX11_other_87 3 rfl ?_
        refine s_iload X dX11_other_88 4 rfl ?_
        refine s_icmp_ge X 97 dX11_other_90 (by decide) (fun h3 => ?_) (fun h3 => ?_)
        · refine s_lv [(0, za ((some a0))), (3, zi x_3)] [0, 3] rfl ?_
          exact J97 x_3 ((some a0)) _
        · refine s_iconst X 0 dX11_other_93 (by decide) ?_
          refine s_goto X 98 dX11_other_94 (by decide) ?_
          refine s_lv [(0, za ((some a0))), (3, zi x_3)] [0, 3] rfl ?_
          exact J98 x_3 ((some a0)) 0 _
    · refine s_iload_n X dX11_other_14 2 rfl ?_
      refine s_if_eq X 36 dX11_other_15 (by decide) (fun h4 => ?_) (fun h4 => ?_)
      · refine s_aload_n X dX11_other_36 0 rfl ?_
        refine s_iload X dX11_other_37 5 rfl ?_
        refine s_bipush X 16 dX11_other_39 (by decide) ?_
        refine s_irem X dX11_other_41 (by decide) ?_
        refine s_iload X dX11_other_42 5 rfl ?_
        refine s_bipush X 16 dX11_other_44 (by decide) ?_
        refine s_idiv X dX11_other_46 (by decide) ?_
        refine s_iload_n X dX11_other_47 1 rfl ?_
        refine s_callV (ci := 11) (C := RX11) (As := [zi (x_5 - x_5 / 16 * 16), zi (x_5 / 16), zi x_1]) (st := []) X (fun a => c_X11_find l E a (x_5 - x_5 / 16 * 16) (x_5 / 16) x_1) gX11_other_X11_find rfl hy_X11_find rfl rfl rfl rfl (Nat.le_of_ble_eq_true rfl) (by decide) dX11_other_48 (fun x5 M => ?_)
        exact J51 x_1 x_2 x_3 x_4 x_5 x5 _
      · refine s_aload_n X dX11_other_18 0 rfl ?_
        refine s_iload_n X dX11_other_19 1 rfl ?_
        refine s_iload X dX11_other_20 5 rfl ?_
        refine s_bipush X 16 dX11_other_22 (by decide) ?_
        refine s_idiv X dX11_other_24 (by decide) ?_
        refine s_iload X dX11_other_25 5 rfl ?_
        refine s_bipush X 16 dX11_other_27 (by decide) ?_
        refine s_irem X dX11_other_29 (by decide) ?_
        refine s_callV (ci := 11) (C := RX11) (As := [zi x_1, zi (x_5 / 16), zi (x_5 - x_5 / 16 * 16)]) (st := []) X (fun a => c_X11_find l E a x_1 (x_5 / 16) (x_5 - x_5 / 16 * 16)) gX11_other_X11_find rfl hy_X11_find rfl rfl rfl rfl (Nat.le_of_ble_eq_true rfl) (by decide) dX11_other_30 (fun x7 M => ?_)
        refine s_goto X 51 dX11_other_33 (by decide) ?_
        exact J51 x_1 x_2 x_3 x_4 x_5 x7 _
  refine s_iconst X 0 dX11_other_0 (by decide) ?_
  refine s_istore X dX11_other_1 (by decide) [(4, zi (0)), (0, za ((some a0))), (1, zi p0), (2, zi p1), (3, zi p2)] rfl ?_
  refine s_iconst X 0 dX11_other_3 (by decide) ?_
  refine s_istore X dX11_other_4 (by decide) [(5, zi (0)), (4, zi (0)), (0, za ((some a0))), (1, zi p0), (2, zi p1), (3, zi p2)] rfl ?_
  refine s_lv [(0, za ((some a0))), (1, zi p0), (2, zi p1), (3, zi p2), (4, zi (0)), (5, zi (0))] [2, 3, 4, 5, 1, 0] rfl ?_
  exact L6 z_N (p0, p1, p2, 0, 0) _
theorem hy_X11_shape : yX11_shape.cls = RX11 ∧ yX11_shape.cls ≠ "java/lang/invoke/MethodHandle" ∧ yX11_shape.cls ≠ "java/lang/invoke/VarHandle" ∧ (parseMethodDescriptor yX11_shape.desc).map (fun d => d.parameters.length) = some 5 := by decide +kernel
set_option maxHeartbeats 4000000 in
set_option maxRecDepth 100000 in
theorem c_X11_shape (l : Launch) (E : zE) (a0 : Nat) (p0 : Int32) (p1 : Int32) (p2 : Int32) (p3 : Int32) (p4 : Int32) : z_Met l E yX11_shape wsX11_shape 1 22 [za ((some a0)), zi p0, zi p1, zi p2, zi p3, zi p4] z_ri (F_X11_shape a0 p0 p1 p2 p3 p4) := by
  refine z_of (own := RX11) (cc := cX11_shape) (maxL := 6) (rt := (some .int)) rfl (by decide) rfl (Nat.le_of_ble_eq_true rfl) ?_
  intro p e R s0 m args below meth c M0 fin X hr hnm
  have hiX11 : ∀ w ∈ u_ws RX11 TX11 32, w ∈ wsX11_shape := by decide +kernel
  have hl1 : Cond.fieldLink RX11 1 (TX11 22).1 (TX11 22).2.1 (TX11 22).2.2.1 ∈ wsX11_shape := by decide +kernel
  have hl128 : Cond.fieldLink RX11 128 (TX11 21).1 (TX11 21).2.1 (TX11 21).2.2.1 ∈ wsX11_shape := by decide +kernel
  have hl29 : Cond.fieldLink RX11 29 (TX11 7).1 (TX11 7).2.1 (TX11 7).2.2.1 ∈ wsX11_shape := by decide +kernel
  have hl32 : Cond.fieldLink RX11 32 (TX11 8).1 (TX11 8).2.1 (TX11 8).2.2.1 ∈ wsX11_shape := by decide +kernel
  have hl35 : Cond.fieldLink RX11 35 (TX11 9).1 (TX11 9).2.1 (TX11 9).2.2.1 ∈ wsX11_shape := by decide +kernel
  have hl38 : Cond.fieldLink RX11 38 (TX11 10).1 (TX11 10).2.1 (TX11 10).2.2.1 ∈ wsX11_shape := by decide +kernel
  have hl118 : Cond.fieldLink RX11 118 (TX11 12).1 (TX11 12).2.1 (TX11 12).2.2.1 ∈ wsX11_shape := by decide +kernel
  have J95 : ∀ (x_1 : Int32) (x_2 : Int32) (x_3 : Int32) (x_4 : Int32) (x_5 : Int32) (M : zM), z_S p l e R s0 m args below meth c (z_Qm E below args s0 M0 z_ri fin) E 6 M0 fin M 95 [(0, za ((some a0))), (1, zi x_1), (2, zi x_2), (3, zi x_3), (4, zi x_4), (5, zi x_5)] [] (F_X11_shape_95 a0 x_1 x_2 x_3 x_4 x_5) := by
    intro x_1 x_2 x_3 x_4 x_5 M
    refine s_aload_n X dX11_shape_95 0 rfl ?_
    refine s_ga X (C := RX11) (T := TX11) (N := 32) rfl (by decide) hiX11 hl29 dX11_shape_96 (fun r17 => ?_)
    refine s_iload_n X dX11_shape_99 1 rfl ?_
    refine s_iload_n X dX11_shape_100 2 rfl ?_
    refine s_si X dX11_shape_101 (fun M => ?_)
    refine s_aload_n X dX11_shape_102 0 rfl ?_
    refine s_ga X (C := RX11) (T := TX11) (N := 32) rfl (by decide) hiX11 hl32 dX11_shape_103 (fun r18 => ?_)
    refine s_iload_n X dX11_shape_106 1 rfl ?_
    refine s_iload_n X dX11_shape_107 3 rfl ?_
    refine s_si X dX11_shape_108 (fun M => ?_)
    refine s_aload_n X dX11_shape_109 0 rfl ?_
    refine s_ga X (C := RX11) (T := TX11) (N := 32) rfl (by decide) hiX11 hl35 dX11_shape_110 (fun r19 => ?_)
    refine s_iload_n X dX11_shape_113 1 rfl ?_
    refine s_iload X dX11_shape_114 4 rfl ?_
    refine s_si X dX11_shape_116 (fun M => ?_)
    refine s_aload_n X dX11_shape_117 0 rfl ?_
    refine s_ga X (C := RX11) (T := TX11) (N := 32) rfl (by decide) hiX11 hl38 dX11_shape_118 (fun r20 => ?_)
    refine s_iload_n X dX11_shape_121 1 rfl ?_
    refine s_iload X dX11_shape_122 5 rfl ?_
    refine s_si X dX11_shape_124 (fun M => ?_)
    refine s_aload_n X dX11_shape_125 0 rfl ?_
    refine s_iconst X 0 dX11_shape_126 (by decide) ?_
    refine s_pf (x := zi (0)) X (C := RX11) (T := TX11) (N := 32) rfl (by decide) hiX11 tyX11 tyX11_ok nmX11 hl118 (Or.inl rfl) rfl (fun E => ⟨rfl, rfl⟩) dX11_shape_127 (fun M => ?_)
    refine s_iconst X 1 dX11_shape_130 (by decide) ?_
    exact s_ret X hr dX11_shape_131
  have J93 : ∀ (M : zM), z_S p l e R s0 m args below meth c (z_Qm E below args s0 M0 z_ri fin) E 6 M0 fin M 93 [] [] (F_X11_shape_93 a0) := by
    intro M
    refine s_iconst X (-1) dX11_shape_93 (by decide) ?_
    exact s_ret X hr dX11_shape_94
  have J85 : ∀ (x_1 : Int32) (x_2 : Int32) (x_3 : Int32) (x_4 : Int32) (x_5 : Int32) (M : zM), z_S p l e R s0 m args below meth c (z_Qm E below args s0 M0 z_ri fin) E 6 M0 fin M 85 [(0, za ((some a0))), (1, zi x_1), (2, zi x_2), (3, zi x_3), (4, zi x_4), (5, zi x_5)] [] (F_X11_shape_85 a0 x_1 x_2 x_3 x_4 x_5) := by
    intro x_1 x_2 x_3 x_4 x_5 M
    refine s_iload X dX11_shape_85 4 rfl ?_
    refine s_callS (As := [zi x_4]) (st := []) X (c_X11_isShape l E x_4) gX11_shape_X11_isShape rfl hy_X11_isShape rfl rfl (Nat.le_of_ble_eq_true rfl) (by decide) dX11_shape_87 (fun x21 M => ?_)
    refine s_if_ne X 95 dX11_shape_90 (by decide) (fun h22 => ?_) (fun h22 => ?_)
    · exact J95 x_1 x_2 x_3 x_4 x_5 _
    · refine s_lv [] [] rfl ?_
      exact J93 _
  have J75 : ∀ (x_1 : Int32) (x_2 : Int32) (x_3 : Int32) (x_4 : Int32) (x_5 : Int32) (M : zM), z_S p l e R s0 m args below meth c (z_Qm E below args s0 M0 z_ri fin) E 6 M0 fin M 75 [(0, za ((some a0))), (1, zi x_1), (2, zi x_2), (3, zi x_3), (4, zi x_4), (5, zi x_5)] [] (F_X11_shape_75 a0 x_1 x_2 x_3 x_4 x_5) := by
    intro x_1 x_2 x_3 x_4 x_5 M
    refine s_iload_n X dX11_shape_75 2 rfl ?_
    refine s_iconst X 1 dX11_shape_76 (by decide) ?_
    refine s_icmp_eq X 85 dX11_shape_77 (by decide) (fun h15 => ?_) (fun h15 => ?_)
    · exact J85 x_1 x_2 x_3 x_4 x_5 _
    · refine s_iload_n X dX11_shape_80 2 rfl ?_
      refine s_iconst X 2 dX11_shape_81 (by decide) ?_
      refine s_icmp_ne X 95 dX11_shape_82 (by decide) (fun h16 => ?_) (fun h16 => ?_)
      · exact J95 x_1 x_2 x_3 x_4 x_5 _
      · exact J85 x_1 x_2 x_3 x_4 x_5 _
  have J68 : ∀ (x_1 : Int32) (x_2 : Int32) (x_3 : Int32) (x_4 : Int32) (x_5 : Int32) (M : zM), z_S p l e R s0 m args below meth c (z_Qm E below args s0 M0 z_ri fin) E 6 M0 fin M 68 [(0, za ((some a0))), (1, zi x_1), (2, zi x_2), (3, zi x_3), (4, zi x_4), (5, zi x_5)] [] (F_X11_shape_68 a0 x_1 x_2 x_3 x_4 x_5) := by
    intro x_1 x_2 x_3 x_4 x_5 M
    refine s_iload_n X dX11_shape_68 3 rfl ?_
    refine s_callS (As := [zi x_3]) (st := []) X (c_X11_isShape l E x_3) gX11_shape_X11_isShape rfl hy_X11_isShape rfl rfl (Nat.le_of_ble_eq_true rfl) (by decide) dX11_shape_69 (fun x23 M => ?_)
    refine s_if_eq X 93 dX11_shape_72 (by decide) (fun h24 => ?_) (fun h24 => ?_)
    · refine s_lv [] [] rfl ?_
      exact J93 _
    · exact J75 x_1 x_2 x_3 x_4 x_5 _
  have J53 : ∀ (x_1 : Int32) (x_2 : Int32) (x_3 : Int32) (x_4 : Int32) (x_5 : Int32) (M : zM), z_S p l e R s0 m args below meth c (z_Qm E below args s0 M0 z_ri fin) E 6 M0 fin M 53 [(0, za ((some a0))), (1, zi x_1), (2, zi x_2), (3, zi x_3), (4, zi x_4), (5, zi x_5)] [] (F_X11_shape_53 a0 x_1 x_2 x_3 x_4 x_5) := by
    intro x_1 x_2 x_3 x_4 x_5 M
    refine s_iload_n X dX11_shape_53 2 rfl ?_
    refine s_iconst X 1 dX11_shape_54 (by decide) ?_
    refine s_icmp_eq X 68 dX11_shape_55 (by decide) (fun h12 => ?_) (fun h12 => ?_)
    · exact J68 x_1 x_2 x_3 x_4 x_5 _
    · refine s_iload_n X dX11_shape_58 2 rfl ?_
      refine s_iconst X 2 dX11_shape_59 (by decide) ?_
      refine s_icmp_eq X 68 dX11_shape_60 (by decide) (fun h13 => ?_) (fun h13 => ?_)
      · exact J68 x_1 x_2 x_3 x_4 x_5 _
      · refine s_iload_n X dX11_shape_63 2 rfl ?_
        refine s_iconst X 3 dX11_shape_64 (by decide) ?_
        refine s_icmp_ne X 75 dX11_shape_65 (by decide) (fun h14 => ?_) (fun h14 => ?_)
        · exact J75 x_1 x_2 x_3 x_4 x_5 _
        · exact J68 x_1 x_2 x_3 x_4 x_5 _
  have J22 : ∀ (M : zM), z_S p l e R s0 m args below meth c (z_Qm E below args s0 M0 z_ri fin) E 6 M0 fin M 22 [] [] (F_X11_shape_22 a0) := by
    intro M
    refine s_iconst X (-1) dX11_shape_22 (by decide) ?_
    exact s_ret X hr dX11_shape_23
  refine s_aload_n X dX11_shape_0 0 rfl ?_
  refine s_iconst X 0 dX11_shape_1 (by decide) ?_
  refine s_pf (x := zi (0)) X (C := RX11) (T := TX11) (N := 32) rfl (by decide) hiX11 tyX11 tyX11_ok nmX11 hl1 (Or.inl rfl) rfl (fun E => ⟨rfl, rfl⟩) dX11_shape_2 (fun M => ?_)
  refine s_iload_n X dX11_shape_5 1 rfl ?_
  refine s_callS (As := [zi p0]) (st := []) X (c_X11_isShape l E p0) gX11_shape_X11_isShape rfl hy_X11_isShape rfl rfl (Nat.le_of_ble_eq_true rfl) (by decide) dX11_shape_6 (fun x1 M => ?_)
  refine s_if_eq X 22 dX11_shape_9 (by decide) (fun h2 => ?_) (fun h2 => ?_)
  · refine s_lv [] [] rfl ?_
    exact J22 _
  · refine s_iload_n X dX11_shape_12 2 rfl ?_
    refine s_iconst X (-1) dX11_shape_13 (by decide) ?_
    refine s_icmp_lt X 22 dX11_shape_14 (by decide) (fun h3 => ?_) (fun h3 => ?_)
    · refine s_lv [] [] rfl ?_
      exact J22 _
    · refine s_iload_n X dX11_shape_17 2 rfl ?_
      refine s_iconst X 4 dX11_shape_18 (by decide) ?_
      refine s_icmp_le X 24 dX11_shape_19 (by decide) (fun h4 => ?_) (fun h4 => ?_)
      · refine s_iload_n X dX11_shape_24 2 rfl ?_
        refine s_if_ne X 53 dX11_shape_25 (by decide) (fun h5 => ?_) (fun h5 => ?_)
        · exact J53 p0 p1 p2 p3 p4 _
        · refine s_aload_n X dX11_shape_28 0 rfl ?_
          refine s_iload_n X dX11_shape_29 3 rfl ?_
          refine s_callV (ci := 11) (C := RX11) (As := [zi p2]) (st := []) X (fun a => c_X11_isExpression l E a p2) gX11_shape_X11_isExpression rfl hy_X11_isExpression rfl rfl rfl rfl (Nat.le_of_ble_eq_true rfl) (by decide) dX11_shape_30 (fun x6 M => ?_)
          refine s_if_ne X 38 dX11_shape_33 (by decide) (fun h8 => ?_) (fun h8 => ?_)
          · refine s_aload_n X dX11_shape_38 0 rfl ?_
            refine s_iload_n X dX11_shape_39 3 rfl ?_
            refine s_callV (ci := 11) (C := RX11) (As := [zi p2]) (st := []) X (fun a => c_X11_findPlaces l E a p2) gX11_shape_X11_findPlaces rfl hy_X11_findPlaces rfl rfl rfl rfl (Nat.le_of_ble_eq_true rfl) (by decide) dX11_shape_40 (fun _ M => ?_)
            refine s_aload_n X dX11_shape_43 0 rfl ?_
            refine s_gi X (C := RX11) (T := TX11) (N := 32) rfl (by decide) hiX11 hl128 dX11_shape_44 (fun x10 => ?_)
            refine s_iconst X 5 dX11_shape_47 (by decide) ?_
            refine s_icmp_le X 53 dX11_shape_48 (by decide) (fun h11 => ?_) (fun h11 => ?_)
            · exact J53 p0 p1 p2 p3 p4 _
            · refine s_iconst X (-1) dX11_shape_51 (by decide) ?_
              exact s_ret X hr dX11_shape_52
          · refine s_iconst X (-1) dX11_shape_36 (by decide) ?_
            exact s_ret X hr dX11_shape_37
      · refine s_lv [] [] rfl ?_
        exact J22 _
theorem hy_X11_thrown : yX11_thrown.cls = RX11 ∧ yX11_thrown.cls ≠ "java/lang/invoke/MethodHandle" ∧ yX11_thrown.cls ≠ "java/lang/invoke/VarHandle" ∧ (parseMethodDescriptor yX11_thrown.desc).map (fun d => d.parameters.length) = some 0 := by decide +kernel
set_option maxHeartbeats 4000000 in
set_option maxRecDepth 100000 in
theorem c_X11_thrown (l : Launch) (E : zE) (a0 : Nat) : z_Met l E yX11_thrown wsX11_thrown 0 0 [za ((some a0))] z_ri (F_X11_thrown a0) := by
  refine z_of (own := RX11) (cc := cX11_thrown) (maxL := 1) (rt := (some .int)) rfl (by decide) rfl (Nat.le_of_ble_eq_true rfl) ?_
  intro p e R s0 m args below meth c M0 fin X hr hnm
  have hiX11 : ∀ w ∈ u_ws RX11 TX11 32, w ∈ wsX11_thrown := by decide +kernel
  have hl1 : Cond.fieldLink RX11 1 (TX11 22).1 (TX11 22).2.1 (TX11 22).2.2.1 ∈ wsX11_thrown := by decide +kernel
  refine s_aload_n X dX11_thrown_0 0 rfl ?_
  refine s_gi X (C := RX11) (T := TX11) (N := 32) rfl (by decide) hiX11 hl1 dX11_thrown_1 (fun x1 => ?_)
  exact s_ret X hr dX11_thrown_4
theorem hy_X11_ways : yX11_ways.cls = RX11 ∧ yX11_ways.cls ≠ "java/lang/invoke/MethodHandle" ∧ yX11_ways.cls ≠ "java/lang/invoke/VarHandle" ∧ (parseMethodDescriptor yX11_ways.desc).map (fun d => d.parameters.length) = some 2 := by decide +kernel
set_option maxHeartbeats 4000000 in
set_option maxRecDepth 100000 in
theorem c_X11_ways (l : Launch) (E : zE) (a0 : Nat) (p0 : Int32) (p1 : Int32) : z_Met l E yX11_ways wsX11_ways 7 170 [za ((some a0)), zi p0, zi p1] z_ri (F_X11_ways a0 p0 p1) := by
  refine z_of (own := RX11) (cc := cX11_ways) (maxL := 5) (rt := (some .int)) rfl (by decide) rfl (Nat.le_of_ble_eq_true rfl) ?_
  intro p e R s0 m args below meth c M0 fin X hr hnm
  have hiX11 : ∀ w ∈ u_ws RX11 TX11 32, w ∈ wsX11_ways := by decide +kernel
  have hl1 : Cond.fieldLink RX11 1 (TX11 22).1 (TX11 22).2.1 (TX11 22).2.2.1 ∈ wsX11_ways := by decide +kernel
  have hl187 : Cond.fieldLink RX11 187 (TX11 13).1 (TX11 13).2.1 (TX11 13).2.2.1 ∈ wsX11_ways := by decide +kernel
  have J58 : ∀ (s_0 : Int32) (M : zM), z_S p l e R s0 m args below meth c (z_Qm E below args s0 M0 z_ri fin) E 5 M0 fin M 58 [] [zi s_0] (F_X11_ways_58 a0 s_0) := by
    intro s_0 M
    exact s_ret X hr dX11_ways_58
  have J20 : ∀ (M : zM), z_S p l e R s0 m args below meth c (z_Qm E below args s0 M0 z_ri fin) E 5 M0 fin M 20 [] [] (F_X11_ways_20 a0) := by
    intro M
    refine s_iconst X (-1) dX11_ways_20 (by decide) ?_
    exact s_ret X hr dX11_ways_21
  refine s_aload_n X dX11_ways_0 0 rfl ?_
  refine s_iconst X 0 dX11_ways_1 (by decide) ?_
  refine s_pf (x := zi (0)) X (C := RX11) (T := TX11) (N := 32) rfl (by decide) hiX11 tyX11 tyX11_ok nmX11 hl1 (Or.inl rfl) rfl (fun E => ⟨rfl, rfl⟩) dX11_ways_2 (fun M => ?_)
  refine s_iload_n X dX11_ways_5 1 rfl ?_
  refine s_callS (As := [zi p0]) (st := []) X (c_X11_isNode l E p0) gX11_ways_X11_isNode rfl hy_X11_isNode rfl rfl (Nat.le_of_ble_eq_true rfl) (by decide) dX11_ways_6 (fun x1 M => ?_)
  refine s_if_eq X 20 dX11_ways_9 (by decide) (fun h2 => ?_) (fun h2 => ?_)
  · refine s_lv [] [] rfl ?_
    exact J20 _
  · refine s_aload_n X dX11_ways_12 0 rfl ?_
    refine s_iload_n X dX11_ways_13 2 rfl ?_
    refine s_callV (ci := 11) (C := RX11) (As := [zi p1]) (st := []) X (fun a => c_X11_isBare l E a p1) gX11_ways_X11_isBare rfl hy_X11_isBare rfl rfl rfl rfl (Nat.le_of_ble_eq_true rfl) (by decide) dX11_ways_14 (fun x3 M => ?_)
    refine s_if_ne X 22 dX11_ways_17 (by decide) (fun h5 => ?_) (fun h5 => ?_)
    · refine s_aload_n X dX11_ways_22 0 rfl ?_
      refine s_callV (ci := 11) (C := RX11) (As := []) (st := []) X (fun a => c_X11_reckon l E a) gX11_ways_X11_reckon rfl hy_X11_reckon rfl rfl rfl rfl (Nat.le_of_ble_eq_true rfl) (by decide) dX11_ways_23 (fun _ M => ?_)
      refine s_aload_n X dX11_ways_26 0 rfl ?_
      refine s_gi X (C := RX11) (T := TX11) (N := 32) rfl (by decide) hiX11 hl187 dX11_ways_27 (fun x7 => ?_)
      refine s_if_lt X 36 dX11_ways_30 (by decide) (fun h8 => ?_) (fun h8 => ?_)
      · refine s_aload_n X dX11_ways_36 0 rfl ?_
        refine s_iload_n X dX11_ways_37 1 rfl ?_
        refine s_iload_n X dX11_ways_38 2 rfl ?_
        refine s_callV (ci := 11) (C := RX11) (As := [zi p0, zi p1]) (st := []) X (fun a => c_X11_weigh l E a p0 p1) gX11_ways_X11_weigh rfl hy_X11_weigh rfl rfl rfl rfl (Nat.le_of_ble_eq_true rfl) (by decide) dX11_ways_39 (fun w9 M => ?_)
        refine s_lstore_n X dX11_ways_42 (by decide) [(3, zl w9), (0, za ((some a0))), (1, zi p0), (2, zi p1)] rfl ?_
        refine s_lload_n X dX11_ways_43 0 rfl ?_
        refine s_ldc2 X 1000000 dX11_ways_44 (by decide +kernel) ?_
        refine s_lcmp X dX11_ways_47 ?_
        refine s_if_ge X 56 dX11_ways_48 (by decide) (fun h11 => ?_) (fun h11 => ?_)
        · refine s_ldc X 1000000 dX11_ways_56 (by decide +kernel) ?_
          refine s_lv [] [] rfl ?_
          exact J58 1000000 _
        · refine s_lload_n X dX11_ways_51 0 rfl ?_
          refine s_l2i X dX11_ways_52 ?_
          refine s_goto X 58 dX11_ways_53 (by decide) ?_
          refine s_lv [] [] rfl ?_
          exact J58 ((w9 : Int64).toInt32) _
      · refine s_bipush X (-3) dX11_ways_33 (by decide) ?_
        exact s_ret X hr dX11_ways_35
    · refine s_lv [] [] rfl ?_
      exact J20 _
theorem hy_X11_wrong : yX11_wrong.cls = RX11 ∧ yX11_wrong.cls ≠ "java/lang/invoke/MethodHandle" ∧ yX11_wrong.cls ≠ "java/lang/invoke/VarHandle" ∧ (parseMethodDescriptor yX11_wrong.desc).map (fun d => d.parameters.length) = some 0 := by decide +kernel
set_option maxHeartbeats 4000000 in
set_option maxRecDepth 100000 in
theorem c_X11_wrong (l : Launch) (E : zE) (a0 : Nat) : z_Met l E yX11_wrong wsX11_wrong 7 170 [za ((some a0))] z_ri (F_X11_wrong a0) := by
  refine z_of (own := RX11) (cc := cX11_wrong) (maxL := 1) (rt := (some .int)) rfl (by decide) rfl (Nat.le_of_ble_eq_true rfl) ?_
  intro p e R s0 m args below meth c M0 fin X hr hnm
  have hiX11 : ∀ w ∈ u_ws RX11 TX11 32, w ∈ wsX11_wrong := by decide +kernel
  have hl1 : Cond.fieldLink RX11 1 (TX11 22).1 (TX11 22).2.1 (TX11 22).2.2.1 ∈ wsX11_wrong := by decide +kernel
  have hl187 : Cond.fieldLink RX11 187 (TX11 13).1 (TX11 13).2.1 (TX11 13).2.2.1 ∈ wsX11_wrong := by decide +kernel
  refine s_aload_n X dX11_wrong_0 0 rfl ?_
  refine s_iconst X 0 dX11_wrong_1 (by decide) ?_
  refine s_pf (x := zi (0)) X (C := RX11) (T := TX11) (N := 32) rfl (by decide) hiX11 tyX11 tyX11_ok nmX11 hl1 (Or.inl rfl) rfl (fun E => ⟨rfl, rfl⟩) dX11_wrong_2 (fun M => ?_)
  refine s_aload_n X dX11_wrong_5 0 rfl ?_
  refine s_callV (ci := 11) (C := RX11) (As := []) (st := []) X (fun a => c_X11_reckon l E a) gX11_wrong_X11_reckon rfl hy_X11_reckon rfl rfl rfl rfl (Nat.le_of_ble_eq_true rfl) (by decide) dX11_wrong_6 (fun _ M => ?_)
  refine s_aload_n X dX11_wrong_9 0 rfl ?_
  refine s_gi X (C := RX11) (T := TX11) (N := 32) rfl (by decide) hiX11 hl187 dX11_wrong_10 (fun x2 => ?_)
  exact s_ret X hr dX11_wrong_13
