theorem hy_X11_find : yX11_find.cls = RX11 ∧ yX11_find.cls ≠ "java/lang/invoke/MethodHandle" ∧ yX11_find.cls ≠ "java/lang/invoke/VarHandle" ∧ (parseMethodDescriptor yX11_find.desc).map (fun d => d.parameters.length) = some 3 := by decide +kernel
set_option maxHeartbeats 4000000 in
set_option maxRecDepth 100000 in
theorem c_X11_find (l : Launch) (E : zE) (a0 : Nat) (p0 : Int32) (p1 : Int32) (p2 : Int32) : z_Met l E yX11_find wsX11_find 0 0 [za ((some a0)), zi p0, zi p1, zi p2] z_ri (F_X11_find a0 p0 p1 p2) := by
  refine z_of (own := RX11) (cc := cX11_find) (maxL := 5) (rt := (some .int)) rfl (by decide) rfl (Nat.le_of_ble_eq_true rfl) ?_
  intro p e R s0 m args below meth c M0 fin X hr hnm
  have hiX11 : ∀ w ∈ u_ws RX11 TX11 32, w ∈ wsX11_find := by decide +kernel
  have hl100 : Cond.fieldLink RX11 100 (TX11 1).1 (TX11 1).2.1 (TX11 1).2.2.1 ∈ wsX11_find := by decide +kernel
  have hl13 : Cond.fieldLink RX11 13 (TX11 0).1 (TX11 0).2.1 (TX11 0).2.2.1 ∈ wsX11_find := by decide +kernel
  have L3 : ∀ (n : Nat) (s : Int32 × Int32 × Int32 × Int32) (M : zM), z_S p l e R s0 m args below meth c (z_Qm E below args s0 M0 z_ri fin) E 5 M0 fin M 3 [(0, za (some a0)), (1, zi s.1), (2, zi s.2.1), (3, zi s.2.2.1), (4, zi s.2.2.2)] [] (F_X11_find_3 a0 n s) := by
    refine s_fix ?_
    intro ih3_ hih3
    have J58 : ∀ (x_1 : Int32) (x_2 : Int32) (x_3 : Int32) (x_4 : Int32) (M : zM), z_S p l e R s0 m args below meth c (z_Qm E below args s0 M0 z_ri fin) E 5 M0 fin M 58 [(0, za ((some a0))), (1, zi x_1), (2, zi x_2), (3, zi x_3), (4, zi x_4)] [] (F_X11_find_58 a0 (fun y0 y1 y2 y3 => ih3_ (y0, y1, y2, y3)) x_1 x_2 x_3 x_4) := by
      intro x_1 x_2 x_3 x_4 M
      refine s_iinc X 1 dX11_find_58 4 rfl (by decide) (by decide) [(4, zi (x_4 + 1)), (0, za ((some a0))), (1, zi x_1), (2, zi x_2), (3, zi x_3)] rfl ?_
      refine s_goto X 3 dX11_find_61 (by decide) ?_
      refine s_lv [(0, za ((some a0))), (1, zi x_1), (2, zi x_2), (3, zi x_3), (4, zi (x_4 + 1))] [1, 2, 3, 4, 0] rfl ?_
      exact hih3 (x_1, x_2, x_3, x_4 + 1) _
    rintro ⟨x_1, x_2, x_3, x_4⟩ M
    refine s_iload X dX11_find_3 4 rfl ?_
    refine s_aload_n X dX11_find_5 0 rfl ?_
    refine s_gi X (C := RX11) (T := TX11) (N := 32) rfl (by decide) hiX11 hl100 dX11_find_6 (fun x1 => ?_)
    refine s_icmp_ge X 64 dX11_find_9 (by decide) (fun h2 => ?_) (fun h2 => ?_)
    · refine s_iconst X (-1) dX11_find_64 (by decide) ?_
      exact s_ret X hr dX11_find_65
    · refine s_aload_n X dX11_find_12 0 rfl ?_
      refine s_ga X (C := RX11) (T := TX11) (N := 32) rfl (by decide) hiX11 hl13 dX11_find_13 (fun r3 => ?_)
      refine s_iconst X 3 dX11_find_16 (by decide) ?_
      refine s_iload X dX11_find_17 4 rfl ?_
      refine s_imul X dX11_find_19 ?_
      refine s_li X dX11_find_20 (fun x4 => ?_)
      refine s_iload_n X dX11_find_21 1 rfl ?_
      refine s_icmp_ne X 58 dX11_find_22 (by decide) (fun h5 => ?_) (fun h5 => ?_)
      · exact J58 x_1 x_2 x_3 x_4 _
      · refine s_aload_n X dX11_find_25 0 rfl ?_
        refine s_ga X (C := RX11) (T := TX11) (N := 32) rfl (by decide) hiX11 hl13 dX11_find_26 (fun r6 => ?_)
        refine s_iconst X 3 dX11_find_29 (by decide) ?_
        refine s_iload X dX11_find_30 4 rfl ?_
        refine s_imul X dX11_find_32 ?_
        refine s_iconst X 1 dX11_find_33 (by decide) ?_
        refine s_iadd X dX11_find_34 ?_
        refine s_li X dX11_find_35 (fun x7 => ?_)
        refine s_iload_n X dX11_find_36 2 rfl ?_
        refine s_icmp_ne X 58 dX11_find_37 (by decide) (fun h8 => ?_) (fun h8 => ?_)
        · exact J58 x_1 x_2 x_3 x_4 _
        · refine s_aload_n X dX11_find_40 0 rfl ?_
          refine s_ga X (C := RX11) (T := TX11) (N := 32) rfl (by decide) hiX11 hl13 dX11_find_41 (fun r9 => ?_)
          refine s_iconst X 3 dX11_find_44 (by decide) ?_
          refine s_iload X dX11_find_45 4 rfl ?_
          refine s_imul X dX11_find_47 ?_
          refine s_iconst X 2 dX11_find_48 (by decide) ?_
          refine s_iadd X dX11_find_49 ?_
          refine s_li X dX11_find_50 (fun x10 => ?_)
          refine s_iload_n X dX11_find_51 3 rfl ?_
          refine s_icmp_ne X 58 dX11_find_52 (by decide) (fun h11 => ?_) (fun h11 => ?_)
          · exact J58 x_1 x_2 x_3 x_4 _
          · refine s_iload X dX11_find_55 4 rfl ?_
            exact s_ret X hr dX11_find_57
  refine s_iconst X 0 dX11_find_0 (by decide) ?_
  refine s_istore X dX11_find_1 (by decide) [(4, zi (0)), (0, za ((some a0))), (1, zi p0), (2, zi p1), (3, zi p2)] rfl ?_
  refine s_lv [(0, za ((some a0))), (1, zi p0), (2, zi p1), (3, zi p2), (4, zi (0))] [1, 2, 3, 4, 0] rfl ?_
  exact L3 z_N (p0, p1, p2, 0) _
theorem hy_X11_isLabel : yX11_isLabel.cls ≠ "java/lang/invoke/MethodHandle" ∧ yX11_isLabel.cls ≠ "java/lang/invoke/VarHandle" ∧ (parseMethodDescriptor yX11_isLabel.desc).map (fun d => d.parameters.length) = some 1 := by decide +kernel
set_option maxHeartbeats 4000000 in
set_option maxRecDepth 100000 in
theorem c_X11_isLabel (l : Launch) (E : zE) (p0 : Int32) : z_Met l E yX11_isLabel wsX11_isLabel 0 0 [zi p0] z_ri (F_X11_isLabel p0) := by
  refine z_of (own := RX11) (cc := cX11_isLabel) (maxL := 1) (rt := (some .boolean)) rfl (by decide) rfl (Nat.le_of_ble_eq_true rfl) ?_
  intro p e R s0 m args below meth c M0 fin X hr hnm
  have J15 : ∀ (s_0 : Int32) (M : zM), z_S p l e R s0 m args below meth c (z_Qm E below args s0 M0 z_ri fin) E 1 M0 fin M 15 [] [zi s_0] (F_X11_isLabel_15 s_0) := by
    intro s_0 M
    exact s_retb X hr dX11_isLabel_15
  have J14 : ∀ (M : zM), z_S p l e R s0 m args below meth c (z_Qm E below args s0 M0 z_ri fin) E 1 M0 fin M 14 [] [] (F_X11_isLabel_14) := by
    intro M
    refine s_iconst X 0 dX11_isLabel_14 (by decide) ?_
    exact J15 0 _
  refine s_iload_n X dX11_isLabel_0 0 rfl ?_
  refine s_if_lt X 14 dX11_isLabel_1 (by decide) (fun h1 => ?_) (fun h1 => ?_)
  · refine s_lv [] [] rfl ?_
    exact J14 _
  · refine s_iload_n X dX11_isLabel_4 0 rfl ?_
    refine s_bipush X 8 dX11_isLabel_5 (by decide) ?_
    refine s_icmp_ge X 14 dX11_isLabel_7 (by decide) (fun h2 => ?_) (fun h2 => ?_)
    · refine s_lv [] [] rfl ?_
      exact J14 _
    · refine s_iconst X 1 dX11_isLabel_10 (by decide) ?_
      refine s_goto X 15 dX11_isLabel_11 (by decide) ?_
      refine s_lv [] [] rfl ?_
      exact J15 1 _
theorem hy_X11_isNode : yX11_isNode.cls ≠ "java/lang/invoke/MethodHandle" ∧ yX11_isNode.cls ≠ "java/lang/invoke/VarHandle" ∧ (parseMethodDescriptor yX11_isNode.desc).map (fun d => d.parameters.length) = some 1 := by decide +kernel
set_option maxHeartbeats 4000000 in
set_option maxRecDepth 100000 in
theorem c_X11_isNode (l : Launch) (E : zE) (p0 : Int32) : z_Met l E yX11_isNode wsX11_isNode 0 0 [zi p0] z_ri (F_X11_isNode p0) := by
  refine z_of (own := RX11) (cc := cX11_isNode) (maxL := 1) (rt := (some .boolean)) rfl (by decide) rfl (Nat.le_of_ble_eq_true rfl) ?_
  intro p e R s0 m args below meth c M0 fin X hr hnm
  have J15 : ∀ (s_0 : Int32) (M : zM), z_S p l e R s0 m args below meth c (z_Qm E below args s0 M0 z_ri fin) E 1 M0 fin M 15 [] [zi s_0] (F_X11_isNode_15 s_0) := by
    intro s_0 M
    exact s_retb X hr dX11_isNode_15
  have J14 : ∀ (M : zM), z_S p l e R s0 m args below meth c (z_Qm E below args s0 M0 z_ri fin) E 1 M0 fin M 14 [] [] (F_X11_isNode_14) := by
    intro M
    refine s_iconst X 0 dX11_isNode_14 (by decide) ?_
    exact J15 0 _
  refine s_iload_n X dX11_isNode_0 0 rfl ?_
  refine s_if_lt X 14 dX11_isNode_1 (by decide) (fun h1 => ?_) (fun h1 => ?_)
  · refine s_lv [] [] rfl ?_
    exact J14 _
  · refine s_iload_n X dX11_isNode_4 0 rfl ?_
    refine s_bipush X 16 dX11_isNode_5 (by decide) ?_
    refine s_icmp_ge X 14 dX11_isNode_7 (by decide) (fun h2 => ?_) (fun h2 => ?_)
    · refine s_lv [] [] rfl ?_
      exact J14 _
    · refine s_iconst X 1 dX11_isNode_10 (by decide) ?_
      refine s_goto X 15 dX11_isNode_11 (by decide) ?_
      refine s_lv [] [] rfl ?_
      exact J15 1 _
theorem hy_X11_many : yX11_many.cls = RX11 ∧ yX11_many.cls ≠ "java/lang/invoke/MethodHandle" ∧ yX11_many.cls ≠ "java/lang/invoke/VarHandle" ∧ (parseMethodDescriptor yX11_many.desc).map (fun d => d.parameters.length) = some 2 := by decide +kernel
set_option maxHeartbeats 4000000 in
set_option maxRecDepth 100000 in
theorem c_X11_many (l : Launch) (E : zE) (a0 : Nat) (p0 : Int32) (p1 : Int32) : z_Met l E yX11_many wsX11_many 0 0 [za ((some a0)), zi p0, zi p1] z_ri (F_X11_many a0 p0 p1) := by
  refine z_of (own := RX11) (cc := cX11_many) (maxL := 5) (rt := (some .int)) rfl (by decide) rfl (Nat.le_of_ble_eq_true rfl) ?_
  intro p e R s0 m args below meth c M0 fin X hr hnm
  have hiX11 : ∀ w ∈ u_ws RX11 TX11 32, w ∈ wsX11_many := by decide +kernel
  have hl100 : Cond.fieldLink RX11 100 (TX11 1).1 (TX11 1).2.1 (TX11 1).2.2.1 ∈ wsX11_many := by decide +kernel
  have hl13 : Cond.fieldLink RX11 13 (TX11 0).1 (TX11 0).2.1 (TX11 0).2.2.1 ∈ wsX11_many := by decide +kernel
  have L5 : ∀ (n : Nat) (s : Int32 × Int32 × Int32 × Int32) (M : zM), z_S p l e R s0 m args below meth c (z_Qm E below args s0 M0 z_ri fin) E 5 M0 fin M 5 [(0, za (some a0)), (1, zi s.1), (2, zi s.2.1), (3, zi s.2.2.1), (4, zi s.2.2.2)] [] (F_X11_many_5 a0 n s) := by
    refine s_fix ?_
    intro ih5_ hih5
    have J35 : ∀ (x_1 : Int32) (x_2 : Int32) (x_4 : Int32) (s_0 : Int32) (s_1 : Int32) (M : zM), z_S p l e R s0 m args below meth c (z_Qm E below args s0 M0 z_ri fin) E 5 M0 fin M 35 [(0, za ((some a0))), (1, zi x_1), (2, zi x_2), (4, zi x_4)] [zi s_1, zi s_0] (F_X11_many_35 a0 (fun y0 y1 y2 y3 => ih5_ (y0, y1, y2, y3)) x_1 x_2 x_4 s_0 s_1) := by
      intro x_1 x_2 x_4 s_0 s_1 M
      refine s_iadd X dX11_many_35 ?_
      refine s_let (fun x6 => ?_)
      refine s_istore_n X dX11_many_36 (by decide) [(3, zi x6), (0, za ((some a0))), (1, zi x_1), (2, zi x_2), (4, zi x_4)] rfl ?_
      refine s_iinc X 1 dX11_many_37 4 rfl (by decide) (by decide) [(4, zi (x_4 + 1)), (3, zi x6), (0, za ((some a0))), (1, zi x_1), (2, zi x_2)] rfl ?_
      refine s_goto X 5 dX11_many_40 (by decide) ?_
      refine s_lv [(0, za ((some a0))), (1, zi x_1), (2, zi x_2), (3, zi x6), (4, zi (x_4 + 1))] [2, 3, 4, 1, 0] rfl ?_
      exact hih5 (x_1, x_2, x6, x_4 + 1) _
    rintro ⟨x_1, x_2, x_3, x_4⟩ M
    refine s_iload X dX11_many_5 4 rfl ?_
    refine s_aload_n X dX11_many_7 0 rfl ?_
    refine s_gi X (C := RX11) (T := TX11) (N := 32) rfl (by decide) hiX11 hl100 dX11_many_8 (fun x1 => ?_)
    refine s_icmp_ge X 43 dX11_many_11 (by decide) (fun h2 => ?_) (fun h2 => ?_)
    · refine s_iload_n X dX11_many_43 3 rfl ?_
      exact s_ret X hr dX11_many_44
    · refine s_iload_n X dX11_many_14 3 rfl ?_
      refine s_aload_n X dX11_many_15 0 rfl ?_
      refine s_ga X (C := RX11) (T := TX11) (N := 32) rfl (by decide) hiX11 hl13 dX11_many_16 (fun r3 => ?_)
      refine s_iconst X 3 dX11_many_19 (by decide) ?_
      refine s_iload X dX11_many_20 4 rfl ?_
      refine s_imul X dX11_many_22 ?_
      refine s_iload_n X dX11_many_23 2 rfl ?_
      refine s_iadd X dX11_many_24 ?_
      refine s_li X dX11_many_25 (fun x4 => ?_)
      refine s_iload_n X dX11_many_26 1 rfl ?_
      refine s_icmp_ne X 34 dX11_many_27 (by decide) (fun h5 => ?_) (fun h5 => ?_)
      · refine s_iconst X 0 dX11_many_34 (by decide) ?_
        refine s_lv [(0, za ((some a0))), (1, zi x_1), (2, zi x_2), (4, zi x_4)] [0, 1, 2, 4] rfl ?_
        exact J35 x_1 x_2 x_4 x_3 0 _
      · refine s_iconst X 1 dX11_many_30 (by decide) ?_
        refine s_goto X 35 dX11_many_31 (by decide) ?_
        refine s_lv [(0, za ((some a0))), (1, zi x_1), (2, zi x_2), (4, zi x_4)] [0, 1, 2, 4] rfl ?_
        exact J35 x_1 x_2 x_4 x_3 1 _
  refine s_iconst X 0 dX11_many_0 (by decide) ?_
  refine s_istore_n X dX11_many_1 (by decide) [(3, zi (0)), (0, za ((some a0))), (1, zi p0), (2, zi p1)] rfl ?_
  refine s_iconst X 0 dX11_many_2 (by decide) ?_
  refine s_istore X dX11_many_3 (by decide) [(4, zi (0)), (3, zi (0)), (0, za ((some a0))), (1, zi p0), (2, zi p1)] rfl ?_
  refine s_lv [(0, za ((some a0))), (1, zi p0), (2, zi p1), (3, zi (0)), (4, zi (0))] [2, 3, 4, 1, 0] rfl ?_
  exact L5 z_N (p0, p1, 0, 0) _
theorem hy_X11_arc : yX11_arc.cls = RX11 ∧ yX11_arc.cls ≠ "java/lang/invoke/MethodHandle" ∧ yX11_arc.cls ≠ "java/lang/invoke/VarHandle" ∧ (parseMethodDescriptor yX11_arc.desc).map (fun d => d.parameters.length) = some 4 := by decide +kernel
set_option maxHeartbeats 4000000 in
set_option maxRecDepth 100000 in
theorem c_X11_arc (l : Launch) (E : zE) (a0 : Nat) (p0 : Int32) (p1 : Int32) (p2 : Int32) (p3 : Int32) : z_Met l E yX11_arc wsX11_arc 1 24 [za ((some a0)), zi p0, zi p1, zi p2, zi p3] z_ri (F_X11_arc a0 p0 p1 p2 p3) := by
  refine z_of (own := RX11) (cc := cX11_arc) (maxL := 7) (rt := (some .int)) rfl (by decide) rfl (Nat.le_of_ble_eq_true rfl) ?_
  intro p e R s0 m args below meth c M0 fin X hr hnm
  have hiX11 : ∀ w ∈ u_ws RX11 TX11 32, w ∈ wsX11_arc := by decide +kernel
  have hl1 : Cond.fieldLink RX11 1 (TX11 22).1 (TX11 22).2.1 (TX11 22).2.2.1 ∈ wsX11_arc := by decide +kernel
  have hl100 : Cond.fieldLink RX11 100 (TX11 1).1 (TX11 1).2.1 (TX11 1).2.2.1 ∈ wsX11_arc := by decide +kernel
  have hl13 : Cond.fieldLink RX11 13 (TX11 0).1 (TX11 0).2.1 (TX11 0).2.2.1 ∈ wsX11_arc := by decide +kernel
  have hl118 : Cond.fieldLink RX11 118 (TX11 12).1 (TX11 12).2.1 (TX11 12).2.2.1 ∈ wsX11_arc := by decide +kernel
  have J195 : ∀ (M : zM), z_S p l e R s0 m args below meth c (z_Qm E below args s0 M0 z_ri fin) E 7 M0 fin M 195 [(0, za ((some a0)))] [] (F_X11_arc_195 a0) := by
    intro M
    refine s_aload_n X dX11_arc_195 0 rfl ?_
    refine s_iconst X 0 dX11_arc_196 (by decide) ?_
    refine s_pf (x := zi (0)) X (C := RX11) (T := TX11) (N := 32) rfl (by decide) hiX11 tyX11 tyX11_ok nmX11 hl118 (Or.inl rfl) rfl (fun E => ⟨rfl, rfl⟩) dX11_arc_197 (fun M => ?_)
    refine s_iconst X 1 dX11_arc_200 (by decide) ?_
    exact s_ret X hr dX11_arc_201
  have L157 : ∀ (n : Nat) (s : Int32 × Int32) (M : zM), z_S p l e R s0 m args below meth c (z_Qm E below args s0 M0 z_ri fin) E 7 M0 fin M 157 [(0, za (some a0)), (5, zi s.1), (6, zi s.2)] [] (F_X11_arc_157 a0 n s) := by
    refine s_fix ?_
    intro ih157_ hih157
    rintro ⟨x_5, x_6⟩ M
    refine s_iload X dX11_arc_157 2 rfl ?_
    refine s_iconst X 3 dX11_arc_159 (by decide) ?_
    refine s_icmp_ge X 195 dX11_arc_160 (by decide) (fun h28 => ?_) (fun h28 => ?_)
    · refine s_lv [(0, za ((some a0)))] [0] rfl ?_
      exact J195 _
    · refine s_aload_n X dX11_arc_163 0 rfl ?_
      refine s_ga X (C := RX11) (T := TX11) (N := 32) rfl (by decide) hiX11 hl13 dX11_arc_164 (fun r29 => ?_)
      refine s_iconst X 3 dX11_arc_167 (by decide) ?_
      refine s_iload X dX11_arc_168 1 rfl ?_
      refine s_imul X dX11_arc_170 ?_
      refine s_iload X dX11_arc_171 2 rfl ?_
      refine s_iadd X dX11_arc_173 ?_
      refine s_aload_n X dX11_arc_174 0 rfl ?_
      refine s_ga X (C := RX11) (T := TX11) (N := 32) rfl (by decide) hiX11 hl13 dX11_arc_175 (fun r30 => ?_)
      refine s_iconst X 3 dX11_arc_178 (by decide) ?_
      refine s_aload_n X dX11_arc_179 0 rfl ?_
      refine s_gi X (C := RX11) (T := TX11) (N := 32) rfl (by decide) hiX11 hl100 dX11_arc_180 (fun x31 => ?_)
      refine s_imul X dX11_arc_183 ?_
      refine s_iload X dX11_arc_184 2 rfl ?_
      refine s_iadd X dX11_arc_186 ?_
      refine s_li X dX11_arc_187 (fun x32 => ?_)
      refine s_si X dX11_arc_188 (fun M => ?_)
      refine s_iinc X 1 dX11_arc_189 2 rfl (by decide) (by decide) [(6, zi (x_6 + 1)), (0, za ((some a0))), (5, zi x_5)] rfl ?_
      refine s_goto X 157 dX11_arc_192 (by decide) ?_
      refine s_lv [(0, za ((some a0))), (5, zi x_5), (6, zi (x_6 + 1))] [1, 2, 0] rfl ?_
      exact hih157 (x_5, x_6 + 1) _
  have J88 : ∀ (M : zM), z_S p l e R s0 m args below meth c (z_Qm E below args s0 M0 z_ri fin) E 7 M0 fin M 88 [] [] (F_X11_arc_88 a0) := by
    intro M
    refine s_bipush X (-2) dX11_arc_88 (by decide) ?_
    exact s_ret X hr dX11_arc_90
  have J49 : ∀ (x_1 : Int32) (x_2 : Int32) (x_3 : Int32) (x_4 : Int32) (x_5 : Int32) (s_0 : Int32) (s_1 : Int32) (M : zM), z_S p l e R s0 m args below meth c (z_Qm E below args s0 M0 z_ri fin) E 7 M0 fin M 49 [(0, za ((some a0))), (1, zi x_1), (2, zi x_2), (3, zi x_3), (4, zi x_4), (5, zi x_5)] [zi s_1, zi s_0] (F_X11_arc_49 a0 x_1 x_2 x_3 x_4 x_5 s_0 s_1) := by
    intro x_1 x_2 x_3 x_4 x_5 s_0 s_1 M
    refine s_icmp_ne X 54 dX11_arc_49 (by decide) (fun h10 => ?_) (fun h10 => ?_)
    · refine s_iload X dX11_arc_54 4 rfl ?_
      refine s_if_eq X 144 dX11_arc_56 (by decide) (fun h11 => ?_) (fun h11 => ?_)
      · refine s_aload_n X dX11_arc_144 0 rfl ?_
        refine s_dup X dX11_arc_145 rfl ?_
        refine s_gi X (C := RX11) (T := TX11) (N := 32) rfl (by decide) hiX11 hl100 dX11_arc_146 (fun x12 => ?_)
        refine s_iconst X 1 dX11_arc_149 (by decide) ?_
        refine s_isub X dX11_arc_150 ?_
        refine s_pf (x := zi (x12 - 1)) X (C := RX11) (T := TX11) (N := 32) rfl (by decide) hiX11 tyX11 tyX11_ok nmX11 hl100 (Or.inl rfl) rfl (fun E => ⟨rfl, rfl⟩) dX11_arc_151 (fun M => ?_)
        refine s_iconst X 0 dX11_arc_154 (by decide) ?_
        refine s_istore X dX11_arc_155 (by decide) [(6, zi (0)), (0, za ((some a0))), (1, zi x_1), (2, zi x_2), (3, zi x_3), (4, zi x_4), (5, zi x_5)] rfl ?_
        refine s_lv [(0, za ((some a0))), (5, zi x_5), (6, zi (0))] [1, 6, 0] rfl ?_
        exact L157 z_N (x_5, 0) _
      · refine s_aload_n X dX11_arc_59 0 rfl ?_
        refine s_gi X (C := RX11) (T := TX11) (N := 32) rfl (by decide) hiX11 hl100 dX11_arc_60 (fun x13 => ?_)
        refine s_bipush X 60 dX11_arc_63 (by decide) ?_
        refine s_icmp_eq X 88 dX11_arc_65 (by decide) (fun h14 => ?_) (fun h14 => ?_)
        · refine s_lv [] [] rfl ?_
          exact J88 _
        · refine s_aload_n X dX11_arc_68 0 rfl ?_
          refine s_iload_n X dX11_arc_69 1 rfl ?_
          refine s_iconst X 0 dX11_arc_70 (by decide) ?_
          refine s_callV (ci := 11) (C := RX11) (As := [zi x_1, zi (0)]) (st := []) X (fun a => c_X11_many l E a x_1 0) gX11_arc_X11_many rfl hy_X11_many rfl rfl rfl rfl (Nat.le_of_ble_eq_true rfl) (by decide) dX11_arc_71 (fun x15 M => ?_)
          refine s_iconst X 4 dX11_arc_74 (by decide) ?_
          refine s_icmp_eq X 88 dX11_arc_75 (by decide) (fun h17 => ?_) (fun h17 => ?_)
          · refine s_lv [] [] rfl ?_
            exact J88 _
          · refine s_aload_n X dX11_arc_78 0 rfl ?_
            refine s_iload_n X dX11_arc_79 3 rfl ?_
            refine s_iconst X 2 dX11_arc_80 (by decide) ?_
            refine s_callV (ci := 11) (C := RX11) (As := [zi x_3, zi (2)]) (st := []) X (fun a => c_X11_many l E a x_3 2) gX11_arc_X11_many rfl hy_X11_many rfl rfl rfl rfl (Nat.le_of_ble_eq_true rfl) (by decide) dX11_arc_81 (fun x18 M => ?_)
            refine s_iconst X 4 dX11_arc_84 (by decide) ?_
            refine s_icmp_ne X 91 dX11_arc_85 (by decide) (fun h20 => ?_) (fun h20 => ?_)
            · refine s_aload_n X dX11_arc_91 0 rfl ?_
              refine s_ga X (C := RX11) (T := TX11) (N := 32) rfl (by decide) hiX11 hl13 dX11_arc_92 (fun r21 => ?_)
              refine s_iconst X 3 dX11_arc_95 (by decide) ?_
              refine s_aload_n X dX11_arc_96 0 rfl ?_
              refine s_gi X (C := RX11) (T := TX11) (N := 32) rfl (by decide) hiX11 hl100 dX11_arc_97 (fun x22 => ?_)
              refine s_imul X dX11_arc_100 ?_
              refine s_iload_n X dX11_arc_101 1 rfl ?_
              refine s_si X dX11_arc_102 (fun M => ?_)
              refine s_aload_n X dX11_arc_103 0 rfl ?_
              refine s_ga X (C := RX11) (T := TX11) (N := 32) rfl (by decide) hiX11 hl13 dX11_arc_104 (fun r23 => ?_)
              refine s_iconst X 3 dX11_arc_107 (by decide) ?_
              refine s_aload_n X dX11_arc_108 0 rfl ?_
              refine s_gi X (C := RX11) (T := TX11) (N := 32) rfl (by decide) hiX11 hl100 dX11_arc_109 (fun x24 => ?_)
              refine s_imul X dX11_arc_112 ?_
              refine s_iconst X 1 dX11_arc_113 (by decide) ?_
              refine s_iadd X dX11_arc_114 ?_
              refine s_iload_n X dX11_arc_115 2 rfl ?_
              refine s_si X dX11_arc_116 (fun M => ?_)
              refine s_aload_n X dX11_arc_117 0 rfl ?_
              refine s_ga X (C := RX11) (T := TX11) (N := 32) rfl (by decide) hiX11 hl13 dX11_arc_118 (fun r25 => ?_)
              refine s_iconst X 3 dX11_arc_121 (by decide) ?_
              refine s_aload_n X dX11_arc_122 0 rfl ?_
              refine s_gi X (C := RX11) (T := TX11) (N := 32) rfl (by decide) hiX11 hl100 dX11_arc_123 (fun x26 => ?_)
              refine s_imul X dX11_arc_126 ?_
              refine s_iconst X 2 dX11_arc_127 (by decide) ?_
              refine s_iadd X dX11_arc_128 ?_
              refine s_iload_n X dX11_arc_129 3 rfl ?_
              refine s_si X dX11_arc_130 (fun M => ?_)
              refine s_aload_n X dX11_arc_131 0 rfl ?_
              refine s_dup X dX11_arc_132 rfl ?_
              refine s_gi X (C := RX11) (T := TX11) (N := 32) rfl (by decide) hiX11 hl100 dX11_arc_133 (fun x27 => ?_)
              refine s_iconst X 1 dX11_arc_136 (by decide) ?_
              refine s_iadd X dX11_arc_137 ?_
              refine s_pf (x := zi (x27 + 1)) X (C := RX11) (T := TX11) (N := 32) rfl (by decide) hiX11 tyX11 tyX11_ok nmX11 hl100 (Or.inl rfl) rfl (fun E => ⟨rfl, rfl⟩) dX11_arc_138 (fun M => ?_)
              refine s_goto X 195 dX11_arc_141 (by decide) ?_
              refine s_lv [(0, za ((some a0)))] [0] rfl ?_
              exact J195 _
            · refine s_lv [] [] rfl ?_
              exact J88 _
    · refine s_iconst X 0 dX11_arc_52 (by decide) ?_
      exact s_ret X hr dX11_arc_53
  have J26 : ∀ (M : zM), z_S p l e R s0 m args below meth c (z_Qm E below args s0 M0 z_ri fin) E 7 M0 fin M 26 [] [] (F_X11_arc_26 a0) := by
    intro M
    refine s_iconst X (-1) dX11_arc_26 (by decide) ?_
    exact s_ret X hr dX11_arc_27
  refine s_aload_n X dX11_arc_0 0 rfl ?_
  refine s_iconst X 0 dX11_arc_1 (by decide) ?_
  refine s_pf (x := zi (0)) X (C := RX11) (T := TX11) (N := 32) rfl (by decide) hiX11 tyX11 tyX11_ok nmX11 hl1 (Or.inl rfl) rfl (fun E => ⟨rfl, rfl⟩) dX11_arc_2 (fun M => ?_)
  refine s_iload_n X dX11_arc_5 1 rfl ?_
  refine s_callS (As := [zi p0]) (st := []) X (c_X11_isNode l E p0) gX11_arc_X11_isNode rfl hy_X11_isNode rfl rfl (Nat.le_of_ble_eq_true rfl) (by decide) dX11_arc_6 (fun x1 M => ?_)
  refine s_if_eq X 26 dX11_arc_9 (by decide) (fun h2 => ?_) (fun h2 => ?_)
  · refine s_lv [] [] rfl ?_
    exact J26 _
  · refine s_iload_n X dX11_arc_12 2 rfl ?_
    refine s_callS (As := [zi p1]) (st := []) X (c_X11_isLabel l E p1) gX11_arc_X11_isLabel rfl hy_X11_isLabel rfl rfl (Nat.le_of_ble_eq_true rfl) (by decide) dX11_arc_13 (fun x3 M => ?_)
    refine s_if_eq X 26 dX11_arc_16 (by decide) (fun h4 => ?_) (fun h4 => ?_)
    · refine s_lv [] [] rfl ?_
      exact J26 _
    · refine s_iload_n X dX11_arc_19 3 rfl ?_
      refine s_callS (As := [zi p2]) (st := []) X (c_X11_isNode l E p2) gX11_arc_X11_isNode rfl hy_X11_isNode rfl rfl (Nat.le_of_ble_eq_true rfl) (by decide) dX11_arc_20 (fun x5 M => ?_)
      refine s_if_ne X 28 dX11_arc_23 (by decide) (fun h6 => ?_) (fun h6 => ?_)
      · refine s_aload_n X dX11_arc_28 0 rfl ?_
        refine s_iload_n X dX11_arc_29 1 rfl ?_
        refine s_iload_n X dX11_arc_30 2 rfl ?_
        refine s_iload_n X dX11_arc_31 3 rfl ?_
        refine s_callV (ci := 11) (C := RX11) (As := [zi p0, zi p1, zi p2]) (st := []) X (fun a => c_X11_find l E a p0 p1 p2) gX11_arc_X11_find rfl hy_X11_find rfl rfl rfl rfl (Nat.le_of_ble_eq_true rfl) (by decide) dX11_arc_32 (fun x7 M => ?_)
        refine s_istore X dX11_arc_35 (by decide) [(5, zi x7), (0, za ((some a0))), (1, zi p0), (2, zi p1), (3, zi p2), (4, zi p3)] rfl ?_
        refine s_iload X dX11_arc_37 5 rfl ?_
        refine s_iload X dX11_arc_39 0 rfl ?_
        refine s_if_lt X 48 dX11_arc_41 (by decide) (fun h9 => ?_) (fun h9 => ?_)
        · refine s_iconst X 0 dX11_arc_48 (by decide) ?_
          refine s_lv [(0, za ((some a0))), (1, zi p0), (2, zi p1), (3, zi p2), (4, zi p3), (5, zi x7)] [1, 2, 3, 4, 5, 0] rfl ?_
          exact J49 p0 p1 p2 p3 x7 p3 0 _
        · refine s_iconst X 1 dX11_arc_44 (by decide) ?_
          refine s_goto X 49 dX11_arc_45 (by decide) ?_
          refine s_lv [(0, za ((some a0))), (1, zi p0), (2, zi p1), (3, zi p2), (4, zi p3), (5, zi x7)] [1, 2, 3, 4, 5, 0] rfl ?_
          exact J49 p0 p1 p2 p3 x7 p3 1 _
      · refine s_lv [] [] rfl ?_
        exact J26 _
theorem hy_X11_arcs : yX11_arcs.cls = RX11 ∧ yX11_arcs.cls ≠ "java/lang/invoke/MethodHandle" ∧ yX11_arcs.cls ≠ "java/lang/invoke/VarHandle" ∧ (parseMethodDescriptor yX11_arcs.desc).map (fun d => d.parameters.length) = some 0 := by decide +kernel
set_option maxHeartbeats 4000000 in
set_option maxRecDepth 100000 in
theorem c_X11_arcs (l : Launch) (E : zE) (a0 : Nat) : z_Met l E yX11_arcs wsX11_arcs 0 0 [za ((some a0))] z_ri (F_X11_arcs a0) := by
  refine z_of (own := RX11) (cc := cX11_arcs) (maxL := 1) (rt := (some .int)) rfl (by decide) rfl (Nat.le_of_ble_eq_true rfl) ?_
  intro p e R s0 m args below meth c M0 fin X hr hnm
  have hiX11 : ∀ w ∈ u_ws RX11 TX11 32, w ∈ wsX11_arcs := by decide +kernel
  have hl1 : Cond.fieldLink RX11 1 (TX11 22).1 (TX11 22).2.1 (TX11 22).2.2.1 ∈ wsX11_arcs := by decide +kernel
  have hl100 : Cond.fieldLink RX11 100 (TX11 1).1 (TX11 1).2.1 (TX11 1).2.2.1 ∈ wsX11_arcs := by decide +kernel
  refine s_aload_n X dX11_arcs_0 0 rfl ?_
  refine s_iconst X 0 dX11_arcs_1 (by decide) ?_
  refine s_pf (x := zi (0)) X (C := RX11) (T := TX11) (N := 32) rfl (by decide) hiX11 tyX11 tyX11_ok nmX11 hl1 (Or.inl rfl) rfl (fun E => ⟨rfl, rfl⟩) dX11_arcs_2 (fun M => ?_)
  refine s_aload_n X dX11_arcs_5 0 rfl ?_
  refine s_gi X (C := RX11) (T := TX11) (N := 32) rfl (by decide) hiX11 hl100 dX11_arcs_6 (fun x1 => ?_)
  exact s_ret X hr dX11_arcs_9
