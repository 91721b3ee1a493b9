theorem hy_X11_isExpression : yX11_isExpression.cls = RX11 ∧ yX11_isExpression.cls ≠ "java/lang/invoke/MethodHandle" ∧ yX11_isExpression.cls ≠ "java/lang/invoke/VarHandle" ∧ (parseMethodDescriptor yX11_isExpression.desc).map (fun d => d.parameters.length) = some 1 := by decide +kernel
set_option maxHeartbeats 4000000 in
set_option maxRecDepth 100000 in
theorem c_X11_isExpression (l : Launch) (E : zE) (a0 : Nat) (p0 : Int32) : z_Met l E yX11_isExpression wsX11_isExpression 0 0 [za ((some a0)), zi p0] z_ri (F_X11_isExpression a0 p0) := by
  refine z_of (own := RX11) (cc := cX11_isExpression) (maxL := 2) (rt := (some .boolean)) rfl (by decide) rfl (Nat.le_of_ble_eq_true rfl) ?_
  intro p e R s0 m args below meth c M0 fin X hr hnm
  have hiX11 : ∀ w ∈ u_ws RX11 TX11 32, w ∈ wsX11_isExpression := by decide +kernel
  have hl97 : Cond.fieldLink RX11 97 (TX11 6).1 (TX11 6).2.1 (TX11 6).2.2.1 ∈ wsX11_isExpression := by decide +kernel
  have J17 : ∀ (s_0 : Int32) (M : zM), z_S p l e R s0 m args below meth c (z_Qm E below args s0 M0 z_ri fin) E 2 M0 fin M 17 [] [zi s_0] (F_X11_isExpression_17 a0 s_0) := by
    intro s_0 M
    exact s_retb X hr dX11_isExpression_17
  have J16 : ∀ (M : zM), z_S p l e R s0 m args below meth c (z_Qm E below args s0 M0 z_ri fin) E 2 M0 fin M 16 [] [] (F_X11_isExpression_16 a0) := by
    intro M
    refine s_iconst X 0 dX11_isExpression_16 (by decide) ?_
    exact J17 0 _
  refine s_iload_n X dX11_isExpression_0 1 rfl ?_
  refine s_if_lt X 16 dX11_isExpression_1 (by decide) (fun h1 => ?_) (fun h1 => ?_)
  · refine s_lv [] [] rfl ?_
    exact J16 _
  · refine s_iload_n X dX11_isExpression_4 1 rfl ?_
    refine s_aload_n X dX11_isExpression_5 0 rfl ?_
    refine s_gi X (C := RX11) (T := TX11) (N := 32) rfl (by decide) hiX11 hl97 dX11_isExpression_6 (fun x2 => ?_)
    refine s_icmp_ge X 16 dX11_isExpression_9 (by decide) (fun h3 => ?_) (fun h3 => ?_)
    · refine s_lv [] [] rfl ?_
      exact J16 _
    · refine s_iconst X 1 dX11_isExpression_12 (by decide) ?_
      refine s_goto X 17 dX11_isExpression_13 (by decide) ?_
      refine s_lv [] [] rfl ?_
      exact J17 1 _
theorem hy_X11_isShape : yX11_isShape.cls ≠ "java/lang/invoke/MethodHandle" ∧ yX11_isShape.cls ≠ "java/lang/invoke/VarHandle" ∧ (parseMethodDescriptor yX11_isShape.desc).map (fun d => d.parameters.length) = some 1 := by decide +kernel
set_option maxHeartbeats 4000000 in
set_option maxRecDepth 100000 in
theorem c_X11_isShape (l : Launch) (E : zE) (p0 : Int32) : z_Met l E yX11_isShape wsX11_isShape 0 0 [zi p0] z_ri (F_X11_isShape p0) := by
  refine z_of (own := RX11) (cc := cX11_isShape) (maxL := 1) (rt := (some .boolean)) rfl (by decide) rfl (Nat.le_of_ble_eq_true rfl) ?_
  intro p e R s0 m args below meth c M0 fin X hr hnm
  have J15 : ∀ (s_0 : Int32) (M : zM), z_S p l e R s0 m args below meth c (z_Qm E below args s0 M0 z_ri fin) E 1 M0 fin M 15 [] [zi s_0] (F_X11_isShape_15 s_0) := by
    intro s_0 M
    exact s_retb X hr dX11_isShape_15
  have J14 : ∀ (M : zM), z_S p l e R s0 m args below meth c (z_Qm E below args s0 M0 z_ri fin) E 1 M0 fin M 14 [] [] (F_X11_isShape_14) := by
    intro M
    refine s_iconst X 0 dX11_isShape_14 (by decide) ?_
    exact J15 0 _
  refine s_iload_n X dX11_isShape_0 0 rfl ?_
  refine s_if_lt X 14 dX11_isShape_1 (by decide) (fun h1 => ?_) (fun h1 => ?_)
  · refine s_lv [] [] rfl ?_
    exact J14 _
  · refine s_iload_n X dX11_isShape_4 0 rfl ?_
    refine s_bipush X 16 dX11_isShape_5 (by decide) ?_
    refine s_icmp_ge X 14 dX11_isShape_7 (by decide) (fun h2 => ?_) (fun h2 => ?_)
    · refine s_lv [] [] rfl ?_
      exact J14 _
    · refine s_iconst X 1 dX11_isShape_10 (by decide) ?_
      refine s_goto X 15 dX11_isShape_11 (by decide) ?_
      refine s_lv [] [] rfl ?_
      exact J15 1 _
theorem hy_X11_expression : yX11_expression.cls = RX11 ∧ yX11_expression.cls ≠ "java/lang/invoke/MethodHandle" ∧ yX11_expression.cls ≠ "java/lang/invoke/VarHandle" ∧ (parseMethodDescriptor yX11_expression.desc).map (fun d => d.parameters.length) = some 4 := by decide +kernel
set_option maxHeartbeats 4000000 in
set_option maxRecDepth 100000 in
theorem c_X11_expression (l : Launch) (E : zE) (a0 : Nat) (p0 : Int32) (p1 : Int32) (p2 : Int32) (p3 : Int32) : z_Met l E yX11_expression wsX11_expression 1 21 [za ((some a0)), zi p0, zi p1, zi p2, zi p3] z_ri (F_X11_expression a0 p0 p1 p2 p3) := by
  refine z_of (own := RX11) (cc := cX11_expression) (maxL := 6) (rt := (some .int)) rfl (by decide) rfl (Nat.le_of_ble_eq_true rfl) ?_
  intro p e R s0 m args below meth c M0 fin X hr hnm
  have hiX11 : ∀ w ∈ u_ws RX11 TX11 32, w ∈ wsX11_expression := by decide +kernel
  have hl1 : Cond.fieldLink RX11 1 (TX11 22).1 (TX11 22).2.1 (TX11 22).2.2.1 ∈ wsX11_expression := by decide +kernel
  have hl97 : Cond.fieldLink RX11 97 (TX11 6).1 (TX11 6).2.1 (TX11 6).2.2.1 ∈ wsX11_expression := by decide +kernel
  have hl17 : Cond.fieldLink RX11 17 (TX11 2).1 (TX11 2).2.1 (TX11 2).2.2.1 ∈ wsX11_expression := by decide +kernel
  have hl20 : Cond.fieldLink RX11 20 (TX11 3).1 (TX11 3).2.1 (TX11 3).2.2.1 ∈ wsX11_expression := by decide +kernel
  have hl23 : Cond.fieldLink RX11 23 (TX11 4).1 (TX11 4).2.1 (TX11 4).2.2.1 ∈ wsX11_expression := by decide +kernel
  have hl26 : Cond.fieldLink RX11 26 (TX11 5).1 (TX11 5).2.1 (TX11 5).2.2.1 ∈ wsX11_expression := by decide +kernel
  have J135 : ∀ (x_1 : Int32) (x_2 : Int32) (x_3 : Int32) (x_4 : Int32) (x_5 : Int32) (M : zM), z_S p l e R s0 m args below meth c (z_Qm E below args s0 M0 z_ri fin) E 6 M0 fin M 135 [(0, za ((some a0))), (1, zi x_1), (2, zi x_2), (3, zi x_3), (4, zi x_4), (5, zi x_5)] [] (F_X11_expression_135 a0 x_1 x_2 x_3 x_4 x_5) := by
    intro x_1 x_2 x_3 x_4 x_5 M
    refine s_iload X dX11_expression_135 5 rfl ?_
    refine s_if_ne X 142 dX11_expression_137 (by decide) (fun h34 => ?_) (fun h34 => ?_)
    · refine s_aload_n X dX11_expression_142 0 rfl ?_
      refine s_gi X (C := RX11) (T := TX11) (N := 32) rfl (by decide) hiX11 hl97 dX11_expression_143 (fun x35 => ?_)
      refine s_bipush X 60 dX11_expression_146 (by decide) ?_
      refine s_icmp_ne X 154 dX11_expression_148 (by decide) (fun h36 => ?_) (fun h36 => ?_)
      · refine s_aload_n X dX11_expression_154 0 rfl ?_
        refine s_ga X (C := RX11) (T := TX11) (N := 32) rfl (by decide) hiX11 hl17 dX11_expression_155 (fun r37 => ?_)
        refine s_aload_n X dX11_expression_158 0 rfl ?_
        refine s_gi X (C := RX11) (T := TX11) (N := 32) rfl (by decide) hiX11 hl97 dX11_expression_159 (fun x38 => ?_)
        refine s_iload_n X dX11_expression_162 1 rfl ?_
        refine s_si X dX11_expression_163 (fun M => ?_)
        refine s_aload_n X dX11_expression_164 0 rfl ?_
        refine s_ga X (C := RX11) (T := TX11) (N := 32) rfl (by decide) hiX11 hl20 dX11_expression_165 (fun r39 => ?_)
        refine s_aload_n X dX11_expression_168 0 rfl ?_
        refine s_gi X (C := RX11) (T := TX11) (N := 32) rfl (by decide) hiX11 hl97 dX11_expression_169 (fun x40 => ?_)
        refine s_iload_n X dX11_expression_172 2 rfl ?_
        refine s_si X dX11_expression_173 (fun M => ?_)
        refine s_aload_n X dX11_expression_174 0 rfl ?_
        refine s_ga X (C := RX11) (T := TX11) (N := 32) rfl (by decide) hiX11 hl23 dX11_expression_175 (fun r41 => ?_)
        refine s_aload_n X dX11_expression_178 0 rfl ?_
        refine s_gi X (C := RX11) (T := TX11) (N := 32) rfl (by decide) hiX11 hl97 dX11_expression_179 (fun x42 => ?_)
        refine s_iload_n X dX11_expression_182 3 rfl ?_
        refine s_si X dX11_expression_183 (fun M => ?_)
        refine s_aload_n X dX11_expression_184 0 rfl ?_
        refine s_ga X (C := RX11) (T := TX11) (N := 32) rfl (by decide) hiX11 hl26 dX11_expression_185 (fun r43 => ?_)
        refine s_aload_n X dX11_expression_188 0 rfl ?_
        refine s_gi X (C := RX11) (T := TX11) (N := 32) rfl (by decide) hiX11 hl97 dX11_expression_189 (fun x44 => ?_)
        refine s_iload X dX11_expression_192 4 rfl ?_
        refine s_si X dX11_expression_194 (fun M => ?_)
        refine s_aload_n X dX11_expression_195 0 rfl ?_
        refine s_dup X dX11_expression_196 rfl ?_
        refine s_gi X (C := RX11) (T := TX11) (N := 32) rfl (by decide) hiX11 hl97 dX11_expression_197 (fun x45 => ?_)
        refine s_iconst X 1 dX11_expression_200 (by decide) ?_
        refine s_iadd X dX11_expression_201 ?_
        refine s_pf (x := zi (x45 + 1)) X (C := RX11) (T := TX11) (N := 32) rfl (by decide) hiX11 tyX11 tyX11_ok nmX11 hl97 (Or.inl rfl) rfl (fun E => ⟨rfl, rfl⟩) dX11_expression_202 (fun M => ?_)
        refine s_aload_n X dX11_expression_205 0 rfl ?_
        refine s_gi X (C := RX11) (T := TX11) (N := 32) rfl (by decide) hiX11 hl97 dX11_expression_206 (fun x46 => ?_)
        refine s_iconst X 1 dX11_expression_209 (by decide) ?_
        refine s_isub X dX11_expression_210 ?_
        exact s_ret X hr dX11_expression_211
      · refine s_bipush X (-2) dX11_expression_151 (by decide) ?_
        exact s_ret X hr dX11_expression_153
    · refine s_iconst X (-1) dX11_expression_140 (by decide) ?_
      exact s_ret X hr dX11_expression_141
  have J133 : ∀ (x_1 : Int32) (x_2 : Int32) (x_3 : Int32) (x_4 : Int32) (s_0 : Int32) (M : zM), z_S p l e R s0 m args below meth c (z_Qm E below args s0 M0 z_ri fin) E 6 M0 fin M 133 [(0, za ((some a0))), (1, zi x_1), (2, zi x_2), (3, zi x_3), (4, zi x_4)] [zi s_0] (F_X11_expression_133 a0 x_1 x_2 x_3 x_4 s_0) := by
    intro x_1 x_2 x_3 x_4 s_0 M
    refine s_istore X dX11_expression_133 (by decide) [(5, zi s_0), (0, za ((some a0))), (1, zi x_1), (2, zi x_2), (3, zi x_3), (4, zi x_4)] rfl ?_
    refine s_lv [(0, za ((some a0))), (1, zi x_1), (2, zi x_2), (3, zi x_3), (4, zi x_4), (5, zi s_0)] [1, 2, 3, 4, 5, 0] rfl ?_
    exact J135 x_1 x_2 x_3 x_4 s_0 _
  have J118 : ∀ (x_1 : Int32) (x_2 : Int32) (x_3 : Int32) (x_4 : Int32) (s_0 : Int32) (M : zM), z_S p l e R s0 m args below meth c (z_Qm E below args s0 M0 z_ri fin) E 6 M0 fin M 118 [(0, za ((some a0))), (1, zi x_1), (2, zi x_2), (3, zi x_3), (4, zi x_4)] [zi s_0] (F_X11_expression_118 a0 x_1 x_2 x_3 x_4 s_0) := by
    intro x_1 x_2 x_3 x_4 s_0 M
    refine s_istore X dX11_expression_118 (by decide) [(5, zi s_0), (0, za ((some a0))), (1, zi x_1), (2, zi x_2), (3, zi x_3), (4, zi x_4)] rfl ?_
    refine s_goto X 135 dX11_expression_120 (by decide) ?_
    refine s_lv [(0, za ((some a0))), (1, zi x_1), (2, zi x_2), (3, zi x_3), (4, zi x_4), (5, zi s_0)] [1, 2, 3, 4, 5, 0] rfl ?_
    exact J135 x_1 x_2 x_3 x_4 s_0 _
  have J117 : ∀ (x_1 : Int32) (x_2 : Int32) (x_3 : Int32) (x_4 : Int32) (M : zM), z_S p l e R s0 m args below meth c (z_Qm E below args s0 M0 z_ri fin) E 6 M0 fin M 117 [(0, za ((some a0))), (1, zi x_1), (2, zi x_2), (3, zi x_3), (4, zi x_4)] [] (F_X11_expression_117 a0 x_1 x_2 x_3 x_4) := by
    intro x_1 x_2 x_3 x_4 M
    refine s_iconst X 0 dX11_expression_117 (by decide) ?_
    exact J118 x_1 x_2 x_3 x_4 0 _
  have J90 : ∀ (x_1 : Int32) (x_2 : Int32) (x_3 : Int32) (x_4 : Int32) (s_0 : Int32) (M : zM), z_S p l e R s0 m args below meth c (z_Qm E below args s0 M0 z_ri fin) E 6 M0 fin M 90 [(0, za ((some a0))), (1, zi x_1), (2, zi x_2), (3, zi x_3), (4, zi x_4)] [zi s_0] (F_X11_expression_90 a0 x_1 x_2 x_3 x_4 s_0) := by
    intro x_1 x_2 x_3 x_4 s_0 M
    refine s_istore X dX11_expression_90 (by decide) [(5, zi s_0), (0, za ((some a0))), (1, zi x_1), (2, zi x_2), (3, zi x_3), (4, zi x_4)] rfl ?_
    refine s_goto X 135 dX11_expression_92 (by decide) ?_
    refine s_lv [(0, za ((some a0))), (1, zi x_1), (2, zi x_2), (3, zi x_3), (4, zi x_4), (5, zi s_0)] [1, 2, 3, 4, 5, 0] rfl ?_
    exact J135 x_1 x_2 x_3 x_4 s_0 _
  have J89 : ∀ (x_1 : Int32) (x_2 : Int32) (x_3 : Int32) (x_4 : Int32) (M : zM), z_S p l e R s0 m args below meth c (z_Qm E below args s0 M0 z_ri fin) E 6 M0 fin M 89 [(0, za ((some a0))), (1, zi x_1), (2, zi x_2), (3, zi x_3), (4, zi x_4)] [] (F_X11_expression_89 a0 x_1 x_2 x_3 x_4) := by
    intro x_1 x_2 x_3 x_4 M
    refine s_iconst X 0 dX11_expression_89 (by decide) ?_
    exact J90 x_1 x_2 x_3 x_4 0 _
  have J64 : ∀ (x_1 : Int32) (x_2 : Int32) (x_3 : Int32) (x_4 : Int32) (s_0 : Int32) (M : zM), z_S p l e R s0 m args below meth c (z_Qm E below args s0 M0 z_ri fin) E 6 M0 fin M 64 [(0, za ((some a0))), (1, zi x_1), (2, zi x_2), (3, zi x_3), (4, zi x_4)] [zi s_0] (F_X11_expression_64 a0 x_1 x_2 x_3 x_4 s_0) := by
    intro x_1 x_2 x_3 x_4 s_0 M
    refine s_istore X dX11_expression_64 (by decide) [(5, zi s_0), (0, za ((some a0))), (1, zi x_1), (2, zi x_2), (3, zi x_3), (4, zi x_4)] rfl ?_
    refine s_goto X 135 dX11_expression_66 (by decide) ?_
    refine s_lv [(0, za ((some a0))), (1, zi x_1), (2, zi x_2), (3, zi x_3), (4, zi x_4), (5, zi s_0)] [1, 2, 3, 4, 5, 0] rfl ?_
    exact J135 x_1 x_2 x_3 x_4 s_0 _
  have J63 : ∀ (x_1 : Int32) (x_2 : Int32) (x_3 : Int32) (x_4 : Int32) (M : zM), z_S p l e R s0 m args below meth c (z_Qm E below args s0 M0 z_ri fin) E 6 M0 fin M 63 [(0, za ((some a0))), (1, zi x_1), (2, zi x_2), (3, zi x_3), (4, zi x_4)] [] (F_X11_expression_63 a0 x_1 x_2 x_3 x_4) := by
    intro x_1 x_2 x_3 x_4 M
    refine s_iconst X 0 dX11_expression_63 (by decide) ?_
    exact J64 x_1 x_2 x_3 x_4 0 _
  have J59 : ∀ (x_1 : Int32) (x_2 : Int32) (x_3 : Int32) (x_4 : Int32) (M : zM), z_S p l e R s0 m args below meth c (z_Qm E below args s0 M0 z_ri fin) E 6 M0 fin M 59 [(0, za ((some a0))), (1, zi x_1), (2, zi x_2), (3, zi x_3), (4, zi x_4)] [] (F_X11_expression_59 a0 x_1 x_2 x_3 x_4) := by
    intro x_1 x_2 x_3 x_4 M
    refine s_iconst X 1 dX11_expression_59 (by decide) ?_
    refine s_goto X 64 dX11_expression_60 (by decide) ?_
    exact J64 x_1 x_2 x_3 x_4 1 _
  refine s_aload_n X dX11_expression_0 0 rfl ?_
  refine s_iconst X 0 dX11_expression_1 (by decide) ?_
  refine s_pf (x := zi (0)) X (C := RX11) (T := TX11) (N := 32) rfl (by decide) hiX11 tyX11 tyX11_ok nmX11 hl1 (Or.inl rfl) rfl (fun E => ⟨rfl, rfl⟩) dX11_expression_2 (fun M => ?_)
  refine s_iload_n X dX11_expression_5 1 rfl ?_
  refine s_by (fun h1 => ?_) (fun h1 => ?_)
  · refine s_tabIn X 0 40 h1 dX11_expression_6 (by decide) (by decide) (by decide) trivial ?_
    refine s_iload_n X dX11_expression_40 2 rfl ?_
    refine s_callS (As := [zi p1]) (st := []) X (c_X11_isLabel l E p1) gX11_expression_X11_isLabel rfl hy_X11_isLabel rfl rfl (Nat.le_of_ble_eq_true rfl) (by decide) dX11_expression_41 (fun x2 M => ?_)
    refine s_if_eq X 63 dX11_expression_44 (by decide) (fun h3 => ?_) (fun h3 => ?_)
    · exact J63 p0 p1 p2 p3 _
    · refine s_iload_n X dX11_expression_47 3 rfl ?_
      refine s_iconst X (-1) dX11_expression_48 (by decide) ?_
      refine s_icmp_eq X 59 dX11_expression_49 (by decide) (fun h4 => ?_) (fun h4 => ?_)
      · exact J59 p0 p1 p2 p3 _
      · refine s_iload_n X dX11_expression_52 3 rfl ?_
        refine s_callS (As := [zi p2]) (st := []) X (c_X11_isShape l E p2) gX11_expression_X11_isShape rfl hy_X11_isShape rfl rfl (Nat.le_of_ble_eq_true rfl) (by decide) dX11_expression_53 (fun x5 M => ?_)
        refine s_if_eq X 63 dX11_expression_56 (by decide) (fun h6 => ?_) (fun h6 => ?_)
        · exact J63 p0 p1 p2 p3 _
        · exact J59 p0 p1 p2 p3 _
  · refine s_by (fun h7 => ?_) (fun h7 => ?_)
    · refine s_tabIn X 1 40 h7 dX11_expression_6 (by decide) (by decide) (by decide) trivial ?_
      refine s_iload_n X dX11_expression_40 2 rfl ?_
      refine s_callS (As := [zi p1]) (st := []) X (c_X11_isLabel l E p1) gX11_expression_X11_isLabel rfl hy_X11_isLabel rfl rfl (Nat.le_of_ble_eq_true rfl) (by decide) dX11_expression_41 (fun x8 M => ?_)
      refine s_if_eq X 63 dX11_expression_44 (by decide) (fun h9 => ?_) (fun h9 => ?_)
      · exact J63 p0 p1 p2 p3 _
      · refine s_iload_n X dX11_expression_47 3 rfl ?_
        refine s_iconst X (-1) dX11_expression_48 (by decide) ?_
        refine s_icmp_eq X 59 dX11_expression_49 (by decide) (fun h10 => ?_) (fun h10 => ?_)
        · exact J59 p0 p1 p2 p3 _
        · refine s_iload_n X dX11_expression_52 3 rfl ?_
          refine s_callS (As := [zi p2]) (st := []) X (c_X11_isShape l E p2) gX11_expression_X11_isShape rfl hy_X11_isShape rfl rfl (Nat.le_of_ble_eq_true rfl) (by decide) dX11_expression_53 (fun x11 M => ?_)
          refine s_if_eq X 63 dX11_expression_56 (by decide) (fun h12 => ?_) (fun h12 => ?_)
          · exact J63 p0 p1 p2 p3 _
          · exact J59 p0 p1 p2 p3 _
    · refine s_by (fun h13 => ?_) (fun h13 => ?_)
      · refine s_tabIn X 2 69 h13 dX11_expression_6 (by decide) (by decide) (by decide) trivial ?_
        refine s_aload_n X dX11_expression_69 0 rfl ?_
        refine s_iload_n X dX11_expression_70 2 rfl ?_
        refine s_callV (ci := 11) (C := RX11) (As := [zi p1]) (st := []) X (fun a => c_X11_isExpression l E a p1) gX11_expression_X11_isExpression rfl hy_X11_isExpression rfl rfl rfl rfl (Nat.le_of_ble_eq_true rfl) (by decide) dX11_expression_71 (fun x14 M => ?_)
        refine s_if_eq X 89 dX11_expression_74 (by decide) (fun h16 => ?_) (fun h16 => ?_)
        · exact J89 p0 p1 p2 p3 _
        · refine s_aload_n X dX11_expression_77 0 rfl ?_
          refine s_iload_n X dX11_expression_78 3 rfl ?_
          refine s_callV (ci := 11) (C := RX11) (As := [zi p2]) (st := []) X (fun a => c_X11_isExpression l E a p2) gX11_expression_X11_isExpression rfl hy_X11_isExpression rfl rfl rfl rfl (Nat.le_of_ble_eq_true rfl) (by decide) dX11_expression_79 (fun x17 M => ?_)
          refine s_if_eq X 89 dX11_expression_82 (by decide) (fun h19 => ?_) (fun h19 => ?_)
          · exact J89 p0 p1 p2 p3 _
          · refine s_iconst X 1 dX11_expression_85 (by decide) ?_
            refine s_goto X 90 dX11_expression_86 (by decide) ?_
            exact J90 p0 p1 p2 p3 1 _
      · refine s_by (fun h20 => ?_) (fun h20 => ?_)
        · refine s_tabIn X 3 69 h20 dX11_expression_6 (by decide) (by decide) (by decide) trivial ?_
          refine s_aload_n X dX11_expression_69 0 rfl ?_
          refine s_iload_n X dX11_expression_70 2 rfl ?_
          refine s_callV (ci := 11) (C := RX11) (As := [zi p1]) (st := []) X (fun a => c_X11_isExpression l E a p1) gX11_expression_X11_isExpression rfl hy_X11_isExpression rfl rfl rfl rfl (Nat.le_of_ble_eq_true rfl) (by decide) dX11_expression_71 (fun x21 M => ?_)
          refine s_if_eq X 89 dX11_expression_74 (by decide) (fun h23 => ?_) (fun h23 => ?_)
          · exact J89 p0 p1 p2 p3 _
          · refine s_aload_n X dX11_expression_77 0 rfl ?_
            refine s_iload_n X dX11_expression_78 3 rfl ?_
            refine s_callV (ci := 11) (C := RX11) (As := [zi p2]) (st := []) X (fun a => c_X11_isExpression l E a p2) gX11_expression_X11_isExpression rfl hy_X11_isExpression rfl rfl rfl rfl (Nat.le_of_ble_eq_true rfl) (by decide) dX11_expression_79 (fun x24 M => ?_)
            refine s_if_eq X 89 dX11_expression_82 (by decide) (fun h26 => ?_) (fun h26 => ?_)
            · exact J89 p0 p1 p2 p3 _
            · refine s_iconst X 1 dX11_expression_85 (by decide) ?_
              refine s_goto X 90 dX11_expression_86 (by decide) ?_
              exact J90 p0 p1 p2 p3 1 _
        · refine s_by (fun h27 => ?_) (fun h27 => ?_)
          · refine s_tabIn X 4 95 h27 dX11_expression_6 (by decide) (by decide) (by decide) trivial ?_
            refine s_aload_n X dX11_expression_95 0 rfl ?_
            refine s_iload_n X dX11_expression_96 2 rfl ?_
            refine s_callV (ci := 11) (C := RX11) (As := [zi p1]) (st := []) X (fun a => c_X11_isExpression l E a p1) gX11_expression_X11_isExpression rfl hy_X11_isExpression rfl rfl rfl rfl (Nat.le_of_ble_eq_true rfl) (by decide) dX11_expression_97 (fun x28 M => ?_)
            refine s_if_eq X 117 dX11_expression_100 (by decide) (fun h30 => ?_) (fun h30 => ?_)
            · exact J117 p0 p1 p2 p3 _
            · refine s_iload_n X dX11_expression_103 3 rfl ?_
              refine s_if_lt X 117 dX11_expression_104 (by decide) (fun h31 => ?_) (fun h31 => ?_)
              · exact J117 p0 p1 p2 p3 _
              · refine s_iload X dX11_expression_107 4 rfl ?_
                refine s_iconst X (-1) dX11_expression_109 (by decide) ?_
                refine s_icmp_lt X 117 dX11_expression_110 (by decide) (fun h32 => ?_) (fun h32 => ?_)
                · exact J117 p0 p1 p2 p3 _
                · refine s_iconst X 1 dX11_expression_113 (by decide) ?_
                  refine s_goto X 118 dX11_expression_114 (by decide) ?_
                  exact J118 p0 p1 p2 p3 1 _
          · refine s_tabOut X 123 dX11_expression_6 (by have := lv_neT h1 (show (0 : Int32).toInt = 0 by decide); have := lv_neT h7 (show (1 : Int32).toInt = 1 by decide); have := lv_neT h13 (show (2 : Int32).toInt = 2 by decide); have := lv_neT h20 (show (3 : Int32).toInt = 3 by decide); have := lv_neT h27 (show (4 : Int32).toInt = 4 by decide); omega) (by decide) ?_
            refine s_iload_n X dX11_expression_123 1 rfl ?_
            refine s_iconst X 5 dX11_expression_124 (by decide) ?_
            refine s_icmp_ne X 132 dX11_expression_125 (by decide) (fun h33 => ?_) (fun h33 => ?_)
            · refine s_iconst X 0 dX11_expression_132 (by decide) ?_
              exact J133 p0 p1 p2 p3 0 _
            · refine s_iconst X 1 dX11_expression_128 (by decide) ?_
              refine s_goto X 133 dX11_expression_129 (by decide) ?_
              exact J133 p0 p1 p2 p3 1 _
theorem hy_X11_comesTo : yX11_comesTo.cls = RX11 ∧ yX11_comesTo.cls ≠ "java/lang/invoke/MethodHandle" ∧ yX11_comesTo.cls ≠ "java/lang/invoke/VarHandle" ∧ (parseMethodDescriptor yX11_comesTo.desc).map (fun d => d.parameters.length) = some 2 := by decide +kernel
set_option maxHeartbeats 4000000 in
set_option maxRecDepth 100000 in
theorem c_X11_comesTo (l : Launch) (E : zE) (a0 : Nat) (p0 : Int32) (p1 : Int32) : z_Met l E yX11_comesTo wsX11_comesTo 0 0 [za ((some a0)), zi p0, zi p1] z_ri (F_X11_comesTo a0 p0 p1) := by
  refine z_of (own := RX11) (cc := cX11_comesTo) (maxL := 3) (rt := (some .boolean)) rfl (by decide) rfl (Nat.le_of_ble_eq_true rfl) ?_
  intro p e R s0 m args below meth c M0 fin X hr hnm
  have hiX11 : ∀ w ∈ u_ws RX11 TX11 32, w ∈ wsX11_comesTo := by decide +kernel
  have hl91 : Cond.fieldLink RX11 91 (TX11 31).1 (TX11 31).2.1 (TX11 31).2.2.1 ∈ wsX11_comesTo := by decide +kernel
  have J19 : ∀ (s_0 : Int32) (M : zM), z_S p l e R s0 m args below meth c (z_Qm E below args s0 M0 z_ri fin) E 3 M0 fin M 19 [] [zi s_0] (F_X11_comesTo_19 a0 s_0) := by
    intro s_0 M
    exact s_retb X hr dX11_comesTo_19
  refine s_aload_n X dX11_comesTo_0 0 rfl ?_
  refine s_ga X (C := RX11) (T := TX11) (N := 32) rfl (by decide) hiX11 hl91 dX11_comesTo_1 (fun r1 => ?_)
  refine s_iload_n X dX11_comesTo_4 1 rfl ?_
  refine s_li X dX11_comesTo_5 (fun x2 => ?_)
  refine s_iload_n X dX11_comesTo_6 2 rfl ?_
  refine s_ishr X dX11_comesTo_7 ?_
  refine s_iconst X 1 dX11_comesTo_8 (by decide) ?_
  refine s_iand X dX11_comesTo_9 ?_
  refine s_iconst X 1 dX11_comesTo_10 (by decide) ?_
  refine s_icmp_ne X 18 dX11_comesTo_11 (by decide) (fun h3 => ?_) (fun h3 => ?_)
  · refine s_iconst X 0 dX11_comesTo_18 (by decide) ?_
    refine s_lv [] [] rfl ?_
    exact J19 0 _
  · refine s_iconst X 1 dX11_comesTo_14 (by decide) ?_
    refine s_goto X 19 dX11_comesTo_15 (by decide) ?_
    refine s_lv [] [] rfl ?_
    exact J19 1 _
theorem hy_X11_findPlaces : yX11_findPlaces.cls = RX11 ∧ yX11_findPlaces.cls ≠ "java/lang/invoke/MethodHandle" ∧ yX11_findPlaces.cls ≠ "java/lang/invoke/VarHandle" ∧ (parseMethodDescriptor yX11_findPlaces.desc).map (fun d => d.parameters.length) = some 1 := by decide +kernel
set_option maxHeartbeats 4000000 in
set_option maxRecDepth 100000 in
theorem c_X11_findPlaces (l : Launch) (E : zE) (a0 : Nat) (p0 : Int32) : z_Met l E yX11_findPlaces wsX11_findPlaces 0 0 [za ((some a0)), zi p0] z_rv (F_X11_findPlaces a0 p0) := by
  refine z_of (own := RX11) (cc := cX11_findPlaces) (maxL := 3) (rt := none) rfl (by decide) rfl (Nat.le_of_ble_eq_true rfl) ?_
  intro p e R s0 m args below meth c M0 fin X hr hnm
  have hiX11 : ∀ w ∈ u_ws RX11 TX11 32, w ∈ wsX11_findPlaces := by decide +kernel
  have hl59 : Cond.fieldLink RX11 59 (TX11 19).1 (TX11 19).2.1 (TX11 19).2.2.1 ∈ wsX11_findPlaces := by decide +kernel
  have hl128 : Cond.fieldLink RX11 128 (TX11 21).1 (TX11 21).2.1 (TX11 21).2.2.1 ∈ wsX11_findPlaces := by decide +kernel
  have hl17 : Cond.fieldLink RX11 17 (TX11 2).1 (TX11 2).2.1 (TX11 2).2.2.1 ∈ wsX11_findPlaces := by decide +kernel
  have hl20 : Cond.fieldLink RX11 20 (TX11 3).1 (TX11 3).2.1 (TX11 3).2.2.1 ∈ wsX11_findPlaces := by decide +kernel
  have hl23 : Cond.fieldLink RX11 23 (TX11 4).1 (TX11 4).2.1 (TX11 4).2.2.1 ∈ wsX11_findPlaces := by decide +kernel
  have hl62 : Cond.fieldLink RX11 62 (TX11 20).1 (TX11 20).2.1 (TX11 20).2.2.1 ∈ wsX11_findPlaces := by decide +kernel
  have L115 : ∀ (n : Nat) (s : Int32 × Int32) (M : zM), z_S p l e R s0 m args below meth c (z_Qm E below args s0 M0 z_rv fin) E 3 M0 fin M 115 [(0, za (some a0)), (1, zi s.1), (2, zi s.2)] [] (F_X11_findPlaces_115 a0 n s) := by
    refine s_fix ?_
    intro ih115_ hih115
    have J162 : ∀ (x_1 : Int32) (x_2 : Int32) (M : zM), z_S p l e R s0 m args below meth c (z_Qm E below args s0 M0 z_rv fin) E 3 M0 fin M 162 [(0, za ((some a0))), (1, zi x_1), (2, zi x_2)] [] (F_X11_findPlaces_162 a0 (fun y0 y1 => ih115_ (y0, y1)) x_1 x_2) := by
      intro x_1 x_2 M
      refine s_iinc X 1 dX11_findPlaces_162 2 rfl (by decide) (by decide) [(2, zi (x_2 + 1)), (0, za ((some a0))), (1, zi x_1)] rfl ?_
      refine s_goto X 115 dX11_findPlaces_165 (by decide) ?_
      refine s_lv [(0, za ((some a0))), (1, zi x_1), (2, zi (x_2 + 1))] [1, 2, 0] rfl ?_
      exact hih115 (x_1, x_2 + 1) _
    rintro ⟨x_1, x_2⟩ M
    refine s_iload_n X dX11_findPlaces_115 2 rfl ?_
    refine s_iload_n X dX11_findPlaces_116 1 rfl ?_
    refine s_icmp_gt X 168 dX11_findPlaces_117 (by decide) (fun h23 => ?_) (fun h23 => ?_)
    · exact s_retv X hr dX11_findPlaces_168
    · refine s_aload_n X dX11_findPlaces_120 0 rfl ?_
      refine s_ga X (C := RX11) (T := TX11) (N := 32) rfl (by decide) hiX11 hl59 dX11_findPlaces_121 (fun r24 => ?_)
      refine s_iload_n X dX11_findPlaces_124 2 rfl ?_
      refine s_lb X dX11_findPlaces_125 (fun x25 => ?_)
      refine s_if_eq X 162 dX11_findPlaces_126 (by decide) (fun h26 => ?_) (fun h26 => ?_)
      · exact J162 x_1 x_2 _
      · refine s_aload_n X dX11_findPlaces_129 0 rfl ?_
        refine s_ga X (C := RX11) (T := TX11) (N := 32) rfl (by decide) hiX11 hl17 dX11_findPlaces_130 (fun r27 => ?_)
        refine s_iload_n X dX11_findPlaces_133 2 rfl ?_
        refine s_li X dX11_findPlaces_134 (fun x28 => ?_)
        refine s_iconst X 1 dX11_findPlaces_135 (by decide) ?_
        refine s_icmp_le X 142 dX11_findPlaces_136 (by decide) (fun h29 => ?_) (fun h29 => ?_)
        · refine s_aload_n X dX11_findPlaces_142 0 rfl ?_
          refine s_ga X (C := RX11) (T := TX11) (N := 32) rfl (by decide) hiX11 hl62 dX11_findPlaces_143 (fun r30 => ?_)
          refine s_aload_n X dX11_findPlaces_146 0 rfl ?_
          refine s_gi X (C := RX11) (T := TX11) (N := 32) rfl (by decide) hiX11 hl128 dX11_findPlaces_147 (fun x31 => ?_)
          refine s_iload_n X dX11_findPlaces_150 2 rfl ?_
          refine s_si X dX11_findPlaces_151 (fun M => ?_)
          refine s_aload_n X dX11_findPlaces_152 0 rfl ?_
          refine s_dup X dX11_findPlaces_153 rfl ?_
          refine s_gi X (C := RX11) (T := TX11) (N := 32) rfl (by decide) hiX11 hl128 dX11_findPlaces_154 (fun x32 => ?_)
          refine s_iconst X 1 dX11_findPlaces_157 (by decide) ?_
          refine s_iadd X dX11_findPlaces_158 ?_
          refine s_pf (x := zi (x32 + 1)) X (C := RX11) (T := TX11) (N := 32) rfl (by decide) hiX11 tyX11 tyX11_ok nmX11 hl128 (Or.inl rfl) rfl (fun E => ⟨rfl, rfl⟩) dX11_findPlaces_159 (fun M => ?_)
          exact J162 x_1 x_2 _
        · refine s_goto X 162 dX11_findPlaces_139 (by decide) ?_
          exact J162 x_1 x_2 _
  have L32 : ∀ (n : Nat) (s : Int32 × Int32) (M : zM), z_S p l e R s0 m args below meth c (z_Qm E below args s0 M0 z_rv fin) E 3 M0 fin M 32 [(0, za (some a0)), (1, zi s.1), (2, zi s.2)] [] (F_X11_findPlaces_32 a0 n s) := by
    refine s_fix ?_
    intro ih32_ hih32
    have J102 : ∀ (x_1 : Int32) (x_2 : Int32) (M : zM), z_S p l e R s0 m args below meth c (z_Qm E below args s0 M0 z_rv fin) E 3 M0 fin M 102 [(0, za ((some a0))), (1, zi x_1), (2, zi x_2)] [] (F_X11_findPlaces_102 a0 (fun y0 y1 => ih32_ (y0, y1)) x_1 x_2) := by
      intro x_1 x_2 M
      refine s_iinc X (-1) dX11_findPlaces_102 2 rfl (by decide) (by decide) [(2, zi (x_2 + (-1))), (0, za ((some a0))), (1, zi x_1)] rfl ?_
      refine s_goto X 32 dX11_findPlaces_105 (by decide) ?_
      refine s_lv [(0, za ((some a0))), (1, zi x_1), (2, zi (x_2 + (-1)))] [1, 2, 0] rfl ?_
      exact hih32 (x_1, x_2 + (-1)) _
    rintro ⟨x_1, x_2⟩ M
    refine s_iload_n X dX11_findPlaces_32 2 rfl ?_
    refine s_if_lt X 108 dX11_findPlaces_33 (by decide) (fun h4 => ?_) (fun h4 => ?_)
    · refine s_aload_n X dX11_findPlaces_108 0 rfl ?_
      refine s_iconst X 0 dX11_findPlaces_109 (by decide) ?_
      refine s_pf (x := zi (0)) X (C := RX11) (T := TX11) (N := 32) rfl (by decide) hiX11 tyX11 tyX11_ok nmX11 hl128 (Or.inl rfl) rfl (fun E => ⟨rfl, rfl⟩) dX11_findPlaces_110 (fun M => ?_)
      refine s_iconst X 0 dX11_findPlaces_113 (by decide) ?_
      refine s_istore_n X dX11_findPlaces_114 (by decide) [(2, zi (0)), (0, za ((some a0))), (1, zi x_1)] rfl ?_
      refine s_lv [(0, za ((some a0))), (1, zi x_1), (2, zi (0))] [1, 2, 0] rfl ?_
      exact L115 z_N (x_1, 0) _
    · refine s_aload_n X dX11_findPlaces_36 0 rfl ?_
      refine s_ga X (C := RX11) (T := TX11) (N := 32) rfl (by decide) hiX11 hl59 dX11_findPlaces_37 (fun r5 => ?_)
      refine s_iload_n X dX11_findPlaces_40 2 rfl ?_
      refine s_lb X dX11_findPlaces_41 (fun x6 => ?_)
      refine s_if_eq X 102 dX11_findPlaces_42 (by decide) (fun h7 => ?_) (fun h7 => ?_)
      · exact J102 x_1 x_2 _
      · refine s_aload_n X dX11_findPlaces_45 0 rfl ?_
        refine s_ga X (C := RX11) (T := TX11) (N := 32) rfl (by decide) hiX11 hl17 dX11_findPlaces_46 (fun r8 => ?_)
        refine s_iload_n X dX11_findPlaces_49 2 rfl ?_
        refine s_li X dX11_findPlaces_50 (fun x9 => ?_)
        refine s_iconst X 2 dX11_findPlaces_51 (by decide) ?_
        refine s_icmp_lt X 102 dX11_findPlaces_52 (by decide) (fun h10 => ?_) (fun h10 => ?_)
        · exact J102 x_1 x_2 _
        · refine s_aload_n X dX11_findPlaces_55 0 rfl ?_
          refine s_ga X (C := RX11) (T := TX11) (N := 32) rfl (by decide) hiX11 hl17 dX11_findPlaces_56 (fun r11 => ?_)
          refine s_iload_n X dX11_findPlaces_59 2 rfl ?_
          refine s_li X dX11_findPlaces_60 (fun x12 => ?_)
          refine s_iconst X 5 dX11_findPlaces_61 (by decide) ?_
          refine s_icmp_ne X 68 dX11_findPlaces_62 (by decide) (fun h13 => ?_) (fun h13 => ?_)
          · refine s_aload_n X dX11_findPlaces_68 0 rfl ?_
            refine s_ga X (C := RX11) (T := TX11) (N := 32) rfl (by decide) hiX11 hl59 dX11_findPlaces_69 (fun r14 => ?_)
            refine s_aload_n X dX11_findPlaces_72 0 rfl ?_
            refine s_ga X (C := RX11) (T := TX11) (N := 32) rfl (by decide) hiX11 hl20 dX11_findPlaces_73 (fun r15 => ?_)
            refine s_iload_n X dX11_findPlaces_76 2 rfl ?_
            refine s_li X dX11_findPlaces_77 (fun x16 => ?_)
            refine s_iconst X 1 dX11_findPlaces_78 (by decide) ?_
            refine s_sb X dX11_findPlaces_79 (fun M => ?_)
            refine s_aload_n X dX11_findPlaces_80 0 rfl ?_
            refine s_ga X (C := RX11) (T := TX11) (N := 32) rfl (by decide) hiX11 hl17 dX11_findPlaces_81 (fun r17 => ?_)
            refine s_iload_n X dX11_findPlaces_84 2 rfl ?_
            refine s_li X dX11_findPlaces_85 (fun x18 => ?_)
            refine s_iconst X 4 dX11_findPlaces_86 (by decide) ?_
            refine s_icmp_ge X 102 dX11_findPlaces_87 (by decide) (fun h19 => ?_) (fun h19 => ?_)
            · exact J102 x_1 x_2 _
            · refine s_aload_n X dX11_findPlaces_90 0 rfl ?_
              refine s_ga X (C := RX11) (T := TX11) (N := 32) rfl (by decide) hiX11 hl59 dX11_findPlaces_91 (fun r20 => ?_)
              refine s_aload_n X dX11_findPlaces_94 0 rfl ?_
              refine s_ga X (C := RX11) (T := TX11) (N := 32) rfl (by decide) hiX11 hl23 dX11_findPlaces_95 (fun r21 => ?_)
              refine s_iload_n X dX11_findPlaces_98 2 rfl ?_
              refine s_li X dX11_findPlaces_99 (fun x22 => ?_)
              refine s_iconst X 1 dX11_findPlaces_100 (by decide) ?_
              refine s_sb X dX11_findPlaces_101 (fun M => ?_)
              exact J102 x_1 x_2 _
          · refine s_goto X 102 dX11_findPlaces_65 (by decide) ?_
            exact J102 x_1 x_2 _
  have L2 : ∀ (n : Nat) (s : Int32 × Int32) (M : zM), z_S p l e R s0 m args below meth c (z_Qm E below args s0 M0 z_rv fin) E 3 M0 fin M 2 [(0, za (some a0)), (1, zi s.1), (2, zi s.2)] [] (F_X11_findPlaces_2 a0 n s) := by
    refine s_fix ?_
    intro ih2_ hih2
    have J23 : ∀ (x_1 : Int32) (x_2 : Int32) (t_0 : Option Nat) (s_1 : Int32) (s_2 : Int32) (M : zM), z_S p l e R s0 m args below meth c (z_Qm E below args s0 M0 z_rv fin) E 3 M0 fin M 23 [(0, za ((some a0))), (1, zi x_1), (2, zi x_2)] [zi s_2, zi s_1, za t_0] (F_X11_findPlaces_23 a0 (fun y0 y1 => ih2_ (y0, y1)) x_1 x_2 t_0 s_1 s_2) := by
      intro x_1 x_2 t_0 s_1 s_2 M
      refine s_sb X dX11_findPlaces_23 (fun M => ?_)
      refine s_iinc X 1 dX11_findPlaces_24 2 rfl (by decide) (by decide) [(2, zi (x_2 + 1)), (0, za ((some a0))), (1, zi x_1)] rfl ?_
      refine s_goto X 2 dX11_findPlaces_27 (by decide) ?_
      refine s_lv [(0, za ((some a0))), (1, zi x_1), (2, zi (x_2 + 1))] [1, 2, 0] rfl ?_
      exact hih2 (x_1, x_2 + 1) _
    rintro ⟨x_1, x_2⟩ M
    refine s_iload_n X dX11_findPlaces_2 2 rfl ?_
    refine s_bipush X 60 dX11_findPlaces_3 (by decide) ?_
    refine s_icmp_ge X 30 dX11_findPlaces_5 (by decide) (fun h1 => ?_) (fun h1 => ?_)
    · refine s_iload_n X dX11_findPlaces_30 1 rfl ?_
      refine s_istore_n X dX11_findPlaces_31 (by decide) [(2, zi x_1), (0, za ((some a0))), (1, zi x_1)] rfl ?_
      refine s_lv [(0, za ((some a0))), (1, zi x_1), (2, zi x_1)] [1, 2, 0] rfl ?_
      exact L32 z_N (x_1, x_1) _
    · refine s_aload_n X dX11_findPlaces_8 0 rfl ?_
      refine s_ga X (C := RX11) (T := TX11) (N := 32) rfl (by decide) hiX11 hl59 dX11_findPlaces_9 (fun r2 => ?_)
      refine s_iload_n X dX11_findPlaces_12 2 rfl ?_
      refine s_iload_n X dX11_findPlaces_13 2 rfl ?_
      refine s_iload_n X dX11_findPlaces_14 1 rfl ?_
      refine s_icmp_ne X 22 dX11_findPlaces_15 (by decide) (fun h3 => ?_) (fun h3 => ?_)
      · refine s_iconst X 0 dX11_findPlaces_22 (by decide) ?_
        exact J23 x_1 x_2 r2 x_2 0 _
      · refine s_iconst X 1 dX11_findPlaces_18 (by decide) ?_
        refine s_goto X 23 dX11_findPlaces_19 (by decide) ?_
        exact J23 x_1 x_2 r2 x_2 1 _
  refine s_iconst X 0 dX11_findPlaces_0 (by decide) ?_
  refine s_istore_n X dX11_findPlaces_1 (by decide) [(2, zi (0)), (0, za ((some a0))), (1, zi p0)] rfl ?_
  refine s_lv [(0, za ((some a0))), (1, zi p0), (2, zi (0))] [1, 2, 0] rfl ?_
  exact L2 z_N (p0, 0) _
theorem hy_X11_refers : yX11_refers.cls = RX11 ∧ yX11_refers.cls ≠ "java/lang/invoke/MethodHandle" ∧ yX11_refers.cls ≠ "java/lang/invoke/VarHandle" ∧ (parseMethodDescriptor yX11_refers.desc).map (fun d => d.parameters.length) = some 1 := by decide +kernel
set_option maxHeartbeats 4000000 in
set_option maxRecDepth 100000 in
theorem c_X11_refers (l : Launch) (E : zE) (a0 : Nat) (p0 : Int32) : z_Met l E yX11_refers wsX11_refers 1 22 [za ((some a0)), zi p0] z_ri (F_X11_refers a0 p0) := by
  refine z_of (own := RX11) (cc := cX11_refers) (maxL := 4) (rt := (some .int)) rfl (by decide) rfl (Nat.le_of_ble_eq_true rfl) ?_
  intro p e R s0 m args below meth c M0 fin X hr hnm
  have hiX11 : ∀ w ∈ u_ws RX11 TX11 32, w ∈ wsX11_refers := by decide +kernel
  have hl29 : Cond.fieldLink RX11 29 (TX11 7).1 (TX11 7).2.1 (TX11 7).2.2.1 ∈ wsX11_refers := by decide +kernel
  have hl32 : Cond.fieldLink RX11 32 (TX11 8).1 (TX11 8).2.1 (TX11 8).2.2.1 ∈ wsX11_refers := by decide +kernel
  have hl128 : Cond.fieldLink RX11 128 (TX11 21).1 (TX11 21).2.1 (TX11 21).2.2.1 ∈ wsX11_refers := by decide +kernel
  have hl23 : Cond.fieldLink RX11 23 (TX11 4).1 (TX11 4).2.1 (TX11 4).2.2.1 ∈ wsX11_refers := by decide +kernel
  have hl62 : Cond.fieldLink RX11 62 (TX11 20).1 (TX11 20).2.1 (TX11 20).2.2.1 ∈ wsX11_refers := by decide +kernel
  have hl35 : Cond.fieldLink RX11 35 (TX11 9).1 (TX11 9).2.1 (TX11 9).2.2.1 ∈ wsX11_refers := by decide +kernel
  have J128 : ∀ (x_2 : Int32) (M : zM), z_S p l e R s0 m args below meth c (z_Qm E below args s0 M0 z_ri fin) E 4 M0 fin M 128 [(2, zi x_2)] [] (F_X11_refers_128 a0 x_2) := by
    intro x_2 M
    refine s_iload_n X dX11_refers_128 0 rfl ?_
    exact s_ret X hr dX11_refers_129
  have L80 : ∀ (n : Nat) (s : Int32 × Int32) (M : zM), z_S p l e R s0 m args below meth c (z_Qm E below args s0 M0 z_ri fin) E 4 M0 fin M 80 [(0, za (some a0)), (2, zi s.1), (3, zi s.2)] [] (F_X11_refers_80 a0 n s) := by
    refine s_fix ?_
    intro ih80_ hih80
    have J120 : ∀ (x_3 : Int32) (s_0 : Int32) (s_1 : Int32) (M : zM), z_S p l e R s0 m args below meth c (z_Qm E below args s0 M0 z_ri fin) E 4 M0 fin M 120 [(0, za ((some a0))), (3, zi x_3)] [zi s_1, zi s_0] (F_X11_refers_120 a0 (fun y0 y1 => ih80_ (y0, y1)) x_3 s_0 s_1) := by
      intro x_3 s_0 s_1 M
      refine s_ior X dX11_refers_120 ?_
      refine s_let (fun x30 => ?_)
      refine s_istore_n X dX11_refers_121 (by decide) [(2, zi x30), (0, za ((some a0))), (3, zi x_3)] rfl ?_
      refine s_iinc X 1 dX11_refers_122 2 rfl (by decide) (by decide) [(3, zi (x_3 + 1)), (2, zi x30), (0, za ((some a0)))] rfl ?_
      refine s_goto X 80 dX11_refers_125 (by decide) ?_
      refine s_lv [(0, za ((some a0))), (2, zi x30), (3, zi (x_3 + 1))] [2, 1, 0] rfl ?_
      exact hih80 (x30, x_3 + 1) _
    rintro ⟨x_2, x_3⟩ M
    refine s_iload_n X dX11_refers_80 2 rfl ?_
    refine s_aload_n X dX11_refers_81 0 rfl ?_
    refine s_gi X (C := RX11) (T := TX11) (N := 32) rfl (by decide) hiX11 hl128 dX11_refers_82 (fun x19 => ?_)
    refine s_icmp_ge X 128 dX11_refers_85 (by decide) (fun h20 => ?_) (fun h20 => ?_)
    · refine s_lv [(2, zi x_2)] [1] rfl ?_
      exact J128 x_2 _
    · refine s_iload_n X dX11_refers_88 1 rfl ?_
      refine s_aload_n X dX11_refers_89 0 rfl ?_
      refine s_ga X (C := RX11) (T := TX11) (N := 32) rfl (by decide) hiX11 hl23 dX11_refers_90 (fun r21 => ?_)
      refine s_aload_n X dX11_refers_93 0 rfl ?_
      refine s_ga X (C := RX11) (T := TX11) (N := 32) rfl (by decide) hiX11 hl62 dX11_refers_94 (fun r22 => ?_)
      refine s_iload_n X dX11_refers_97 2 rfl ?_
      refine s_li X dX11_refers_98 (fun x23 => ?_)
      refine s_li X dX11_refers_99 (fun x24 => ?_)
      refine s_if_lt X 119 dX11_refers_100 (by decide) (fun h25 => ?_) (fun h25 => ?_)
      · refine s_iconst X 0 dX11_refers_119 (by decide) ?_
        refine s_lv [(0, za ((some a0))), (3, zi x_3)] [0, 2] rfl ?_
        exact J120 x_3 x_2 0 _
      · refine s_iconst X 1 dX11_refers_103 (by decide) ?_
        refine s_aload_n X dX11_refers_104 0 rfl ?_
        refine s_ga X (C := RX11) (T := TX11) (N := 32) rfl (by decide) hiX11 hl23 dX11_refers_105 (fun r26 => ?_)
        refine s_aload_n X dX11_refers_108 0 rfl ?_
        refine s_ga X (C := RX11) (T := TX11) (N := 32) rfl (by decide) hiX11 hl62 dX11_refers_109 (fun r27 => ?_)
        refine s_iload_n X dX11_refers_112 2 rfl ?_
        refine s_li X dX11_refers_113 (fun x28 => ?_)
        refine s_li X dX11_refers_114 (fun x29 => ?_)
        refine s_ishl X dX11_refers_115 ?_
        refine s_goto X 120 dX11_refers_116 (by decide) ?_
        refine s_lv [(0, za ((some a0))), (3, zi x_3)] [0, 2] rfl ?_
        exact J120 x_3 x_2 ((1 : Int32) <<< (x29 &&& 31)) _
  have J59 : ∀ (x_1 : Int32) (x_2 : Int32) (M : zM), z_S p l e R s0 m args below meth c (z_Qm E below args s0 M0 z_ri fin) E 4 M0 fin M 59 [(0, za ((some a0))), (1, zi x_1), (2, zi x_2)] [] (F_X11_refers_59 a0 x_1 x_2) := by
    intro x_1 x_2 M
    refine s_aload_n X dX11_refers_59 0 rfl ?_
    refine s_ga X (C := RX11) (T := TX11) (N := 32) rfl (by decide) hiX11 hl29 dX11_refers_60 (fun r13 => ?_)
    refine s_iload_n X dX11_refers_63 1 rfl ?_
    refine s_li X dX11_refers_64 (fun x14 => ?_)
    refine s_if_ne X 128 dX11_refers_65 (by decide) (fun h15 => ?_) (fun h15 => ?_)
    · refine s_lv [(2, zi x_2)] [2] rfl ?_
      exact J128 x_2 _
    · refine s_aload_n X dX11_refers_68 0 rfl ?_
      refine s_aload_n X dX11_refers_69 0 rfl ?_
      refine s_ga X (C := RX11) (T := TX11) (N := 32) rfl (by decide) hiX11 hl32 dX11_refers_70 (fun r16 => ?_)
      refine s_iload_n X dX11_refers_73 1 rfl ?_
      refine s_li X dX11_refers_74 (fun x17 => ?_)
      refine s_callV (ci := 11) (C := RX11) (As := [zi x17]) (st := []) X (fun a => c_X11_findPlaces l E a x17) gX11_refers_X11_findPlaces rfl hy_X11_findPlaces rfl rfl rfl rfl (Nat.le_of_ble_eq_true rfl) (by decide) dX11_refers_75 (fun _ M => ?_)
      refine s_iconst X 0 dX11_refers_78 (by decide) ?_
      refine s_istore_n X dX11_refers_79 (by decide) [(3, zi (0)), (0, za ((some a0))), (1, zi x_1), (2, zi x_2)] rfl ?_
      refine s_lv [(0, za ((some a0))), (2, zi x_2), (3, zi (0))] [1, 3, 0] rfl ?_
      exact L80 z_N (x_2, 0) _
  have J40 : ∀ (x_1 : Int32) (x_2 : Int32) (M : zM), z_S p l e R s0 m args below meth c (z_Qm E below args s0 M0 z_ri fin) E 4 M0 fin M 40 [(0, za ((some a0))), (1, zi x_1), (2, zi x_2)] [] (F_X11_refers_40 a0 x_1 x_2) := by
    intro x_1 x_2 M
    refine s_aload_n X dX11_refers_40 0 rfl ?_
    refine s_ga X (C := RX11) (T := TX11) (N := 32) rfl (by decide) hiX11 hl29 dX11_refers_41 (fun r7 => ?_)
    refine s_iload_n X dX11_refers_44 1 rfl ?_
    refine s_li X dX11_refers_45 (fun x8 => ?_)
    refine s_iconst X 3 dX11_refers_46 (by decide) ?_
    refine s_icmp_ne X 59 dX11_refers_47 (by decide) (fun h9 => ?_) (fun h9 => ?_)
    · exact J59 x_1 x_2 _
    · refine s_iconst X 1 dX11_refers_50 (by decide) ?_
      refine s_aload_n X dX11_refers_51 0 rfl ?_
      refine s_ga X (C := RX11) (T := TX11) (N := 32) rfl (by decide) hiX11 hl32 dX11_refers_52 (fun r10 => ?_)
      refine s_iload_n X dX11_refers_55 1 rfl ?_
      refine s_li X dX11_refers_56 (fun x11 => ?_)
      refine s_ishl X dX11_refers_57 ?_
      refine s_let (fun x12 => ?_)
      refine s_istore_n X dX11_refers_58 (by decide) [(2, zi x12), (0, za ((some a0))), (1, zi x_1)] rfl ?_
      refine s_lv [(0, za ((some a0))), (1, zi x_1), (2, zi x12)] [1, 2, 0] rfl ?_
      exact J59 x_1 x12 _
  have J22 : ∀ (x_1 : Int32) (M : zM), z_S p l e R s0 m args below meth c (z_Qm E below args s0 M0 z_ri fin) E 4 M0 fin M 22 [(0, za ((some a0))), (1, zi x_1)] [] (F_X11_refers_22 a0 x_1) := by
    intro x_1 M
    refine s_iconst X 1 dX11_refers_22 (by decide) ?_
    refine s_aload_n X dX11_refers_23 0 rfl ?_
    refine s_ga X (C := RX11) (T := TX11) (N := 32) rfl (by decide) hiX11 hl32 dX11_refers_24 (fun r31 => ?_)
    refine s_iload_n X dX11_refers_27 1 rfl ?_
    refine s_li X dX11_refers_28 (fun x32 => ?_)
    refine s_ishl X dX11_refers_29 ?_
    refine s_iconst X 1 dX11_refers_30 (by decide) ?_
    refine s_aload_n X dX11_refers_31 0 rfl ?_
    refine s_ga X (C := RX11) (T := TX11) (N := 32) rfl (by decide) hiX11 hl35 dX11_refers_32 (fun r33 => ?_)
    refine s_iload_n X dX11_refers_35 1 rfl ?_
    refine s_li X dX11_refers_36 (fun x34 => ?_)
    refine s_ishl X dX11_refers_37 ?_
    refine s_ior X dX11_refers_38 ?_
    refine s_let (fun x35 => ?_)
    refine s_istore_n X dX11_refers_39 (by decide) [(2, zi x35), (0, za ((some a0))), (1, zi x_1)] rfl ?_
    refine s_lv [(0, za ((some a0))), (1, zi x_1), (2, zi x35)] [1, 2, 0] rfl ?_
    exact J40 x_1 x35 _
  refine s_iconst X 0 dX11_refers_0 (by decide) ?_
  refine s_istore_n X dX11_refers_1 (by decide) [(2, zi (0)), (0, za ((some a0))), (1, zi p0)] rfl ?_
  refine s_aload_n X dX11_refers_2 1 rfl ?_
  refine s_ga X (C := RX11) (T := TX11) (N := 32) rfl (by decide) hiX11 hl29 dX11_refers_3 (fun r1 => ?_)
  refine s_iload_n X dX11_refers_6 2 rfl ?_
  refine s_li X dX11_refers_7 (fun x2 => ?_)
  refine s_iconst X 1 dX11_refers_8 (by decide) ?_
  refine s_icmp_eq X 22 dX11_refers_9 (by decide) (fun h3 => ?_) (fun h3 => ?_)
  · refine s_lv [(0, za ((some a0))), (1, zi p0)] [1, 2] rfl ?_
    exact J22 p0 _
  · refine s_aload_n X dX11_refers_12 1 rfl ?_
    refine s_ga X (C := RX11) (T := TX11) (N := 32) rfl (by decide) hiX11 hl29 dX11_refers_13 (fun r4 => ?_)
    refine s_iload_n X dX11_refers_16 2 rfl ?_
    refine s_li X dX11_refers_17 (fun x5 => ?_)
    refine s_iconst X 2 dX11_refers_18 (by decide) ?_
    refine s_icmp_ne X 40 dX11_refers_19 (by decide) (fun h6 => ?_) (fun h6 => ?_)
    · refine s_lv [(0, za ((some a0))), (1, zi p0), (2, zi (0))] [1, 2, 0] rfl ?_
      exact J40 p0 0 _
    · refine s_lv [(0, za ((some a0))), (1, zi p0)] [1, 2] rfl ?_
      exact J22 p0 _
