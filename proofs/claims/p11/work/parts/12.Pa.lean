theorem hy_J6_bitCount_0f7a4 : yJ6_bitCount_0f7a4.cls ≠ "java/lang/invoke/MethodHandle" ∧ yJ6_bitCount_0f7a4.cls ≠ "java/lang/invoke/VarHandle" ∧ (parseMethodDescriptor yJ6_bitCount_0f7a4.desc).map (fun d => d.parameters.length) = some 1 := by decide +kernel
set_option maxHeartbeats 4000000 in
set_option maxRecDepth 100000 in
theorem c_J6_bitCount_0f7a4 (l : Launch) (E : zE) (p0 : Int32) : z_Met l E yJ6_bitCount_0f7a4 wsJ6_bitCount_0f7a4 0 0 [zi p0] z_ri (F_J6_bitCount_0f7a4 p0) := by
  refine z_of (own := RJ6) (cc := cJ6_bitCount_0f7a4) (maxL := 1) (rt := (some .int)) rfl (by decide) rfl (Nat.le_of_ble_eq_true rfl) ?_
  intro p e R s0 m args below meth c M0 fin X hr hnm
  refine s_iload_n X dJ6_bitCount_0f7a4_0 0 rfl ?_
  refine s_iload_n X dJ6_bitCount_0f7a4_1 0 rfl ?_
  refine s_iconst X 1 dJ6_bitCount_0f7a4_2 (by decide) ?_
  refine s_iushr X dJ6_bitCount_0f7a4_3 ?_
  refine s_ldcw X 1431655765 dJ6_bitCount_0f7a4_4 (by decide +kernel) ?_
  refine s_iand X dJ6_bitCount_0f7a4_7 ?_
  refine s_isub X dJ6_bitCount_0f7a4_8 ?_
  refine s_let (fun x1 => ?_)
  refine s_istore_n X dJ6_bitCount_0f7a4_9 (by decide) [(0, zi x1)] rfl ?_
  refine s_iload_n X dJ6_bitCount_0f7a4_10 0 rfl ?_
  refine s_ldcw X 858993459 dJ6_bitCount_0f7a4_11 (by decide +kernel) ?_
  refine s_iand X dJ6_bitCount_0f7a4_14 ?_
  refine s_iload_n X dJ6_bitCount_0f7a4_15 0 rfl ?_
  refine s_iconst X 2 dJ6_bitCount_0f7a4_16 (by decide) ?_
  refine s_iushr X dJ6_bitCount_0f7a4_17 ?_
  refine s_ldcw X 858993459 dJ6_bitCount_0f7a4_18 (by decide +kernel) ?_
  refine s_iand X dJ6_bitCount_0f7a4_21 ?_
  refine s_iadd X dJ6_bitCount_0f7a4_22 ?_
  refine s_let (fun x2 => ?_)
  refine s_istore_n X dJ6_bitCount_0f7a4_23 (by decide) [(0, zi x2)] rfl ?_
  refine s_iload_n X dJ6_bitCount_0f7a4_24 0 rfl ?_
  refine s_iload_n X dJ6_bitCount_0f7a4_25 0 rfl ?_
  refine s_iconst X 4 dJ6_bitCount_0f7a4_26 (by decide) ?_
  refine s_iushr X dJ6_bitCount_0f7a4_27 ?_
  refine s_iadd X dJ6_bitCount_0f7a4_28 ?_
  refine s_ldcw X 252645135 dJ6_bitCount_0f7a4_29 (by decide +kernel) ?_
  refine s_iand X dJ6_bitCount_0f7a4_32 ?_
  refine s_let (fun x3 => ?_)
  refine s_istore_n X dJ6_bitCount_0f7a4_33 (by decide) [(0, zi x3)] rfl ?_
  refine s_iload_n X dJ6_bitCount_0f7a4_34 0 rfl ?_
  refine s_iload_n X dJ6_bitCount_0f7a4_35 0 rfl ?_
  refine s_bipush X 8 dJ6_bitCount_0f7a4_36 (by decide) ?_
  refine s_iushr X dJ6_bitCount_0f7a4_38 ?_
  refine s_iadd X dJ6_bitCount_0f7a4_39 ?_
  refine s_let (fun x4 => ?_)
  refine s_istore_n X dJ6_bitCount_0f7a4_40 (by decide) [(0, zi x4)] rfl ?_
  refine s_iload_n X dJ6_bitCount_0f7a4_41 0 rfl ?_
  refine s_iload_n X dJ6_bitCount_0f7a4_42 0 rfl ?_
  refine s_bipush X 16 dJ6_bitCount_0f7a4_43 (by decide) ?_
  refine s_iushr X dJ6_bitCount_0f7a4_45 ?_
  refine s_iadd X dJ6_bitCount_0f7a4_46 ?_
  refine s_let (fun x5 => ?_)
  refine s_istore_n X dJ6_bitCount_0f7a4_47 (by decide) [(0, zi x5)] rfl ?_
  refine s_iload_n X dJ6_bitCount_0f7a4_48 0 rfl ?_
  refine s_bipush X 63 dJ6_bitCount_0f7a4_49 (by decide) ?_
  refine s_iand X dJ6_bitCount_0f7a4_51 ?_
  exact s_ret X hr dJ6_bitCount_0f7a4_52
theorem hy_J6_numberOfTrailingZeros_0f7a4 : yJ6_numberOfTrailingZeros_0f7a4.cls ≠ "java/lang/invoke/MethodHandle" ∧ yJ6_numberOfTrailingZeros_0f7a4.cls ≠ "java/lang/invoke/VarHandle" ∧ (parseMethodDescriptor yJ6_numberOfTrailingZeros_0f7a4.desc).map (fun d => d.parameters.length) = some 1 := by decide +kernel
set_option maxHeartbeats 4000000 in
set_option maxRecDepth 100000 in
theorem c_J6_numberOfTrailingZeros_0f7a4 (l : Launch) (E : zE) (p0 : Int32) : z_Met l E yJ6_numberOfTrailingZeros_0f7a4 wsJ6_numberOfTrailingZeros_0f7a4 0 0 [zi p0] z_ri (F_J6_numberOfTrailingZeros_0f7a4 p0) := by
  refine z_of (own := RJ6) (cc := cJ6_numberOfTrailingZeros_0f7a4) (maxL := 2) (rt := (some .int)) rfl (by decide) rfl (Nat.le_of_ble_eq_true rfl) ?_
  intro p e R s0 m args below meth c M0 fin X hr hnm
  have J74 : ∀ (x_0 : Int32) (x_1 : Int32) (M : zM), z_S p l e R s0 m args below meth c (z_Qm E below args s0 M0 z_ri fin) E 2 M0 fin M 74 [(0, zi x_0), (1, zi x_1)] [] (F_J6_numberOfTrailingZeros_0f7a4_74 x_0 x_1) := by
    intro x_0 x_1 M
    refine s_iload_n X dJ6_numberOfTrailingZeros_0f7a4_74 1 rfl ?_
    refine s_iload_n X dJ6_numberOfTrailingZeros_0f7a4_75 0 rfl ?_
    refine s_iconst X 1 dJ6_numberOfTrailingZeros_0f7a4_76 (by decide) ?_
    refine s_iushr X dJ6_numberOfTrailingZeros_0f7a4_77 ?_
    refine s_iadd X dJ6_numberOfTrailingZeros_0f7a4_78 ?_
    exact s_ret X hr dJ6_numberOfTrailingZeros_0f7a4_79
  have J62 : ∀ (x_0 : Int32) (x_1 : Int32) (M : zM), z_S p l e R s0 m args below meth c (z_Qm E below args s0 M0 z_ri fin) E 2 M0 fin M 62 [(0, zi x_0), (1, zi x_1)] [] (F_J6_numberOfTrailingZeros_0f7a4_62 x_0 x_1) := by
    intro x_0 x_1 M
    refine s_iload_n X dJ6_numberOfTrailingZeros_0f7a4_62 0 rfl ?_
    refine s_iconst X 4 dJ6_numberOfTrailingZeros_0f7a4_63 (by decide) ?_
    refine s_icmp_le X 74 dJ6_numberOfTrailingZeros_0f7a4_64 (by decide) (fun h9 => ?_) (fun h9 => ?_)
    · exact J74 x_0 x_1 _
    · refine s_iinc X 2 dJ6_numberOfTrailingZeros_0f7a4_67 1 rfl (by decide) (by decide) [(1, zi (x_1 + 2)), (0, zi x_0)] rfl ?_
      refine s_iload_n X dJ6_numberOfTrailingZeros_0f7a4_70 1 rfl ?_
      refine s_iconst X 2 dJ6_numberOfTrailingZeros_0f7a4_71 (by decide) ?_
      refine s_iushr X dJ6_numberOfTrailingZeros_0f7a4_72 ?_
      refine s_let (fun x10 => ?_)
      refine s_istore_n X dJ6_numberOfTrailingZeros_0f7a4_73 (by decide) [(0, zi x10), (1, zi (x_1 + 2))] rfl ?_
      exact J74 x10 (x_1 + 2) _
  have J49 : ∀ (x_0 : Int32) (x_1 : Int32) (M : zM), z_S p l e R s0 m args below meth c (z_Qm E below args s0 M0 z_ri fin) E 2 M0 fin M 49 [(0, zi x_0), (1, zi x_1)] [] (F_J6_numberOfTrailingZeros_0f7a4_49 x_0 x_1) := by
    intro x_0 x_1 M
    refine s_iload_n X dJ6_numberOfTrailingZeros_0f7a4_49 0 rfl ?_
    refine s_bipush X 16 dJ6_numberOfTrailingZeros_0f7a4_50 (by decide) ?_
    refine s_icmp_le X 62 dJ6_numberOfTrailingZeros_0f7a4_52 (by decide) (fun h7 => ?_) (fun h7 => ?_)
    · exact J62 x_0 x_1 _
    · refine s_iinc X 4 dJ6_numberOfTrailingZeros_0f7a4_55 1 rfl (by decide) (by decide) [(1, zi (x_1 + 4)), (0, zi x_0)] rfl ?_
      refine s_iload_n X dJ6_numberOfTrailingZeros_0f7a4_58 1 rfl ?_
      refine s_iconst X 4 dJ6_numberOfTrailingZeros_0f7a4_59 (by decide) ?_
      refine s_iushr X dJ6_numberOfTrailingZeros_0f7a4_60 ?_
      refine s_let (fun x8 => ?_)
      refine s_istore_n X dJ6_numberOfTrailingZeros_0f7a4_61 (by decide) [(0, zi x8), (1, zi (x_1 + 4))] rfl ?_
      exact J62 x8 (x_1 + 4) _
  have J34 : ∀ (x_0 : Int32) (x_1 : Int32) (M : zM), z_S p l e R s0 m args below meth c (z_Qm E below args s0 M0 z_ri fin) E 2 M0 fin M 34 [(0, zi x_0), (1, zi x_1)] [] (F_J6_numberOfTrailingZeros_0f7a4_34 x_0 x_1) := by
    intro x_0 x_1 M
    refine s_iload_n X dJ6_numberOfTrailingZeros_0f7a4_34 0 rfl ?_
    refine s_sipush X 256 dJ6_numberOfTrailingZeros_0f7a4_35 (by decide) ?_
    refine s_icmp_le X 49 dJ6_numberOfTrailingZeros_0f7a4_38 (by decide) (fun h5 => ?_) (fun h5 => ?_)
    · exact J49 x_0 x_1 _
    · refine s_iinc X 8 dJ6_numberOfTrailingZeros_0f7a4_41 1 rfl (by decide) (by decide) [(1, zi (x_1 + 8)), (0, zi x_0)] rfl ?_
      refine s_iload_n X dJ6_numberOfTrailingZeros_0f7a4_44 1 rfl ?_
      refine s_bipush X 8 dJ6_numberOfTrailingZeros_0f7a4_45 (by decide) ?_
      refine s_iushr X dJ6_numberOfTrailingZeros_0f7a4_47 ?_
      refine s_let (fun x6 => ?_)
      refine s_istore_n X dJ6_numberOfTrailingZeros_0f7a4_48 (by decide) [(0, zi x6), (1, zi (x_1 + 8))] rfl ?_
      exact J49 x6 (x_1 + 8) _
  refine s_iload_n X dJ6_numberOfTrailingZeros_0f7a4_0 0 rfl ?_
  refine s_iconst X (-1) dJ6_numberOfTrailingZeros_0f7a4_1 (by decide) ?_
  refine s_ixor X dJ6_numberOfTrailingZeros_0f7a4_2 ?_
  refine s_iload_n X dJ6_numberOfTrailingZeros_0f7a4_3 0 rfl ?_
  refine s_iconst X 1 dJ6_numberOfTrailingZeros_0f7a4_4 (by decide) ?_
  refine s_isub X dJ6_numberOfTrailingZeros_0f7a4_5 ?_
  refine s_iand X dJ6_numberOfTrailingZeros_0f7a4_6 ?_
  refine s_let (fun x1 => ?_)
  refine s_istore_n X dJ6_numberOfTrailingZeros_0f7a4_7 (by decide) [(0, zi x1)] rfl ?_
  refine s_iload_n X dJ6_numberOfTrailingZeros_0f7a4_8 0 rfl ?_
  refine s_if_gt X 17 dJ6_numberOfTrailingZeros_0f7a4_9 (by decide) (fun h2 => ?_) (fun h2 => ?_)
  · refine s_iconst X 1 dJ6_numberOfTrailingZeros_0f7a4_17 (by decide) ?_
    refine s_istore_n X dJ6_numberOfTrailingZeros_0f7a4_18 (by decide) [(1, zi (1)), (0, zi x1)] rfl ?_
    refine s_iload_n X dJ6_numberOfTrailingZeros_0f7a4_19 1 rfl ?_
    refine s_ldcw X 65536 dJ6_numberOfTrailingZeros_0f7a4_20 (by decide +kernel) ?_
    refine s_icmp_le X 34 dJ6_numberOfTrailingZeros_0f7a4_23 (by decide) (fun h3 => ?_) (fun h3 => ?_)
    · refine s_lv [(0, zi x1), (1, zi (1))] [1, 0] rfl ?_
      exact J34 x1 1 _
    · refine s_iinc X 16 dJ6_numberOfTrailingZeros_0f7a4_26 0 rfl (by decide) (by decide) [(1, zi (1 + 16)), (0, zi x1)] rfl ?_
      refine s_iload_n X dJ6_numberOfTrailingZeros_0f7a4_29 1 rfl ?_
      refine s_bipush X 16 dJ6_numberOfTrailingZeros_0f7a4_30 (by decide) ?_
      refine s_iushr X dJ6_numberOfTrailingZeros_0f7a4_32 ?_
      refine s_let (fun x4 => ?_)
      refine s_istore_n X dJ6_numberOfTrailingZeros_0f7a4_33 (by decide) [(0, zi x4), (1, zi (1 + 16))] rfl ?_
      exact J34 x4 (1 + 16) _
  · refine s_iload_n X dJ6_numberOfTrailingZeros_0f7a4_12 0 rfl ?_
    refine s_bipush X 32 dJ6_numberOfTrailingZeros_0f7a4_13 (by decide) ?_
    refine s_iand X dJ6_numberOfTrailingZeros_0f7a4_15 ?_
    exact s_ret X hr dJ6_numberOfTrailingZeros_0f7a4_16
theorem hy_X10_isLabel : yX10_isLabel.cls ≠ "java/lang/invoke/MethodHandle" ∧ yX10_isLabel.cls ≠ "java/lang/invoke/VarHandle" ∧ (parseMethodDescriptor yX10_isLabel.desc).map (fun d => d.parameters.length) = some 1 := by decide +kernel
set_option maxHeartbeats 4000000 in
set_option maxRecDepth 100000 in
theorem c_X10_isLabel (l : Launch) (E : zE) (p0 : Int32) : z_Met l E yX10_isLabel wsX10_isLabel 0 0 [zi p0] z_ri (F_X10_isLabel p0) := by
  refine z_of (own := RX10) (cc := cX10_isLabel) (maxL := 1) (rt := (some .boolean)) rfl (by decide) rfl (Nat.le_of_ble_eq_true rfl) ?_
  intro p e R s0 m args below meth c M0 fin X hr hnm
  have J15 : ∀ (s_0 : Int32) (M : zM), z_S p l e R s0 m args below meth c (z_Qm E below args s0 M0 z_ri fin) E 1 M0 fin M 15 [] [zi s_0] (F_X10_isLabel_15 s_0) := by
    intro s_0 M
    exact s_retb X hr dX10_isLabel_15
  have J14 : ∀ (M : zM), z_S p l e R s0 m args below meth c (z_Qm E below args s0 M0 z_ri fin) E 1 M0 fin M 14 [] [] (F_X10_isLabel_14) := by
    intro M
    refine s_iconst X 0 dX10_isLabel_14 (by decide) ?_
    exact J15 0 _
  refine s_iload_n X dX10_isLabel_0 0 rfl ?_
  refine s_if_lt X 14 dX10_isLabel_1 (by decide) (fun h1 => ?_) (fun h1 => ?_)
  · refine s_lv [] [] rfl ?_
    exact J14 _
  · refine s_iload_n X dX10_isLabel_4 0 rfl ?_
    refine s_bipush X 8 dX10_isLabel_5 (by decide) ?_
    refine s_icmp_ge X 14 dX10_isLabel_7 (by decide) (fun h2 => ?_) (fun h2 => ?_)
    · refine s_lv [] [] rfl ?_
      exact J14 _
    · refine s_iconst X 1 dX10_isLabel_10 (by decide) ?_
      refine s_goto X 15 dX10_isLabel_11 (by decide) ?_
      refine s_lv [] [] rfl ?_
      exact J15 1 _
theorem hy_X10_isNode : yX10_isNode.cls ≠ "java/lang/invoke/MethodHandle" ∧ yX10_isNode.cls ≠ "java/lang/invoke/VarHandle" ∧ (parseMethodDescriptor yX10_isNode.desc).map (fun d => d.parameters.length) = some 1 := by decide +kernel
set_option maxHeartbeats 4000000 in
set_option maxRecDepth 100000 in
theorem c_X10_isNode (l : Launch) (E : zE) (p0 : Int32) : z_Met l E yX10_isNode wsX10_isNode 0 0 [zi p0] z_ri (F_X10_isNode p0) := by
  refine z_of (own := RX10) (cc := cX10_isNode) (maxL := 1) (rt := (some .boolean)) rfl (by decide) rfl (Nat.le_of_ble_eq_true rfl) ?_
  intro p e R s0 m args below meth c M0 fin X hr hnm
  have J15 : ∀ (s_0 : Int32) (M : zM), z_S p l e R s0 m args below meth c (z_Qm E below args s0 M0 z_ri fin) E 1 M0 fin M 15 [] [zi s_0] (F_X10_isNode_15 s_0) := by
    intro s_0 M
    exact s_retb X hr dX10_isNode_15
  have J14 : ∀ (M : zM), z_S p l e R s0 m args below meth c (z_Qm E below args s0 M0 z_ri fin) E 1 M0 fin M 14 [] [] (F_X10_isNode_14) := by
    intro M
    refine s_iconst X 0 dX10_isNode_14 (by decide) ?_
    exact J15 0 _
  refine s_iload_n X dX10_isNode_0 0 rfl ?_
  refine s_if_lt X 14 dX10_isNode_1 (by decide) (fun h1 => ?_) (fun h1 => ?_)
  · refine s_lv [] [] rfl ?_
    exact J14 _
  · refine s_iload_n X dX10_isNode_4 0 rfl ?_
    refine s_bipush X 16 dX10_isNode_5 (by decide) ?_
    refine s_icmp_ge X 14 dX10_isNode_7 (by decide) (fun h2 => ?_) (fun h2 => ?_)
    · refine s_lv [] [] rfl ?_
      exact J14 _
    · refine s_iconst X 1 dX10_isNode_10 (by decide) ?_
      refine s_goto X 15 dX10_isNode_11 (by decide) ?_
      refine s_lv [] [] rfl ?_
      exact J15 1 _
theorem hy_X0_key : yX0_key.cls = RX0 ∧ yX0_key.cls ≠ "java/lang/invoke/MethodHandle" ∧ yX0_key.cls ≠ "java/lang/invoke/VarHandle" ∧ (parseMethodDescriptor yX0_key.desc).map (fun d => d.parameters.length) = some 2 := by decide +kernel
set_option maxHeartbeats 4000000 in
set_option maxRecDepth 100000 in
theorem c_X0_key (l : Launch) (E : zE) (a0 : Nat) (p0 : Int32) (p1 : Int32) : z_Met l E yX0_key wsX0_key 0 0 [za ((some a0)), zi p0, zi p1] z_ri (F_X0_key a0 p0 p1) := by
  refine z_of (own := RX0) (cc := cX0_key) (maxL := 3) (rt := (some .int)) rfl (by decide) rfl (Nat.le_of_ble_eq_true rfl) ?_
  intro p e R s0 m args below meth c M0 fin X hr hnm
  have hiX0 : ∀ w ∈ u_ws RX0 TX0 2, w ∈ wsX0_key := by decide +kernel
  have hl9 : Cond.fieldLink RX0 9 (TX0 0).1 (TX0 0).2.1 (TX0 0).2.2.1 ∈ wsX0_key := by decide +kernel
  refine s_aload_n X dX0_key_0 0 rfl ?_
  refine s_ga X (C := RX0) (T := TX0) (N := 2) rfl (by decide) hiX0 hl9 dX0_key_1 (fun r1 => ?_)
  refine s_iload_n X dX0_key_4 1 rfl ?_
  refine s_iconst X 4 dX0_key_5 (by decide) ?_
  refine s_imul X dX0_key_6 ?_
  refine s_iload_n X dX0_key_7 2 rfl ?_
  refine s_iadd X dX0_key_8 ?_
  refine s_li X dX0_key_9 (fun x2 => ?_)
  exact s_ret X hr dX0_key_10
theorem hy_X0_indexOf : yX0_indexOf.cls = RX0 ∧ yX0_indexOf.cls ≠ "java/lang/invoke/MethodHandle" ∧ yX0_indexOf.cls ≠ "java/lang/invoke/VarHandle" ∧ (parseMethodDescriptor yX0_indexOf.desc).map (fun d => d.parameters.length) = some 2 := by decide +kernel
set_option maxHeartbeats 4000000 in
set_option maxRecDepth 100000 in
theorem c_X0_indexOf (l : Launch) (E : zE) (a0 : Nat) (p0 : Int32) (p1 : Int32) : z_Met l E yX0_indexOf wsX0_indexOf 1 22 [za ((some a0)), zi p0, zi p1] z_ri (F_X0_indexOf a0 p0 p1) := by
  refine z_of (own := RX0) (cc := cX0_indexOf) (maxL := 4) (rt := (some .int)) rfl (by decide) rfl (Nat.le_of_ble_eq_true rfl) ?_
  intro p e R s0 m args below meth c M0 fin X hr hnm
  have hiX0 : ∀ w ∈ u_ws RX0 TX0 2, w ∈ wsX0_indexOf := by decide +kernel
  have hl15 : Cond.fieldLink RX0 15 (TX0 1).1 (TX0 1).2.1 (TX0 1).2.2.1 ∈ wsX0_indexOf := by decide +kernel
  have L2 : ∀ (n : Nat) (s : Int32 × Int32 × Int32) (M : zM), z_S p l e R s0 m args below meth c (z_Qm E below args s0 M0 z_ri fin) E 4 M0 fin M 2 [(0, za (some a0)), (1, zi s.1), (2, zi s.2.1), (3, zi s.2.2)] [] (F_X0_indexOf_2 a0 n s) := by
    refine s_fix ?_
    intro ih2_ hih2
    rintro ⟨x_1, x_2, x_3⟩ M
    refine s_iload_n X dX0_indexOf_2 3 rfl ?_
    refine s_aload_n X dX0_indexOf_3 0 rfl ?_
    refine s_ga X (C := RX0) (T := TX0) (N := 2) rfl (by decide) hiX0 hl15 dX0_indexOf_4 (fun r1 => ?_)
    refine s_iload_n X dX0_indexOf_7 1 rfl ?_
    refine s_li X dX0_indexOf_8 (fun x2 => ?_)
    refine s_icmp_ge X 30 dX0_indexOf_9 (by decide) (fun h3 => ?_) (fun h3 => ?_)
    · refine s_iconst X (-1) dX0_indexOf_30 (by decide) ?_
      exact s_ret X hr dX0_indexOf_31
    · refine s_aload_n X dX0_indexOf_12 0 rfl ?_
      refine s_iload_n X dX0_indexOf_13 1 rfl ?_
      refine s_iload_n X dX0_indexOf_14 3 rfl ?_
      refine s_callV (ci := 1) (C := RX0) (As := [zi x_1, zi x_3]) (st := []) X (fun a => c_X0_key l E a x_1 x_3) gX0_indexOf_X0_key rfl hy_X0_key rfl rfl rfl rfl (Nat.le_of_ble_eq_true rfl) (by decide) dX0_indexOf_15 (fun x4 M => ?_)
      refine s_iload_n X dX0_indexOf_18 2 rfl ?_
      refine s_icmp_ne X 24 dX0_indexOf_19 (by decide) (fun h6 => ?_) (fun h6 => ?_)
      · refine s_iinc X 1 dX0_indexOf_24 3 rfl (by decide) (by decide) [(3, zi (x_3 + 1)), (0, za ((some a0))), (1, zi x_1), (2, zi x_2)] rfl ?_
        refine s_goto X 2 dX0_indexOf_27 (by decide) ?_
        refine s_lv [(0, za ((some a0))), (1, zi x_1), (2, zi x_2), (3, zi (x_3 + 1))] [1, 2, 3, 0] rfl ?_
        exact hih2 (x_1, x_2, x_3 + 1) _
      · refine s_iload_n X dX0_indexOf_22 3 rfl ?_
        exact s_ret X hr dX0_indexOf_23
  refine s_iconst X 0 dX0_indexOf_0 (by decide) ?_
  refine s_istore_n X dX0_indexOf_1 (by decide) [(3, zi (0)), (0, za ((some a0))), (1, zi p0), (2, zi p1)] rfl ?_
  refine s_lv [(0, za ((some a0))), (1, zi p0), (2, zi p1), (3, zi (0))] [1, 2, 3, 0] rfl ?_
  exact L2 z_N (p0, p1, 0) _
theorem hy_X0_remove : yX0_remove.cls = RX0 ∧ yX0_remove.cls ≠ "java/lang/invoke/MethodHandle" ∧ yX0_remove.cls ≠ "java/lang/invoke/VarHandle" ∧ (parseMethodDescriptor yX0_remove.desc).map (fun d => d.parameters.length) = some 2 := by decide +kernel
set_option maxHeartbeats 4000000 in
set_option maxRecDepth 100000 in
theorem c_X0_remove (l : Launch) (E : zE) (a0 : Nat) (p0 : Int32) (p1 : Int32) : z_Met l E yX0_remove wsX0_remove 2 45 [za ((some a0)), zi p0, zi p1] z_rv (F_X0_remove a0 p0 p1) := by
  refine z_of (own := RX0) (cc := cX0_remove) (maxL := 6) (rt := none) rfl (by decide) rfl (Nat.le_of_ble_eq_true rfl) ?_
  intro p e R s0 m args below meth c M0 fin X hr hnm
  have hiX0 : ∀ w ∈ u_ws RX0 TX0 2, w ∈ wsX0_remove := by decide +kernel
  have hl15 : Cond.fieldLink RX0 15 (TX0 1).1 (TX0 1).2.1 (TX0 1).2.2.1 ∈ wsX0_remove := by decide +kernel
  have hl9 : Cond.fieldLink RX0 9 (TX0 0).1 (TX0 0).2.1 (TX0 0).2.2.1 ∈ wsX0_remove := by decide +kernel
  have L20 : ∀ (n : Nat) (s : Int32 × Int32 × Int32) (M : zM), z_S p l e R s0 m args below meth c (z_Qm E below args s0 M0 z_rv fin) E 6 M0 fin M 20 [(0, za (some a0)), (1, zi s.1), (4, zi s.2.1), (5, zi s.2.2)] [] (F_X0_remove_20 a0 n s) := by
    refine s_fix ?_
    intro ih20_ hih20
    rintro ⟨x_1, x_4, x_5⟩ M
    refine s_iload X dX0_remove_20 3 rfl ?_
    refine s_iconst X 1 dX0_remove_22 (by decide) ?_
    refine s_iadd X dX0_remove_23 ?_
    refine s_aload_n X dX0_remove_24 0 rfl ?_
    refine s_ga X (C := RX0) (T := TX0) (N := 2) rfl (by decide) hiX0 hl15 dX0_remove_25 (fun r5 => ?_)
    refine s_iload_n X dX0_remove_28 1 rfl ?_
    refine s_li X dX0_remove_29 (fun x6 => ?_)
    refine s_icmp_ge X 61 dX0_remove_30 (by decide) (fun h7 => ?_) (fun h7 => ?_)
    · refine s_aload_n X dX0_remove_61 0 rfl ?_
      refine s_ga X (C := RX0) (T := TX0) (N := 2) rfl (by decide) hiX0 hl15 dX0_remove_62 (fun r8 => ?_)
      refine s_iload_n X dX0_remove_65 1 rfl ?_
      refine s_dup2 X dX0_remove_66 rfl rfl ?_
      refine s_li X dX0_remove_67 (fun x9 => ?_)
      refine s_iconst X 1 dX0_remove_68 (by decide) ?_
      refine s_isub X dX0_remove_69 ?_
      refine s_si X dX0_remove_70 (fun M => ?_)
      exact s_retv X hr dX0_remove_71
    · refine s_aload_n X dX0_remove_33 0 rfl ?_
      refine s_ga X (C := RX0) (T := TX0) (N := 2) rfl (by decide) hiX0 hl9 dX0_remove_34 (fun r10 => ?_)
      refine s_iload X dX0_remove_37 2 rfl ?_
      refine s_iload X dX0_remove_39 3 rfl ?_
      refine s_iadd X dX0_remove_41 ?_
      refine s_aload_n X dX0_remove_42 0 rfl ?_
      refine s_ga X (C := RX0) (T := TX0) (N := 2) rfl (by decide) hiX0 hl9 dX0_remove_43 (fun r11 => ?_)
      refine s_iload X dX0_remove_46 2 rfl ?_
      refine s_iload X dX0_remove_48 3 rfl ?_
      refine s_iadd X dX0_remove_50 ?_
      refine s_iconst X 1 dX0_remove_51 (by decide) ?_
      refine s_iadd X dX0_remove_52 ?_
      refine s_li X dX0_remove_53 (fun x12 => ?_)
      refine s_si X dX0_remove_54 (fun M => ?_)
      refine s_iinc X 1 dX0_remove_55 3 rfl (by decide) (by decide) [(5, zi (x_5 + 1)), (0, za ((some a0))), (1, zi x_1), (4, zi x_4)] rfl ?_
      refine s_goto X 20 dX0_remove_58 (by decide) ?_
      refine s_lv [(0, za ((some a0))), (1, zi x_1), (4, zi x_4), (5, zi (x_5 + 1))] [1, 2, 3, 0] rfl ?_
      exact hih20 (x_1, x_4, x_5 + 1) _
  refine s_aload_n X dX0_remove_0 0 rfl ?_
  refine s_iload_n X dX0_remove_1 1 rfl ?_
  refine s_iload_n X dX0_remove_2 2 rfl ?_
  refine s_callV (ci := 1) (C := RX0) (As := [zi p0, zi p1]) (st := []) X (fun a => c_X0_indexOf l E a p0 p1) gX0_remove_X0_indexOf rfl hy_X0_indexOf rfl rfl rfl rfl (Nat.le_of_ble_eq_true rfl) (by decide) dX0_remove_3 (fun x1 M => ?_)
  refine s_istore_n X dX0_remove_6 (by decide) [(3, zi x1), (0, za ((some a0))), (1, zi p0), (2, zi p1)] rfl ?_
  refine s_iload_n X dX0_remove_7 0 rfl ?_
  refine s_if_ge X 12 dX0_remove_8 (by decide) (fun h3 => ?_) (fun h3 => ?_)
  · refine s_iload_n X dX0_remove_12 2 rfl ?_
    refine s_iconst X 4 dX0_remove_13 (by decide) ?_
    refine s_imul X dX0_remove_14 ?_
    refine s_let (fun x4 => ?_)
    refine s_istore X dX0_remove_15 (by decide) [(4, zi x4), (3, zi x1), (0, za ((some a0))), (1, zi p0), (2, zi p1)] rfl ?_
    refine s_iload_n X dX0_remove_17 1 rfl ?_
    refine s_istore X dX0_remove_18 (by decide) [(5, zi x1), (4, zi x4), (3, zi x1), (0, za ((some a0))), (1, zi p0), (2, zi p1)] rfl ?_
    refine s_lv [(0, za ((some a0))), (1, zi p0), (4, zi x4), (5, zi x1)] [3, 4, 1, 0] rfl ?_
    exact L20 z_N (p0, x4, x1) _
  · exact s_retv X hr dX0_remove_11
theorem hy_X5_keyOf : yX5_keyOf.cls ≠ "java/lang/invoke/MethodHandle" ∧ yX5_keyOf.cls ≠ "java/lang/invoke/VarHandle" ∧ (parseMethodDescriptor yX5_keyOf.desc).map (fun d => d.parameters.length) = some 2 := by decide +kernel
set_option maxHeartbeats 4000000 in
set_option maxRecDepth 100000 in
theorem c_X5_keyOf (l : Launch) (E : zE) (p0 : Int32) (p1 : Int32) : z_Met l E yX5_keyOf wsX5_keyOf 0 0 [zi p0, zi p1] z_ri (F_X5_keyOf p0 p1) := by
  refine z_of (own := RX5) (cc := cX5_keyOf) (maxL := 2) (rt := (some .int)) rfl (by decide) rfl (Nat.le_of_ble_eq_true rfl) ?_
  intro p e R s0 m args below meth c M0 fin X hr hnm
  refine s_iload_n X dX5_keyOf_0 0 rfl ?_
  refine s_bipush X 16 dX5_keyOf_1 (by decide) ?_
  refine s_imul X dX5_keyOf_3 ?_
  refine s_iload_n X dX5_keyOf_4 1 rfl ?_
  refine s_iadd X dX5_keyOf_5 ?_
  exact s_ret X hr dX5_keyOf_6
theorem hy_X5_drop : yX5_drop.cls = RX5 ∧ yX5_drop.cls ≠ "java/lang/invoke/MethodHandle" ∧ yX5_drop.cls ≠ "java/lang/invoke/VarHandle" ∧ (parseMethodDescriptor yX5_drop.desc).map (fun d => d.parameters.length) = some 3 := by decide +kernel
set_option maxHeartbeats 4000000 in
set_option maxRecDepth 100000 in
theorem c_X5_drop (l : Launch) (E : zE) (a0 : Nat) (p0 : Int32) (p1 : Int32) (p2 : Int32) : z_Met l E yX5_drop wsX5_drop 3 70 [za ((some a0)), zi p0, zi p1, zi p2] z_ri (F_X5_drop a0 p0 p1 p2) := by
  refine z_of (own := RX5) (cc := cX5_drop) (maxL := 5) (rt := (some .int)) rfl (by decide) rfl (Nat.le_of_ble_eq_true rfl) ?_
  intro p e R s0 m args below meth c M0 fin X hr hnm
  have hiX5 : ∀ w ∈ u_ws RX5 TX5 3, w ∈ wsX5_drop := by decide +kernel
  have hl12 : Cond.fieldLink RX5 12 (TX5 0).1 (TX5 0).2.1 (TX5 0).2.2.1 ∈ wsX5_drop := by decide +kernel
  have hl18 : Cond.fieldLink RX5 18 (TX5 1).1 (TX5 1).2.1 (TX5 1).2.2.1 ∈ wsX5_drop := by decide +kernel
  have hl28 : Cond.fieldLink RX5 28 (TX5 2).1 (TX5 2).2.1 (TX5 2).2.2.1 ∈ wsX5_drop := by decide +kernel
  refine s_iload_n X dX5_drop_0 2 rfl ?_
  refine s_iload_n X dX5_drop_1 3 rfl ?_
  refine s_callS (As := [zi p1, zi p2]) (st := []) X (c_X5_keyOf l E p1 p2) gX5_drop_X5_keyOf rfl hy_X5_keyOf rfl rfl (Nat.le_of_ble_eq_true rfl) (by decide) dX5_drop_2 (fun x1 M => ?_)
  refine s_istore X dX5_drop_5 (by decide) [(4, zi x1), (0, za ((some a0))), (1, zi p0), (2, zi p1), (3, zi p2)] rfl ?_
  refine s_aload_n X dX5_drop_7 1 rfl ?_
  refine s_ga X (C := RX5) (T := TX5) (N := 3) rfl (by decide) hiX5 hl12 dX5_drop_8 (fun r2 => ?_)
  refine s_iload_n X dX5_drop_11 2 rfl ?_
  refine s_iload X dX5_drop_12 0 rfl ?_
  refine s_callV (ci := 1) (C := RX0) (As := [zi p0, zi x1]) (st := []) X (fun a => c_X0_indexOf l E a p0 x1) gX5_drop_X0_indexOf rfl hy_X0_indexOf rfl rfl rfl rfl (Nat.le_of_ble_eq_true rfl) (by decide) dX5_drop_14 (fun x3 M => ?_)
  refine s_if_ge X 22 dX5_drop_17 (by decide) (fun h5 => ?_) (fun h5 => ?_)
  · refine s_aload_n X dX5_drop_22 1 rfl ?_
    refine s_ga X (C := RX5) (T := TX5) (N := 3) rfl (by decide) hiX5 hl12 dX5_drop_23 (fun r6 => ?_)
    refine s_iload_n X dX5_drop_26 2 rfl ?_
    refine s_iload X dX5_drop_27 0 rfl ?_
    refine s_callV (ci := 1) (C := RX0) (As := [zi p0, zi x1]) (st := []) X (fun a => c_X0_remove l E a p0 x1) gX5_drop_X0_remove rfl hy_X0_remove rfl rfl rfl rfl (Nat.le_of_ble_eq_true rfl) (by decide) dX5_drop_29 (fun _ M => ?_)
    refine s_aload_n X dX5_drop_32 1 rfl ?_
    refine s_ga X (C := RX5) (T := TX5) (N := 3) rfl (by decide) hiX5 hl18 dX5_drop_33 (fun r8 => ?_)
    refine s_iload_n X dX5_drop_36 4 rfl ?_
    refine s_iload_n X dX5_drop_37 3 rfl ?_
    refine s_iload_n X dX5_drop_38 2 rfl ?_
    refine s_callS (As := [zi p1, zi p0]) (st := [zi p2, za r8]) X (c_X5_keyOf l E p1 p0) gX5_drop_X5_keyOf rfl hy_X5_keyOf rfl rfl (Nat.le_of_ble_eq_true rfl) (by decide) dX5_drop_39 (fun x9 M => ?_)
    refine s_callV (ci := 1) (C := RX0) (As := [zi p2, zi x9]) (st := []) X (fun a => c_X0_remove l E a p2 x9) gX5_drop_X0_remove rfl hy_X0_remove rfl rfl rfl rfl (Nat.le_of_ble_eq_true rfl) (by decide) dX5_drop_42 (fun _ M => ?_)
    refine s_aload_n X dX5_drop_45 1 rfl ?_
    refine s_dup X dX5_drop_46 rfl ?_
    refine s_gi X (C := RX5) (T := TX5) (N := 3) rfl (by decide) hiX5 hl28 dX5_drop_47 (fun x11 => ?_)
    refine s_iconst X 1 dX5_drop_50 (by decide) ?_
    refine s_isub X dX5_drop_51 ?_
    refine s_pf (x := zi (x11 - 1)) X (C := RX5) (T := TX5) (N := 3) rfl (by decide) hiX5 tyX5 tyX5_ok nmX5 hl28 (Or.inl rfl) rfl (fun E => ⟨rfl, rfl⟩) dX5_drop_52 (fun M => ?_)
    refine s_iconst X 1 dX5_drop_55 (by decide) ?_
    exact s_ret X hr dX5_drop_56
  · refine s_iconst X 0 dX5_drop_20 (by decide) ?_
    exact s_ret X hr dX5_drop_21
theorem hy_X0_isFull : yX0_isFull.cls = RX0 ∧ yX0_isFull.cls ≠ "java/lang/invoke/MethodHandle" ∧ yX0_isFull.cls ≠ "java/lang/invoke/VarHandle" ∧ (parseMethodDescriptor yX0_isFull.desc).map (fun d => d.parameters.length) = some 1 := by decide +kernel
set_option maxHeartbeats 4000000 in
set_option maxRecDepth 100000 in
theorem c_X0_isFull (l : Launch) (E : zE) (a0 : Nat) (p0 : Int32) : z_Met l E yX0_isFull wsX0_isFull 0 0 [za ((some a0)), zi p0] z_ri (F_X0_isFull a0 p0) := by
  refine z_of (own := RX0) (cc := cX0_isFull) (maxL := 2) (rt := (some .boolean)) rfl (by decide) rfl (Nat.le_of_ble_eq_true rfl) ?_
  intro p e R s0 m args below meth c M0 fin X hr hnm
  have hiX0 : ∀ w ∈ u_ws RX0 TX0 2, w ∈ wsX0_isFull := by decide +kernel
  have hl15 : Cond.fieldLink RX0 15 (TX0 1).1 (TX0 1).2.1 (TX0 1).2.2.1 ∈ wsX0_isFull := by decide +kernel
  have J15 : ∀ (s_0 : Int32) (M : zM), z_S p l e R s0 m args below meth c (z_Qm E below args s0 M0 z_ri fin) E 2 M0 fin M 15 [] [zi s_0] (F_X0_isFull_15 a0 s_0) := by
    intro s_0 M
    exact s_retb X hr dX0_isFull_15
  refine s_aload_n X dX0_isFull_0 0 rfl ?_
  refine s_ga X (C := RX0) (T := TX0) (N := 2) rfl (by decide) hiX0 hl15 dX0_isFull_1 (fun r1 => ?_)
  refine s_iload_n X dX0_isFull_4 1 rfl ?_
  refine s_li X dX0_isFull_5 (fun x2 => ?_)
  refine s_iconst X 4 dX0_isFull_6 (by decide) ?_
  refine s_icmp_lt X 14 dX0_isFull_7 (by decide) (fun h3 => ?_) (fun h3 => ?_)
  · refine s_iconst X 0 dX0_isFull_14 (by decide) ?_
    refine s_lv [] [] rfl ?_
    exact J15 0 _
  · refine s_iconst X 1 dX0_isFull_10 (by decide) ?_
    refine s_goto X 15 dX0_isFull_11 (by decide) ?_
    refine s_lv [] [] rfl ?_
    exact J15 1 _
theorem hy_X0_insert : yX0_insert.cls = RX0 ∧ yX0_insert.cls ≠ "java/lang/invoke/MethodHandle" ∧ yX0_insert.cls ≠ "java/lang/invoke/VarHandle" ∧ (parseMethodDescriptor yX0_insert.desc).map (fun d => d.parameters.length) = some 2 := by decide +kernel
set_option maxHeartbeats 4000000 in
set_option maxRecDepth 100000 in
theorem c_X0_insert (l : Launch) (E : zE) (a0 : Nat) (p0 : Int32) (p1 : Int32) : z_Met l E yX0_insert wsX0_insert 1 21 [za ((some a0)), zi p0, zi p1] z_rv (F_X0_insert a0 p0 p1) := by
  refine z_of (own := RX0) (cc := cX0_insert) (maxL := 5) (rt := none) rfl (by decide) rfl (Nat.le_of_ble_eq_true rfl) ?_
  intro p e R s0 m args below meth c M0 fin X hr hnm
  have hiX0 : ∀ w ∈ u_ws RX0 TX0 2, w ∈ wsX0_insert := by decide +kernel
  have hl15 : Cond.fieldLink RX0 15 (TX0 1).1 (TX0 1).2.1 (TX0 1).2.2.1 ∈ wsX0_insert := by decide +kernel
  have hl9 : Cond.fieldLink RX0 9 (TX0 0).1 (TX0 0).2.1 (TX0 0).2.2.1 ∈ wsX0_insert := by decide +kernel
  have J64 : ∀ (x_1 : Int32) (x_2 : Int32) (x_4 : Int32) (M : zM), z_S p l e R s0 m args below meth c (z_Qm E below args s0 M0 z_rv fin) E 5 M0 fin M 64 [(0, za ((some a0))), (1, zi x_1), (2, zi x_2), (4, zi x_4)] [] (F_X0_insert_64 a0 x_1 x_2 x_4) := by
    intro x_1 x_2 x_4 M
    refine s_aload_n X dX0_insert_64 0 rfl ?_
    refine s_ga X (C := RX0) (T := TX0) (N := 2) rfl (by decide) hiX0 hl9 dX0_insert_65 (fun r15 => ?_)
    refine s_iload X dX0_insert_68 3 rfl ?_
    refine s_iload_n X dX0_insert_70 2 rfl ?_
    refine s_si X dX0_insert_71 (fun M => ?_)
    refine s_aload_n X dX0_insert_72 0 rfl ?_
    refine s_ga X (C := RX0) (T := TX0) (N := 2) rfl (by decide) hiX0 hl15 dX0_insert_73 (fun r16 => ?_)
    refine s_iload_n X dX0_insert_76 1 rfl ?_
    refine s_dup2 X dX0_insert_77 rfl rfl ?_
    refine s_li X dX0_insert_78 (fun x17 => ?_)
    refine s_iconst X 1 dX0_insert_79 (by decide) ?_
    refine s_iadd X dX0_insert_80 ?_
    refine s_si X dX0_insert_81 (fun M => ?_)
    exact s_retv X hr dX0_insert_82
  have L23 : ∀ (n : Nat) (s : Int32 × Int32 × Int32 × Int32) (M : zM), z_S p l e R s0 m args below meth c (z_Qm E below args s0 M0 z_rv fin) E 5 M0 fin M 23 [(0, za (some a0)), (1, zi s.1), (2, zi s.2.1), (3, zi s.2.2.1), (4, zi s.2.2.2)] [] (F_X0_insert_23 a0 n s) := by
    refine s_fix ?_
    intro ih23_ hih23
    rintro ⟨x_1, x_2, x_3, x_4⟩ M
    refine s_iload X dX0_insert_23 4 rfl ?_
    refine s_iload_n X dX0_insert_25 3 rfl ?_
    refine s_icmp_le X 64 dX0_insert_26 (by decide) (fun h8 => ?_) (fun h8 => ?_)
    · refine s_lv [(0, za ((some a0))), (1, zi x_1), (2, zi x_2), (4, zi x_4)] [0, 1, 2, 4] rfl ?_
      exact J64 x_1 x_2 x_4 _
    · refine s_aload_n X dX0_insert_29 0 rfl ?_
      refine s_ga X (C := RX0) (T := TX0) (N := 2) rfl (by decide) hiX0 hl9 dX0_insert_30 (fun r9 => ?_)
      refine s_iload X dX0_insert_33 4 rfl ?_
      refine s_iconst X 1 dX0_insert_35 (by decide) ?_
      refine s_isub X dX0_insert_36 ?_
      refine s_li X dX0_insert_37 (fun x10 => ?_)
      refine s_iload_n X dX0_insert_38 2 rfl ?_
      refine s_icmp_le X 64 dX0_insert_39 (by decide) (fun h11 => ?_) (fun h11 => ?_)
      · refine s_lv [(0, za ((some a0))), (1, zi x_1), (2, zi x_2), (4, zi x_4)] [0, 1, 2, 4] rfl ?_
        exact J64 x_1 x_2 x_4 _
      · refine s_aload_n X dX0_insert_42 0 rfl ?_
        refine s_ga X (C := RX0) (T := TX0) (N := 2) rfl (by decide) hiX0 hl9 dX0_insert_43 (fun r12 => ?_)
        refine s_iload X dX0_insert_46 4 rfl ?_
        refine s_aload_n X dX0_insert_48 0 rfl ?_
        refine s_ga X (C := RX0) (T := TX0) (N := 2) rfl (by decide) hiX0 hl9 dX0_insert_49 (fun r13 => ?_)
        refine s_iload X dX0_insert_52 4 rfl ?_
        refine s_iconst X 1 dX0_insert_54 (by decide) ?_
        refine s_isub X dX0_insert_55 ?_
        refine s_li X dX0_insert_56 (fun x14 => ?_)
        refine s_si X dX0_insert_57 (fun M => ?_)
        refine s_iinc X (-1) dX0_insert_58 4 rfl (by decide) (by decide) [(4, zi (x_4 + (-1))), (0, za ((some a0))), (1, zi x_1), (2, zi x_2), (3, zi x_3)] rfl ?_
        refine s_goto X 23 dX0_insert_61 (by decide) ?_
        refine s_lv [(0, za ((some a0))), (1, zi x_1), (2, zi x_2), (3, zi x_3), (4, zi (x_4 + (-1)))] [1, 2, 3, 4, 0] rfl ?_
        exact hih23 (x_1, x_2, x_3, x_4 + (-1)) _
  refine s_aload_n X dX0_insert_0 0 rfl ?_
  refine s_iload_n X dX0_insert_1 1 rfl ?_
  refine s_callV (ci := 1) (C := RX0) (As := [zi p0]) (st := []) X (fun a => c_X0_isFull l E a p0) gX0_insert_X0_isFull rfl hy_X0_isFull rfl rfl rfl rfl (Nat.le_of_ble_eq_true rfl) (by decide) dX0_insert_2 (fun x1 M => ?_)
  refine s_if_eq X 9 dX0_insert_5 (by decide) (fun h3 => ?_) (fun h3 => ?_)
  · refine s_iload_n X dX0_insert_9 1 rfl ?_
    refine s_iconst X 4 dX0_insert_10 (by decide) ?_
    refine s_imul X dX0_insert_11 ?_
    refine s_let (fun x4 => ?_)
    refine s_istore_n X dX0_insert_12 (by decide) [(3, zi x4), (0, za ((some a0))), (1, zi p0), (2, zi p1)] rfl ?_
    refine s_iload_n X dX0_insert_13 0 rfl ?_
    refine s_aload_n X dX0_insert_14 1 rfl ?_
    refine s_ga X (C := RX0) (T := TX0) (N := 2) rfl (by decide) hiX0 hl15 dX0_insert_15 (fun r5 => ?_)
    refine s_iload_n X dX0_insert_18 2 rfl ?_
    refine s_li X dX0_insert_19 (fun x6 => ?_)
    refine s_iadd X dX0_insert_20 ?_
    refine s_let (fun x7 => ?_)
    refine s_istore X dX0_insert_21 (by decide) [(4, zi x7), (3, zi x4), (0, za ((some a0))), (1, zi p0), (2, zi p1)] rfl ?_
    refine s_lv [(0, za ((some a0))), (1, zi p0), (2, zi p1), (3, zi x4), (4, zi x7)] [2, 3, 4, 1, 0] rfl ?_
    exact L23 z_N (p0, p1, x4, x7) _
  · exact s_retv X hr dX0_insert_8
theorem hy_X5_put : yX5_put.cls = RX5 ∧ yX5_put.cls ≠ "java/lang/invoke/MethodHandle" ∧ yX5_put.cls ≠ "java/lang/invoke/VarHandle" ∧ (parseMethodDescriptor yX5_put.desc).map (fun d => d.parameters.length) = some 3 := by decide +kernel
set_option maxHeartbeats 4000000 in
set_option maxRecDepth 100000 in
theorem c_X5_put (l : Launch) (E : zE) (a0 : Nat) (p0 : Int32) (p1 : Int32) (p2 : Int32) : z_Met l E yX5_put wsX5_put 2 45 [za ((some a0)), zi p0, zi p1, zi p2] z_ri (F_X5_put a0 p0 p1 p2) := by
  refine z_of (own := RX5) (cc := cX5_put) (maxL := 5) (rt := (some .int)) rfl (by decide) rfl (Nat.le_of_ble_eq_true rfl) ?_
  intro p e R s0 m args below meth c M0 fin X hr hnm
  have hiX5 : ∀ w ∈ u_ws RX5 TX5 3, w ∈ wsX5_put := by decide +kernel
  have hl12 : Cond.fieldLink RX5 12 (TX5 0).1 (TX5 0).2.1 (TX5 0).2.2.1 ∈ wsX5_put := by decide +kernel
  have hl28 : Cond.fieldLink RX5 28 (TX5 2).1 (TX5 2).2.1 (TX5 2).2.2.1 ∈ wsX5_put := by decide +kernel
  have hl18 : Cond.fieldLink RX5 18 (TX5 1).1 (TX5 1).2.1 (TX5 1).2.2.1 ∈ wsX5_put := by decide +kernel
  have J53 : ∀ (M : zM), z_S p l e R s0 m args below meth c (z_Qm E below args s0 M0 z_ri fin) E 5 M0 fin M 53 [] [] (F_X5_put_53 a0) := by
    intro M
    refine s_bipush X (-2) dX5_put_53 (by decide) ?_
    exact s_ret X hr dX5_put_55
  refine s_iload_n X dX5_put_0 2 rfl ?_
  refine s_iload_n X dX5_put_1 3 rfl ?_
  refine s_callS (As := [zi p1, zi p2]) (st := []) X (c_X5_keyOf l E p1 p2) gX5_put_X5_keyOf rfl hy_X5_keyOf rfl rfl (Nat.le_of_ble_eq_true rfl) (by decide) dX5_put_2 (fun x1 M => ?_)
  refine s_istore X dX5_put_5 (by decide) [(4, zi x1), (0, za ((some a0))), (1, zi p0), (2, zi p1), (3, zi p2)] rfl ?_
  refine s_aload_n X dX5_put_7 1 rfl ?_
  refine s_ga X (C := RX5) (T := TX5) (N := 3) rfl (by decide) hiX5 hl12 dX5_put_8 (fun r2 => ?_)
  refine s_iload_n X dX5_put_11 2 rfl ?_
  refine s_iload X dX5_put_12 0 rfl ?_
  refine s_callV (ci := 1) (C := RX0) (As := [zi p0, zi x1]) (st := []) X (fun a => c_X0_indexOf l E a p0 x1) gX5_put_X0_indexOf rfl hy_X0_indexOf rfl rfl rfl rfl (Nat.le_of_ble_eq_true rfl) (by decide) dX5_put_14 (fun x3 M => ?_)
  refine s_if_lt X 22 dX5_put_17 (by decide) (fun h5 => ?_) (fun h5 => ?_)
  · refine s_aload_n X dX5_put_22 1 rfl ?_
    refine s_gi X (C := RX5) (T := TX5) (N := 3) rfl (by decide) hiX5 hl28 dX5_put_23 (fun x6 => ?_)
    refine s_bipush X 60 dX5_put_26 (by decide) ?_
    refine s_icmp_ge X 53 dX5_put_28 (by decide) (fun h7 => ?_) (fun h7 => ?_)
    · refine s_lv [] [] rfl ?_
      exact J53 _
    · refine s_aload_n X dX5_put_31 1 rfl ?_
      refine s_ga X (C := RX5) (T := TX5) (N := 3) rfl (by decide) hiX5 hl12 dX5_put_32 (fun r8 => ?_)
      refine s_iload_n X dX5_put_35 2 rfl ?_
      refine s_callV (ci := 1) (C := RX0) (As := [zi p0]) (st := []) X (fun a => c_X0_isFull l E a p0) gX5_put_X0_isFull rfl hy_X0_isFull rfl rfl rfl rfl (Nat.le_of_ble_eq_true rfl) (by decide) dX5_put_36 (fun x9 M => ?_)
      refine s_if_ne X 53 dX5_put_39 (by decide) (fun h11 => ?_) (fun h11 => ?_)
      · refine s_lv [] [] rfl ?_
        exact J53 _
      · refine s_aload_n X dX5_put_42 1 rfl ?_
        refine s_ga X (C := RX5) (T := TX5) (N := 3) rfl (by decide) hiX5 hl18 dX5_put_43 (fun r12 => ?_)
        refine s_iload_n X dX5_put_46 4 rfl ?_
        refine s_callV (ci := 1) (C := RX0) (As := [zi p2]) (st := []) X (fun a => c_X0_isFull l E a p2) gX5_put_X0_isFull rfl hy_X0_isFull rfl rfl rfl rfl (Nat.le_of_ble_eq_true rfl) (by decide) dX5_put_47 (fun x13 M => ?_)
        refine s_if_eq X 56 dX5_put_50 (by decide) (fun h15 => ?_) (fun h15 => ?_)
        · refine s_aload_n X dX5_put_56 1 rfl ?_
          refine s_ga X (C := RX5) (T := TX5) (N := 3) rfl (by decide) hiX5 hl12 dX5_put_57 (fun r16 => ?_)
          refine s_iload_n X dX5_put_60 2 rfl ?_
          refine s_iload X dX5_put_61 0 rfl ?_
          refine s_callV (ci := 1) (C := RX0) (As := [zi p0, zi x1]) (st := []) X (fun a => c_X0_insert l E a p0 x1) gX5_put_X0_insert rfl hy_X0_insert rfl rfl rfl rfl (Nat.le_of_ble_eq_true rfl) (by decide) dX5_put_63 (fun _ M => ?_)
          refine s_aload_n X dX5_put_66 1 rfl ?_
          refine s_ga X (C := RX5) (T := TX5) (N := 3) rfl (by decide) hiX5 hl18 dX5_put_67 (fun r18 => ?_)
          refine s_iload_n X dX5_put_70 4 rfl ?_
          refine s_iload_n X dX5_put_71 3 rfl ?_
          refine s_iload_n X dX5_put_72 2 rfl ?_
          refine s_callS (As := [zi p1, zi p0]) (st := [zi p2, za r18]) X (c_X5_keyOf l E p1 p0) gX5_put_X5_keyOf rfl hy_X5_keyOf rfl rfl (Nat.le_of_ble_eq_true rfl) (by decide) dX5_put_73 (fun x19 M => ?_)
          refine s_callV (ci := 1) (C := RX0) (As := [zi p2, zi x19]) (st := []) X (fun a => c_X0_insert l E a p2 x19) gX5_put_X0_insert rfl hy_X0_insert rfl rfl rfl rfl (Nat.le_of_ble_eq_true rfl) (by decide) dX5_put_76 (fun _ M => ?_)
          refine s_aload_n X dX5_put_79 1 rfl ?_
          refine s_dup X dX5_put_80 rfl ?_
          refine s_gi X (C := RX5) (T := TX5) (N := 3) rfl (by decide) hiX5 hl28 dX5_put_81 (fun x21 => ?_)
          refine s_iconst X 1 dX5_put_84 (by decide) ?_
          refine s_iadd X dX5_put_85 ?_
          refine s_pf (x := zi (x21 + 1)) X (C := RX5) (T := TX5) (N := 3) rfl (by decide) hiX5 tyX5 tyX5_ok nmX5 hl28 (Or.inl rfl) rfl (fun E => ⟨rfl, rfl⟩) dX5_put_86 (fun M => ?_)
          refine s_iconst X 1 dX5_put_89 (by decide) ?_
          exact s_ret X hr dX5_put_90
        · refine s_lv [] [] rfl ?_
          exact J53 _
  · refine s_iconst X 0 dX5_put_20 (by decide) ?_
    exact s_ret X hr dX5_put_21
theorem hy_X9_noteArcs : yX9_noteArcs.cls = RX9 ∧ yX9_noteArcs.cls ≠ "java/lang/invoke/MethodHandle" ∧ yX9_noteArcs.cls ≠ "java/lang/invoke/VarHandle" ∧ (parseMethodDescriptor yX9_noteArcs.desc).map (fun d => d.parameters.length) = some 0 := by decide +kernel
set_option maxHeartbeats 4000000 in
set_option maxRecDepth 100000 in
theorem c_X9_noteArcs (l : Launch) (E : zE) (a0 : Nat) : z_Met l E yX9_noteArcs wsX9_noteArcs 0 0 [za ((some a0))] z_rv (F_X9_noteArcs a0) := by
  refine z_of (own := RX9) (cc := cX9_noteArcs) (maxL := 1) (rt := none) rfl (by decide) rfl (Nat.le_of_ble_eq_true rfl) ?_
  intro p e R s0 m args below meth c M0 fin X hr hnm
  have hiX9 : ∀ w ∈ u_ws RX9 TX9 7, w ∈ wsX9_noteArcs := by decide +kernel
  have hl34 : Cond.fieldLink RX9 34 (TX9 6).1 (TX9 6).2.1 (TX9 6).2.2.1 ∈ wsX9_noteArcs := by decide +kernel
  refine s_aload_n X dX9_noteArcs_0 0 rfl ?_
  refine s_iconst X 1 dX9_noteArcs_1 (by decide) ?_
  refine s_pf (x := zi (1)) X (C := RX9) (T := TX9) (N := 7) rfl (by decide) hiX9 tyX9 tyX9_ok nmX9 hl34 (Or.inl rfl) rfl (fun E => ⟨rfl, rfl⟩) dX9_noteArcs_2 (fun M => ?_)
  exact s_retv X hr dX9_noteArcs_5
theorem hy_X10_arc : yX10_arc.cls = RX10 ∧ yX10_arc.cls ≠ "java/lang/invoke/MethodHandle" ∧ yX10_arc.cls ≠ "java/lang/invoke/VarHandle" ∧ (parseMethodDescriptor yX10_arc.desc).map (fun d => d.parameters.length) = some 4 := by decide +kernel
set_option maxHeartbeats 4000000 in
set_option maxRecDepth 100000 in
theorem c_X10_arc (l : Launch) (E : zE) (a0 : Nat) (p0 : Int32) (p1 : Int32) (p2 : Int32) (p3 : Int32) : z_Met l E yX10_arc wsX10_arc 4 94 [za ((some a0)), zi p0, zi p1, zi p2, zi p3] z_ri (F_X10_arc a0 p0 p1 p2 p3) := by
  refine z_of (own := RX10) (cc := cX10_arc) (maxL := 6) (rt := (some .int)) rfl (by decide) rfl (Nat.le_of_ble_eq_true rfl) ?_
  intro p e R s0 m args below meth c M0 fin X hr hnm
  have hiX10 : ∀ w ∈ u_ws RX10 TX10 5, w ∈ wsX10_arc := by decide +kernel
  have hl13 : Cond.fieldLink RX10 13 (TX10 0).1 (TX10 0).2.1 (TX10 0).2.2.1 ∈ wsX10_arc := by decide +kernel
  have hl49 : Cond.fieldLink RX10 49 (TX10 4).1 (TX10 4).2.1 (TX10 4).2.2.1 ∈ wsX10_arc := by decide +kernel
  have J66 : ∀ (x_5 : Int32) (M : zM), z_S p l e R s0 m args below meth c (z_Qm E below args s0 M0 z_ri fin) E 6 M0 fin M 66 [(5, zi x_5)] [] (F_X10_arc_66 a0 x_5) := by
    intro x_5 M
    refine s_iload X dX10_arc_66 0 rfl ?_
    exact s_ret X hr dX10_arc_68
  have J51 : ∀ (s_0 : Int32) (M : zM), z_S p l e R s0 m args below meth c (z_Qm E below args s0 M0 z_ri fin) E 6 M0 fin M 51 [(0, za ((some a0)))] [zi s_0] (F_X10_arc_51 a0 s_0) := by
    intro s_0 M
    refine s_istore X dX10_arc_51 (by decide) [(5, zi s_0), (0, za ((some a0)))] rfl ?_
    refine s_iload X dX10_arc_53 0 rfl ?_
    refine s_iconst X 1 dX10_arc_55 (by decide) ?_
    refine s_icmp_ne X 66 dX10_arc_56 (by decide) (fun h14 => ?_) (fun h14 => ?_)
    · refine s_lv [(5, zi s_0)] [0] rfl ?_
      exact J66 s_0 _
    · refine s_aload_n X dX10_arc_59 1 rfl ?_
      refine s_ga X (C := RX10) (T := TX10) (N := 5) rfl (by decide) hiX10 hl49 dX10_arc_60 (fun r15 => ?_)
      refine s_callV (ci := 9) (C := RX9) (As := []) (st := []) X (fun a => c_X9_noteArcs l E a) gX10_arc_X9_noteArcs rfl hy_X9_noteArcs rfl rfl rfl rfl (Nat.le_of_ble_eq_true rfl) (by decide) dX10_arc_63 (fun _ M => ?_)
      refine s_lv [(5, zi s_0)] [0] rfl ?_
      exact J66 s_0 _
  have J21 : ∀ (M : zM), z_S p l e R s0 m args below meth c (z_Qm E below args s0 M0 z_ri fin) E 6 M0 fin M 21 [] [] (F_X10_arc_21 a0) := by
    intro M
    refine s_iconst X (-1) dX10_arc_21 (by decide) ?_
    exact s_ret X hr dX10_arc_22
  refine s_iload_n X dX10_arc_0 1 rfl ?_
  refine s_callS (As := [zi p0]) (st := []) X (c_X10_isNode l E p0) gX10_arc_X10_isNode rfl hy_X10_isNode rfl rfl (Nat.le_of_ble_eq_true rfl) (by decide) dX10_arc_1 (fun x1 M => ?_)
  refine s_if_eq X 21 dX10_arc_4 (by decide) (fun h2 => ?_) (fun h2 => ?_)
  · refine s_lv [] [] rfl ?_
    exact J21 _
  · refine s_iload_n X dX10_arc_7 2 rfl ?_
    refine s_callS (As := [zi p1]) (st := []) X (c_X10_isLabel l E p1) gX10_arc_X10_isLabel rfl hy_X10_isLabel rfl rfl (Nat.le_of_ble_eq_true rfl) (by decide) dX10_arc_8 (fun x3 M => ?_)
    refine s_if_eq X 21 dX10_arc_11 (by decide) (fun h4 => ?_) (fun h4 => ?_)
    · refine s_lv [] [] rfl ?_
      exact J21 _
    · refine s_iload_n X dX10_arc_14 3 rfl ?_
      refine s_callS (As := [zi p2]) (st := []) X (c_X10_isNode l E p2) gX10_arc_X10_isNode rfl hy_X10_isNode rfl rfl (Nat.le_of_ble_eq_true rfl) (by decide) dX10_arc_15 (fun x5 M => ?_)
      refine s_if_ne X 23 dX10_arc_18 (by decide) (fun h6 => ?_) (fun h6 => ?_)
      · refine s_iload X dX10_arc_23 4 rfl ?_
        refine s_if_eq X 41 dX10_arc_25 (by decide) (fun h7 => ?_) (fun h7 => ?_)
        · refine s_aload_n X dX10_arc_41 0 rfl ?_
          refine s_ga X (C := RX10) (T := TX10) (N := 5) rfl (by decide) hiX10 hl13 dX10_arc_42 (fun r8 => ?_)
          refine s_iload_n X dX10_arc_45 1 rfl ?_
          refine s_iload_n X dX10_arc_46 2 rfl ?_
          refine s_iload_n X dX10_arc_47 3 rfl ?_
          refine s_callV (ci := 5) (C := RX5) (As := [zi p0, zi p1, zi p2]) (st := []) X (fun a => c_X5_drop l E a p0 p1 p2) gX10_arc_X5_drop rfl hy_X5_drop rfl rfl rfl rfl (Nat.le_of_ble_eq_true rfl) (by decide) dX10_arc_48 (fun x9 M => ?_)
          refine s_lv [(0, za ((some a0)))] [0] rfl ?_
          exact J51 x9 _
        · refine s_aload_n X dX10_arc_28 0 rfl ?_
          refine s_ga X (C := RX10) (T := TX10) (N := 5) rfl (by decide) hiX10 hl13 dX10_arc_29 (fun r11 => ?_)
          refine s_iload_n X dX10_arc_32 1 rfl ?_
          refine s_iload_n X dX10_arc_33 2 rfl ?_
          refine s_iload_n X dX10_arc_34 3 rfl ?_
          refine s_callV (ci := 5) (C := RX5) (As := [zi p0, zi p1, zi p2]) (st := []) X (fun a => c_X5_put l E a p0 p1 p2) gX10_arc_X5_put rfl hy_X5_put rfl rfl rfl rfl (Nat.le_of_ble_eq_true rfl) (by decide) dX10_arc_35 (fun x12 M => ?_)
          refine s_goto X 51 dX10_arc_38 (by decide) ?_
          refine s_lv [(0, za ((some a0)))] [0] rfl ?_
          exact J51 x12 _
      · refine s_lv [] [] rfl ?_
        exact J21 _
theorem hy_X10_arcs : yX10_arcs.cls = RX10 ∧ yX10_arcs.cls ≠ "java/lang/invoke/MethodHandle" ∧ yX10_arcs.cls ≠ "java/lang/invoke/VarHandle" ∧ (parseMethodDescriptor yX10_arcs.desc).map (fun d => d.parameters.length) = some 0 := by decide +kernel
set_option maxHeartbeats 4000000 in
set_option maxRecDepth 100000 in
theorem c_X10_arcs (l : Launch) (E : zE) (a0 : Nat) : z_Met l E yX10_arcs wsX10_arcs 0 0 [za ((some a0))] z_ri (F_X10_arcs a0) := by
  refine z_of (own := RX10) (cc := cX10_arcs) (maxL := 1) (rt := (some .int)) rfl (by decide) rfl (Nat.le_of_ble_eq_true rfl) ?_
  intro p e R s0 m args below meth c M0 fin X hr hnm
  have hiX10 : ∀ w ∈ u_ws RX10 TX10 5, w ∈ wsX10_arcs := by decide +kernel
  have hiX5 : ∀ w ∈ u_ws RX5 TX5 3, w ∈ wsX10_arcs := by decide +kernel
  have hl13 : Cond.fieldLink RX10 13 (TX10 0).1 (TX10 0).2.1 (TX10 0).2.2.1 ∈ wsX10_arcs := by decide +kernel
  have hl118 : Cond.fieldLink RX10 118 (TX5 2).1 (TX5 2).2.1 (TX5 2).2.2.1 ∈ wsX10_arcs := by decide +kernel
  refine s_aload_n X dX10_arcs_0 0 rfl ?_
  refine s_ga X (C := RX10) (T := TX10) (N := 5) rfl (by decide) hiX10 hl13 dX10_arcs_1 (fun r1 => ?_)
  refine s_gi X (C := RX5) (T := TX5) (N := 3) rfl (by decide) hiX5 hl118 dX10_arcs_4 (fun x2 => ?_)
  exact s_ret X hr dX10_arcs_7
theorem hy_X1_indexesOf : yX1_indexesOf.cls ≠ "java/lang/invoke/MethodHandle" ∧ yX1_indexesOf.cls ≠ "java/lang/invoke/VarHandle" ∧ (parseMethodDescriptor yX1_indexesOf.desc).map (fun d => d.parameters.length) = some 1 := by decide +kernel
set_option maxHeartbeats 4000000 in
set_option maxRecDepth 100000 in
theorem c_X1_indexesOf (l : Launch) (E : zE) (p0 : Int32) : z_Met l E yX1_indexesOf wsX1_indexesOf 0 0 [zi p0] z_ri (F_X1_indexesOf p0) := by
  refine z_of (own := RX1) (cc := cX1_indexesOf) (maxL := 1) (rt := (some .int)) rfl (by decide) rfl (Nat.le_of_ble_eq_true rfl) ?_
  intro p e R s0 m args below meth c M0 fin X hr hnm
  have J23 : ∀ (s_0 : Int32) (M : zM), z_S p l e R s0 m args below meth c (z_Qm E below args s0 M0 z_ri fin) E 1 M0 fin M 23 [] [zi s_0] (F_X1_indexesOf_23 s_0) := by
    intro s_0 M
    exact s_ret X hr dX1_indexesOf_23
  have J20 : ∀ (M : zM), z_S p l e R s0 m args below meth c (z_Qm E below args s0 M0 z_ri fin) E 1 M0 fin M 20 [] [] (F_X1_indexesOf_20) := by
    intro M
    refine s_sipush X 3125 dX1_indexesOf_20 (by decide) ?_
    exact J23 3125 _
  refine s_iload_n X dX1_indexesOf_0 0 rfl ?_
  refine s_if_lt X 20 dX1_indexesOf_1 (by decide) (fun h1 => ?_) (fun h1 => ?_)
  · refine s_lv [] [] rfl ?_
    exact J20 _
  · refine s_iload_n X dX1_indexesOf_4 0 rfl ?_
    refine s_gets (i := 1) (C := "ShexMatch$Bag") (n := "POWERS") (d := "[I") X (by decide) (by decide) (by decide +kernel) dX1_indexesOf_5 ?_
    refine s_len X dX1_indexesOf_8 (fun n2 => ?_)
    refine s_icmp_ge X 20 dX1_indexesOf_9 (by decide) (fun h3 => ?_) (fun h3 => ?_)
    · refine s_lv [] [] rfl ?_
      exact J20 _
    · refine s_gets (i := 1) (C := "ShexMatch$Bag") (n := "POWERS") (d := "[I") X (by decide) (by decide) (by decide +kernel) dX1_indexesOf_12 ?_
      refine s_iload_n X dX1_indexesOf_15 0 rfl ?_
      refine s_li X dX1_indexesOf_16 (fun x4 => ?_)
      refine s_goto X 23 dX1_indexesOf_17 (by decide) ?_
      refine s_lv [] [] rfl ?_
      exact J23 x4 _
theorem hy_X7_slotOf : yX7_slotOf.cls ≠ "java/lang/invoke/MethodHandle" ∧ yX7_slotOf.cls ≠ "java/lang/invoke/VarHandle" ∧ (parseMethodDescriptor yX7_slotOf.desc).map (fun d => d.parameters.length) = some 2 := by decide +kernel
set_option maxHeartbeats 4000000 in
set_option maxRecDepth 100000 in
theorem c_X7_slotOf (l : Launch) (E : zE) (q0 : Option Nat) (p1 : Int32) : z_Met l E yX7_slotOf wsX7_slotOf 0 0 [za q0, zi p1] z_ri (F_X7_slotOf q0 p1) := by
  refine z_of (own := RX7) (cc := cX7_slotOf) (maxL := 3) (rt := (some .int)) rfl (by decide) rfl (Nat.le_of_ble_eq_true rfl) ?_
  intro p e R s0 m args below meth c M0 fin X hr hnm
  have hiX7 : ∀ w ∈ u_ws RX7 TX7 4, w ∈ wsX7_slotOf := by decide +kernel
  have hl9 : Cond.fieldLink RX7 9 (TX7 0).1 (TX7 0).2.1 (TX7 0).2.2.1 ∈ wsX7_slotOf := by decide +kernel
  have L2 : ∀ (n : Nat) (s : (Option Nat) × Int32 × Int32) (M : zM), z_S p l e R s0 m args below meth c (z_Qm E below args s0 M0 z_ri fin) E 3 M0 fin M 2 [(0, za s.1), (1, zi s.2.1), (2, zi s.2.2)] [] (F_X7_slotOf_2 n s) := by
    refine s_fix ?_
    intro ih2_ hih2
    rintro ⟨r_0, x_1, x_2⟩ M
    refine s_iload_n X dX7_slotOf_2 2 rfl ?_
    refine s_aload_n X dX7_slotOf_3 0 rfl ?_
    refine s_len X dX7_slotOf_4 (fun n1 => ?_)
    refine s_icmp_ge X 26 dX7_slotOf_5 (by decide) (fun h2 => ?_) (fun h2 => ?_)
    · refine s_iconst X (-1) dX7_slotOf_26 (by decide) ?_
      exact s_ret X hr dX7_slotOf_27
    · refine s_aload_n X dX7_slotOf_8 0 rfl ?_
      refine s_iload_n X dX7_slotOf_9 2 rfl ?_
      refine s_la X dX7_slotOf_10 (fun r3 => ?_)
      refine s_gi X (C := RX7) (T := TX7) (N := 4) rfl (by decide) hiX7 hl9 dX7_slotOf_11 (fun x4 => ?_)
      refine s_iload_n X dX7_slotOf_14 1 rfl ?_
      refine s_icmp_ne X 20 dX7_slotOf_15 (by decide) (fun h5 => ?_) (fun h5 => ?_)
      · refine s_iinc X 1 dX7_slotOf_20 2 rfl (by decide) (by decide) [(2, zi (x_2 + 1)), (0, za r_0), (1, zi x_1)] rfl ?_
        refine s_goto X 2 dX7_slotOf_23 (by decide) ?_
        refine s_lv [(0, za r_0), (1, zi x_1), (2, zi (x_2 + 1))] [1, 2, 0] rfl ?_
        exact hih2 (r_0, x_1, x_2 + 1) _
      · refine s_iload_n X dX7_slotOf_18 2 rfl ?_
        exact s_ret X hr dX7_slotOf_19
  refine s_iconst X 0 dX7_slotOf_0 (by decide) ?_
  refine s_istore_n X dX7_slotOf_1 (by decide) [(2, zi (0)), (0, za q0), (1, zi p1)] rfl ?_
  refine s_lv [(0, za q0), (1, zi p1), (2, zi (0))] [1, 2, 0] rfl ?_
  exact L2 z_N (q0, p1, 0) _
theorem hy_X1_moved : yX1_moved.cls ≠ "java/lang/invoke/MethodHandle" ∧ yX1_moved.cls ≠ "java/lang/invoke/VarHandle" ∧ (parseMethodDescriptor yX1_moved.desc).map (fun d => d.parameters.length) = some 3 := by decide +kernel
set_option maxHeartbeats 4000000 in
set_option maxRecDepth 100000 in
theorem c_X1_moved (l : Launch) (E : zE) (p0 : Int32) (q1 : Option Nat) (q2 : Option Nat) : z_Met l E yX1_moved wsX1_moved 1 22 [zi p0, za q1, za q2] z_ri (F_X1_moved p0 q1 q2) := by
  refine z_of (own := RX1) (cc := cX1_moved) (maxL := 6) (rt := (some .int)) rfl (by decide) rfl (Nat.le_of_ble_eq_true rfl) ?_
  intro p e R s0 m args below meth c M0 fin X hr hnm
  have hiX7 : ∀ w ∈ u_ws RX7 TX7 4, w ∈ wsX1_moved := by decide +kernel
  have hl22 : Cond.fieldLink RX1 22 (TX7 0).1 (TX7 0).2.1 (TX7 0).2.2.1 ∈ wsX1_moved := by decide +kernel
  have L14 : ∀ (n : Nat) (s : (Option Nat) × (Option Nat) × Int32 × Int32 × Int32) (M : zM), z_S p l e R s0 m args below meth c (z_Qm E below args s0 M0 z_ri fin) E 6 M0 fin M 14 [(1, za s.1), (2, za s.2.1), (3, zi s.2.2.1), (4, zi s.2.2.2.1), (5, zi s.2.2.2.2)] [] (F_X1_moved_14 n s) := by
    refine s_fix ?_
    intro ih14_ hih14
    rintro ⟨r_1, r_2, x_3, x_4, x_5⟩ M
    refine s_iload X dX1_moved_14 4 rfl ?_
    refine s_aload_n X dX1_moved_16 0 rfl ?_
    refine s_len X dX1_moved_17 (fun n3 => ?_)
    refine s_icmp_ge X 54 dX1_moved_18 (by decide) (fun h4 => ?_) (fun h4 => ?_)
    · refine s_iload X dX1_moved_54 3 rfl ?_
      exact s_ret X hr dX1_moved_56
    · refine s_iload X dX1_moved_21 3 rfl ?_
      refine s_iload_n X dX1_moved_23 2 rfl ?_
      refine s_iconst X 5 dX1_moved_24 (by decide) ?_
      refine s_irem X dX1_moved_25 (by decide) ?_
      refine s_aload_n X dX1_moved_26 1 rfl ?_
      refine s_aload_n X dX1_moved_27 0 rfl ?_
      refine s_iload X dX1_moved_28 4 rfl ?_
      refine s_la X dX1_moved_30 (fun r5 => ?_)
      refine s_gi X (C := RX7) (T := TX7) (N := 4) rfl (by decide) hiX7 hl22 dX1_moved_31 (fun x6 => ?_)
      refine s_callS (As := [za r_2, zi x6]) (st := [zi (x_3 - x_3 / 5 * 5), zi x_4]) X (c_X7_slotOf l E r_2 x6) gX1_moved_X7_slotOf rfl hy_X7_slotOf rfl rfl (Nat.le_of_ble_eq_true rfl) (by decide) dX1_moved_34 (fun x7 M => ?_)
      refine s_callS (As := [zi x7]) (st := [zi (x_3 - x_3 / 5 * 5), zi x_4]) X (c_X1_indexesOf l E x7) gX1_moved_X1_indexesOf rfl hy_X1_indexesOf rfl rfl (Nat.le_of_ble_eq_true rfl) (by decide) dX1_moved_37 (fun x8 M => ?_)
      refine s_imul X dX1_moved_40 ?_
      refine s_iadd X dX1_moved_41 ?_
      refine s_let (fun x9 => ?_)
      refine s_istore X dX1_moved_42 (by decide) [(4, zi x9), (1, za r_1), (2, za r_2), (3, zi x_3), (5, zi x_5)] rfl ?_
      refine s_iload_n X dX1_moved_44 3 rfl ?_
      refine s_iconst X 5 dX1_moved_45 (by decide) ?_
      refine s_idiv X dX1_moved_46 (by decide) ?_
      refine s_let (fun x10 => ?_)
      refine s_istore_n X dX1_moved_47 (by decide) [(3, zi x10), (4, zi x9), (1, za r_1), (2, za r_2), (5, zi x_5)] rfl ?_
      refine s_iinc X 1 dX1_moved_48 4 rfl (by decide) (by decide) [(5, zi (x_5 + 1)), (3, zi x10), (4, zi x9), (1, za r_1), (2, za r_2)] rfl ?_
      refine s_goto X 14 dX1_moved_51 (by decide) ?_
      refine s_lv [(1, za r_1), (2, za r_2), (3, zi x10), (4, zi x9), (5, zi (x_5 + 1))] [3, 4, 1, 2, 0] rfl ?_
      exact hih14 (r_1, r_2, x10, x9, x_5 + 1) _
  refine s_iload_n X dX1_moved_0 0 rfl ?_
  refine s_sipush X 16383 dX1_moved_1 (by decide) ?_
  refine s_iand X dX1_moved_4 ?_
  refine s_let (fun x1 => ?_)
  refine s_istore_n X dX1_moved_5 (by decide) [(3, zi x1), (0, zi p0), (1, za q1), (2, za q2)] rfl ?_
  refine s_iload_n X dX1_moved_6 1 rfl ?_
  refine s_iload_n X dX1_moved_7 0 rfl ?_
  refine s_isub X dX1_moved_8 ?_
  refine s_let (fun x2 => ?_)
  refine s_istore X dX1_moved_9 (by decide) [(4, zi x2), (3, zi x1), (0, zi p0), (1, za q1), (2, za q2)] rfl ?_
  refine s_iconst X 0 dX1_moved_11 (by decide) ?_
  refine s_istore X dX1_moved_12 (by decide) [(5, zi (0)), (4, zi x2), (3, zi x1), (0, zi p0), (1, za q1), (2, za q2)] rfl ?_
  refine s_lv [(1, za q1), (2, za q2), (3, zi x1), (4, zi x2), (5, zi (0))] [4, 5, 2, 1, 0] rfl ?_
  exact L14 z_N (q1, q2, x1, x2, 0) _
theorem hy_X2_clear : yX2_clear.cls = RX2 ∧ yX2_clear.cls ≠ "java/lang/invoke/MethodHandle" ∧ yX2_clear.cls ≠ "java/lang/invoke/VarHandle" ∧ (parseMethodDescriptor yX2_clear.desc).map (fun d => d.parameters.length) = some 0 := by decide +kernel
set_option maxHeartbeats 4000000 in
set_option maxRecDepth 100000 in
theorem c_X2_clear (l : Launch) (E : zE) (a0 : Nat) : z_Met l E yX2_clear wsX2_clear 0 0 [za ((some a0))] z_rv (F_X2_clear a0) := by
  refine z_of (own := RX2) (cc := cX2_clear) (maxL := 2) (rt := none) rfl (by decide) rfl (Nat.le_of_ble_eq_true rfl) ?_
  intro p e R s0 m args below meth c M0 fin X hr hnm
  have hiX2 : ∀ w ∈ u_ws RX2 TX2 4, w ∈ wsX2_clear := by decide +kernel
  have hl21 : Cond.fieldLink RX2 21 (TX2 3).1 (TX2 3).2.1 (TX2 3).2.2.1 ∈ wsX2_clear := by decide +kernel
  have hl9 : Cond.fieldLink RX2 9 (TX2 0).1 (TX2 0).2.1 (TX2 0).2.2.1 ∈ wsX2_clear := by decide +kernel
  have hl15 : Cond.fieldLink RX2 15 (TX2 1).1 (TX2 1).2.1 (TX2 1).2.2.1 ∈ wsX2_clear := by decide +kernel
  have L2 : ∀ (n : Nat) (s : Int32) (M : zM), z_S p l e R s0 m args below meth c (z_Qm E below args s0 M0 z_rv fin) E 2 M0 fin M 2 [(0, za (some a0)), (1, zi s)] [] (F_X2_clear_2 a0 n s) := by
    refine s_fix ?_
    intro ih2_ hih2
    rintro x_1 M
    refine s_iload_n X dX2_clear_2 1 rfl ?_
    refine s_aload_n X dX2_clear_3 0 rfl ?_
    refine s_gi X (C := RX2) (T := TX2) (N := 4) rfl (by decide) hiX2 hl21 dX2_clear_4 (fun x1 => ?_)
    refine s_icmp_ge X 32 dX2_clear_7 (by decide) (fun h2 => ?_) (fun h2 => ?_)
    · refine s_aload_n X dX2_clear_32 0 rfl ?_
      refine s_iconst X 0 dX2_clear_33 (by decide) ?_
      refine s_pf (x := zi (0)) X (C := RX2) (T := TX2) (N := 4) rfl (by decide) hiX2 tyX2 tyX2_ok nmX2 hl21 (Or.inl rfl) rfl (fun E => ⟨rfl, rfl⟩) dX2_clear_34 (fun M => ?_)
      exact s_retv X hr dX2_clear_37
    · refine s_aload_n X dX2_clear_10 0 rfl ?_
      refine s_ga X (C := RX2) (T := TX2) (N := 4) rfl (by decide) hiX2 hl9 dX2_clear_11 (fun r3 => ?_)
      refine s_aload_n X dX2_clear_14 0 rfl ?_
      refine s_ga X (C := RX2) (T := TX2) (N := 4) rfl (by decide) hiX2 hl15 dX2_clear_15 (fun r4 => ?_)
      refine s_iload_n X dX2_clear_18 1 rfl ?_
      refine s_li X dX2_clear_19 (fun x5 => ?_)
      refine s_sipush X 16383 dX2_clear_20 (by decide) ?_
      refine s_iand X dX2_clear_23 ?_
      refine s_iconst X 0 dX2_clear_24 (by decide) ?_
      refine s_si X dX2_clear_25 (fun M => ?_)
      refine s_iinc X 1 dX2_clear_26 1 rfl (by decide) (by decide) [(1, zi (x_1 + 1)), (0, za ((some a0)))] rfl ?_
      refine s_goto X 2 dX2_clear_29 (by decide) ?_
      refine s_lv [(0, za ((some a0))), (1, zi (x_1 + 1))] [1, 0] rfl ?_
      exact hih2 (x_1 + 1) _
  refine s_iconst X 0 dX2_clear_0 (by decide) ?_
  refine s_istore_n X dX2_clear_1 (by decide) [(1, zi (0)), (0, za ((some a0)))] rfl ?_
  refine s_lv [(0, za ((some a0))), (1, zi (0))] [1, 0] rfl ?_
  exact L2 z_N (0) _
theorem hy_X2_enter : yX2_enter.cls = RX2 ∧ yX2_enter.cls ≠ "java/lang/invoke/MethodHandle" ∧ yX2_enter.cls ≠ "java/lang/invoke/VarHandle" ∧ (parseMethodDescriptor yX2_enter.desc).map (fun d => d.parameters.length) = some 1 := by decide +kernel
set_option maxHeartbeats 4000000 in
set_option maxRecDepth 100000 in
theorem c_X2_enter (l : Launch) (E : zE) (a0 : Nat) (p0 : Int32) : z_Met l E yX2_enter wsX2_enter 0 0 [za ((some a0)), zi p0] z_ri (F_X2_enter a0 p0) := by
  refine z_of (own := RX2) (cc := cX2_enter) (maxL := 3) (rt := (some .int)) rfl (by decide) rfl (Nat.le_of_ble_eq_true rfl) ?_
  intro p e R s0 m args below meth c M0 fin X hr hnm
  have hiX2 : ∀ w ∈ u_ws RX2 TX2 4, w ∈ wsX2_enter := by decide +kernel
  have hl9 : Cond.fieldLink RX2 9 (TX2 0).1 (TX2 0).2.1 (TX2 0).2.2.1 ∈ wsX2_enter := by decide +kernel
  have hl21 : Cond.fieldLink RX2 21 (TX2 3).1 (TX2 3).2.1 (TX2 3).2.2.1 ∈ wsX2_enter := by decide +kernel
  have hl15 : Cond.fieldLink RX2 15 (TX2 1).1 (TX2 1).2.1 (TX2 1).2.2.1 ∈ wsX2_enter := by decide +kernel
  have hl18 : Cond.fieldLink RX2 18 (TX2 2).1 (TX2 2).2.1 (TX2 2).2.2.1 ∈ wsX2_enter := by decide +kernel
  have J74 : ∀ (x_2 : Int32) (M : zM), z_S p l e R s0 m args below meth c (z_Qm E below args s0 M0 z_ri fin) E 3 M0 fin M 74 [(0, za ((some a0))), (2, zi x_2)] [] (F_X2_enter_74 a0 x_2) := by
    intro x_2 M
    refine s_aload_n X dX2_enter_74 0 rfl ?_
    refine s_ga X (C := RX2) (T := TX2) (N := 4) rfl (by decide) hiX2 hl9 dX2_enter_75 (fun r15 => ?_)
    refine s_iload_n X dX2_enter_78 1 rfl ?_
    refine s_li X dX2_enter_79 (fun x16 => ?_)
    refine s_iconst X 1 dX2_enter_80 (by decide) ?_
    refine s_isub X dX2_enter_81 ?_
    exact s_ret X hr dX2_enter_82
  refine s_iload_n X dX2_enter_0 1 rfl ?_
  refine s_sipush X 16383 dX2_enter_1 (by decide) ?_
  refine s_iand X dX2_enter_4 ?_
  refine s_let (fun x1 => ?_)
  refine s_istore_n X dX2_enter_5 (by decide) [(2, zi x1), (0, za ((some a0))), (1, zi p0)] rfl ?_
  refine s_iload_n X dX2_enter_6 0 rfl ?_
  refine s_sipush X 3125 dX2_enter_7 (by decide) ?_
  refine s_icmp_lt X 15 dX2_enter_10 (by decide) (fun h2 => ?_) (fun h2 => ?_)
  · refine s_aload_n X dX2_enter_15 1 rfl ?_
    refine s_ga X (C := RX2) (T := TX2) (N := 4) rfl (by decide) hiX2 hl9 dX2_enter_16 (fun r3 => ?_)
    refine s_iload_n X dX2_enter_19 0 rfl ?_
    refine s_li X dX2_enter_20 (fun x4 => ?_)
    refine s_if_ne X 74 dX2_enter_21 (by decide) (fun h5 => ?_) (fun h5 => ?_)
    · refine s_lv [(0, za ((some a0))), (2, zi x1)] [1, 0] rfl ?_
      exact J74 x1 _
    · refine s_aload_n X dX2_enter_24 1 rfl ?_
      refine s_gi X (C := RX2) (T := TX2) (N := 4) rfl (by decide) hiX2 hl21 dX2_enter_25 (fun x6 => ?_)
      refine s_sipush X 525 dX2_enter_28 (by decide) ?_
      refine s_icmp_ge X 74 dX2_enter_31 (by decide) (fun h7 => ?_) (fun h7 => ?_)
      · refine s_lv [(0, za ((some a0))), (2, zi x1)] [1, 0] rfl ?_
        exact J74 x1 _
      · refine s_aload_n X dX2_enter_34 1 rfl ?_
        refine s_ga X (C := RX2) (T := TX2) (N := 4) rfl (by decide) hiX2 hl15 dX2_enter_35 (fun r8 => ?_)
        refine s_aload_n X dX2_enter_38 1 rfl ?_
        refine s_gi X (C := RX2) (T := TX2) (N := 4) rfl (by decide) hiX2 hl21 dX2_enter_39 (fun x9 => ?_)
        refine s_iload_n X dX2_enter_42 2 rfl ?_
        refine s_si X dX2_enter_43 (fun M => ?_)
        refine s_aload_n X dX2_enter_44 1 rfl ?_
        refine s_ga X (C := RX2) (T := TX2) (N := 4) rfl (by decide) hiX2 hl18 dX2_enter_45 (fun r10 => ?_)
        refine s_aload_n X dX2_enter_48 1 rfl ?_
        refine s_gi X (C := RX2) (T := TX2) (N := 4) rfl (by decide) hiX2 hl21 dX2_enter_49 (fun x11 => ?_)
        refine s_iconst X 0 dX2_enter_52 (by decide) ?_
        refine s_si X dX2_enter_53 (fun M => ?_)
        refine s_aload_n X dX2_enter_54 1 rfl ?_
        refine s_dup X dX2_enter_55 rfl ?_
        refine s_gi X (C := RX2) (T := TX2) (N := 4) rfl (by decide) hiX2 hl21 dX2_enter_56 (fun x12 => ?_)
        refine s_iconst X 1 dX2_enter_59 (by decide) ?_
        refine s_iadd X dX2_enter_60 ?_
        refine s_pf (x := zi (x12 + 1)) X (C := RX2) (T := TX2) (N := 4) rfl (by decide) hiX2 tyX2 tyX2_ok nmX2 hl21 (Or.inl rfl) rfl (fun E => ⟨rfl, rfl⟩) dX2_enter_61 (fun M => ?_)
        refine s_aload_n X dX2_enter_64 1 rfl ?_
        refine s_ga X (C := RX2) (T := TX2) (N := 4) rfl (by decide) hiX2 hl9 dX2_enter_65 (fun r13 => ?_)
        refine s_iload_n X dX2_enter_68 0 rfl ?_
        refine s_aload_n X dX2_enter_69 1 rfl ?_
        refine s_gi X (C := RX2) (T := TX2) (N := 4) rfl (by decide) hiX2 hl21 dX2_enter_70 (fun x14 => ?_)
        refine s_si X dX2_enter_73 (fun M => ?_)
        refine s_lv [(0, za ((some a0))), (2, zi x1)] [1, 0] rfl ?_
        exact J74 x1 _
  · refine s_iconst X (-1) dX2_enter_13 (by decide) ?_
    exact s_ret X hr dX2_enter_14
theorem hy_X4_eitherOf : yX4_eitherOf.cls = RX4 ∧ yX4_eitherOf.cls ≠ "java/lang/invoke/MethodHandle" ∧ yX4_eitherOf.cls ≠ "java/lang/invoke/VarHandle" ∧ (parseMethodDescriptor yX4_eitherOf.desc).map (fun d => d.parameters.length) = some 2 := by decide +kernel
set_option maxHeartbeats 4000000 in
set_option maxRecDepth 100000 in
theorem c_X4_eitherOf (l : Launch) (E : zE) (a0 : Nat) (q0 : Option Nat) (q1 : Option Nat) : z_Met l E yX4_eitherOf wsX4_eitherOf 2 62 [za ((some a0)), za q0, za q1] z_ra (F_X4_eitherOf a0 q0 q1) := by
  refine z_of (own := RX4) (cc := cX4_eitherOf) (maxL := 4) (rt := (some (.array .int))) rfl (by decide) rfl (Nat.le_of_ble_eq_true rfl) ?_
  intro p e R s0 m args below meth c M0 fin X hr hnm
  have hiX4 : ∀ w ∈ u_ws RX4 TX4 3, w ∈ wsX4_eitherOf := by decide +kernel
  have hiX2 : ∀ w ∈ u_ws RX2 TX2 4, w ∈ wsX4_eitherOf := by decide +kernel
  have hl17 : Cond.fieldLink RX4 17 (TX4 1).1 (TX4 1).2.1 (TX4 1).2.2.1 ∈ wsX4_eitherOf := by decide +kernel
  have hl95 : Cond.fieldLink RX4 95 (TX2 1).1 (TX2 1).2.1 (TX2 1).2.2.1 ∈ wsX4_eitherOf := by decide +kernel
  have hl96 : Cond.fieldLink RX4 96 (TX2 3).1 (TX2 3).2.1 (TX2 3).2.2.1 ∈ wsX4_eitherOf := by decide +kernel
  have L34 : ∀ (n : Nat) (s : (Option Nat) × Int32) (M : zM), z_S p l e R s0 m args below meth c (z_Qm E below args s0 M0 z_ra fin) E 4 M0 fin M 34 [(0, za (some a0)), (2, za s.1), (3, zi s.2)] [] (F_X4_eitherOf_34 a0 n s) := by
    refine s_fix ?_
    intro ih34_ hih34
    rintro ⟨r_2, x_3⟩ M
    refine s_iload_n X dX4_eitherOf_34 2 rfl ?_
    refine s_aload_n X dX4_eitherOf_35 1 rfl ?_
    refine s_len X dX4_eitherOf_36 (fun n9 => ?_)
    refine s_icmp_ge X 57 dX4_eitherOf_37 (by decide) (fun h10 => ?_) (fun h10 => ?_)
    · refine s_aload_n X dX4_eitherOf_57 0 rfl ?_
      refine s_ga X (C := RX4) (T := TX4) (N := 3) rfl (by decide) hiX4 hl17 dX4_eitherOf_58 (fun r11 => ?_)
      refine s_ga X (C := RX2) (T := TX2) (N := 4) rfl (by decide) hiX2 hl95 dX4_eitherOf_61 (fun r12 => ?_)
      refine s_aload_n X dX4_eitherOf_64 0 rfl ?_
      refine s_ga X (C := RX4) (T := TX4) (N := 3) rfl (by decide) hiX4 hl17 dX4_eitherOf_65 (fun r13 => ?_)
      refine s_gi X (C := RX2) (T := TX2) (N := 4) rfl (by decide) hiX2 hl96 dX4_eitherOf_68 (fun x14 => ?_)
      refine s_callS (As := [za r12, zi x14]) (st := []) X (c_J7_copyOf_59c91 l E r12 x14) gX4_eitherOf_J7_copyOf_59c91 rfl hy_J7_copyOf_59c91 rfl rfl (Nat.le_of_ble_eq_true rfl) (by decide) dX4_eitherOf_71 (fun r15 M => ?_)
      exact s_reta X hr (Or.inr ⟨_, rfl⟩) dX4_eitherOf_74
    · refine s_aload_n X dX4_eitherOf_40 0 rfl ?_
      refine s_ga X (C := RX4) (T := TX4) (N := 3) rfl (by decide) hiX4 hl17 dX4_eitherOf_41 (fun r16 => ?_)
      refine s_aload_n X dX4_eitherOf_44 1 rfl ?_
      refine s_iload_n X dX4_eitherOf_45 2 rfl ?_
      refine s_li X dX4_eitherOf_46 (fun x17 => ?_)
      refine s_callV (ci := 2) (C := RX2) (As := [zi x17]) (st := []) X (fun a => c_X2_enter l E a x17) gX4_eitherOf_X2_enter rfl hy_X2_enter rfl rfl rfl rfl (Nat.le_of_ble_eq_true rfl) (by decide) dX4_eitherOf_47 (fun x18 M => ?_)
      refine s_pop X dX4_eitherOf_50 rfl ?_
      refine s_iinc X 1 dX4_eitherOf_51 2 rfl (by decide) (by decide) [(3, zi (x_3 + 1)), (0, za ((some a0))), (2, za r_2)] rfl ?_
      refine s_goto X 34 dX4_eitherOf_54 (by decide) ?_
      refine s_lv [(0, za ((some a0))), (2, za r_2), (3, zi (x_3 + 1))] [1, 2, 0] rfl ?_
      exact hih34 (r_2, x_3 + 1) _
  have L9 : ∀ (n : Nat) (s : (Option Nat) × (Option Nat) × Int32) (M : zM), z_S p l e R s0 m args below meth c (z_Qm E below args s0 M0 z_ra fin) E 4 M0 fin M 9 [(0, za (some a0)), (1, za s.1), (2, za s.2.1), (3, zi s.2.2)] [] (F_X4_eitherOf_9 a0 n s) := by
    refine s_fix ?_
    intro ih9_ hih9
    rintro ⟨r_1, r_2, x_3⟩ M
    refine s_iload_n X dX4_eitherOf_9 3 rfl ?_
    refine s_aload_n X dX4_eitherOf_10 1 rfl ?_
    refine s_len X dX4_eitherOf_11 (fun n3 => ?_)
    refine s_icmp_ge X 32 dX4_eitherOf_12 (by decide) (fun h4 => ?_) (fun h4 => ?_)
    · refine s_iconst X 0 dX4_eitherOf_32 (by decide) ?_
      refine s_istore_n X dX4_eitherOf_33 (by decide) [(3, zi (0)), (0, za ((some a0))), (1, za r_1), (2, za r_2)] rfl ?_
      refine s_lv [(0, za ((some a0))), (2, za r_2), (3, zi (0))] [1, 3, 0] rfl ?_
      exact L34 z_N (r_2, 0) _
    · refine s_aload_n X dX4_eitherOf_15 0 rfl ?_
      refine s_ga X (C := RX4) (T := TX4) (N := 3) rfl (by decide) hiX4 hl17 dX4_eitherOf_16 (fun r5 => ?_)
      refine s_aload_n X dX4_eitherOf_19 1 rfl ?_
      refine s_iload_n X dX4_eitherOf_20 3 rfl ?_
      refine s_li X dX4_eitherOf_21 (fun x6 => ?_)
      refine s_callV (ci := 2) (C := RX2) (As := [zi x6]) (st := []) X (fun a => c_X2_enter l E a x6) gX4_eitherOf_X2_enter rfl hy_X2_enter rfl rfl rfl rfl (Nat.le_of_ble_eq_true rfl) (by decide) dX4_eitherOf_22 (fun x7 M => ?_)
      refine s_pop X dX4_eitherOf_25 rfl ?_
      refine s_iinc X 1 dX4_eitherOf_26 3 rfl (by decide) (by decide) [(3, zi (x_3 + 1)), (0, za ((some a0))), (1, za r_1), (2, za r_2)] rfl ?_
      refine s_goto X 9 dX4_eitherOf_29 (by decide) ?_
      refine s_lv [(0, za ((some a0))), (1, za r_1), (2, za r_2), (3, zi (x_3 + 1))] [1, 2, 3, 0] rfl ?_
      exact hih9 (r_1, r_2, x_3 + 1) _
  refine s_aload_n X dX4_eitherOf_0 0 rfl ?_
  refine s_ga X (C := RX4) (T := TX4) (N := 3) rfl (by decide) hiX4 hl17 dX4_eitherOf_1 (fun r1 => ?_)
  refine s_callV (ci := 2) (C := RX2) (As := []) (st := []) X (fun a => c_X2_clear l E a) gX4_eitherOf_X2_clear rfl hy_X2_clear rfl rfl rfl rfl (Nat.le_of_ble_eq_true rfl) (by decide) dX4_eitherOf_4 (fun _ M => ?_)
  refine s_iconst X 0 dX4_eitherOf_7 (by decide) ?_
  refine s_istore_n X dX4_eitherOf_8 (by decide) [(3, zi (0)), (0, za ((some a0))), (1, za q0), (2, za q1)] rfl ?_
  refine s_lv [(0, za ((some a0))), (1, za q0), (2, za q1), (3, zi (0))] [1, 2, 3, 0] rfl ?_
  exact L9 z_N (q0, q1, 0) _
theorem hy_X3_init : yX3_init.cls ≠ "java/lang/invoke/MethodHandle" ∧ yX3_init.cls ≠ "java/lang/invoke/VarHandle" ∧ (parseMethodDescriptor yX3_init.desc).map (fun d => d.parameters.length) = some 3 := by decide +kernel
set_option maxHeartbeats 4000000 in
set_option maxRecDepth 100000 in
theorem c_X3_init (l : Launch) (E : zE) (a0 : Nat) (p0 : Int32) (q1 : Option Nat) (q2 : Option Nat) : z_Met l E yX3_init wsX3_init 1 12 [za ((some a0)), zi p0, za q1, za q2] z_rv (F_X3_init a0 p0 q1 q2) := by
  refine z_of (own := RX3) (cc := cX3_init) (maxL := 9) (rt := none) rfl (by decide) rfl (Nat.le_of_ble_eq_true rfl) ?_
  intro p e R s0 m args below meth c M0 fin X hr hnm
  have hiX3 : ∀ w ∈ u_ws RX3 TX3 6, w ∈ wsX3_init := by decide +kernel
  have hiX7 : ∀ w ∈ u_ws RX7 TX7 4, w ∈ wsX3_init := by decide +kernel
  have hl9 : Cond.fieldLink RX3 9 (TX3 0).1 (TX3 0).2.1 (TX3 0).2.2.1 ∈ wsX3_init := by decide +kernel
  have hl15 : Cond.fieldLink RX3 15 (TX3 1).1 (TX3 1).2.1 (TX3 1).2.2.1 ∈ wsX3_init := by decide +kernel
  have hl19 : Cond.fieldLink RX3 19 (TX3 2).1 (TX3 2).2.1 (TX3 2).2.2.1 ∈ wsX3_init := by decide +kernel
  have hl35 : Cond.fieldLink RX3 35 (TX3 3).1 (TX3 3).2.1 (TX3 3).2.2.1 ∈ wsX3_init := by decide +kernel
  have hl38 : Cond.fieldLink RX3 38 (TX3 4).1 (TX3 4).2.1 (TX3 4).2.2.1 ∈ wsX3_init := by decide +kernel
  have hl41 : Cond.fieldLink RX3 41 (TX3 5).1 (TX3 5).2.1 (TX3 5).2.2.1 ∈ wsX3_init := by decide +kernel
  have hl23 : Cond.fieldLink RX3 23 (TX7 1).1 (TX7 1).2.1 (TX7 1).2.2.1 ∈ wsX3_init := by decide +kernel
  have hl28 : Cond.fieldLink RX3 28 (TX7 2).1 (TX7 2).2.1 (TX7 2).2.2.1 ∈ wsX3_init := by decide +kernel
  have hl32 : Cond.fieldLink RX3 32 (TX7 3).1 (TX7 3).2.1 (TX7 3).2.2.1 ∈ wsX3_init := by decide +kernel
  have L31 : ∀ (n : Nat) (s : (Option Nat) × Int32 × Int32 × Int32 × Int32) (M : zM), z_S p l e R s0 m args below meth c (z_Qm E below args s0 M0 z_rv fin) E 9 M0 fin M 31 [(0, za (some a0)), (2, za s.1), (4, zi s.2.1), (5, zi s.2.2.1), (6, zi s.2.2.2.1), (7, zi s.2.2.2.2)] [] (F_X3_init_31 a0 n s) := by
    refine s_fix ?_
    intro ih31_ hih31
    have J114 : ∀ (r_2 : Option Nat) (x_4 : Int32) (x_5 : Int32) (x_7 : Int32) (s_0 : Int32) (s_1 : Int32) (M : zM), z_S p l e R s0 m args below meth c (z_Qm E below args s0 M0 z_rv fin) E 9 M0 fin M 114 [(0, za ((some a0))), (2, za r_2), (4, zi x_4), (5, zi x_5), (7, zi x_7)] [zi s_1, zi s_0] (F_X3_init_114 a0 (fun y0 y1 y2 y3 y4 => ih31_ (y0, y1, y2, y3, y4)) r_2 x_4 x_5 x_7 s_0 s_1) := by
      intro r_2 x_4 x_5 x_7 s_0 s_1 M
      refine s_ior X dX3_init_114 ?_
      refine s_let (fun x16 => ?_)
      refine s_istore X dX3_init_115 (by decide) [(6, zi x16), (0, za ((some a0))), (2, za r_2), (4, zi x_4), (5, zi x_5), (7, zi x_7)] rfl ?_
      refine s_iinc X 1 dX3_init_117 5 rfl (by decide) (by decide) [(7, zi (x_7 + 1)), (6, zi x16), (0, za ((some a0))), (2, za r_2), (4, zi x_4), (5, zi x_5)] rfl ?_
      refine s_goto X 31 dX3_init_120 (by decide) ?_
      refine s_lv [(0, za ((some a0))), (2, za r_2), (4, zi x_4), (5, zi x_5), (6, zi x16), (7, zi (x_7 + 1))] [2, 3, 4, 5, 1, 0] rfl ?_
      exact hih31 (r_2, x_4, x_5, x16, x_7 + 1) _
    have J89 : ∀ (r_2 : Option Nat) (x_4 : Int32) (x_6 : Int32) (x_7 : Int32) (r_8 : Option Nat) (s_0 : Int32) (s_1 : Int32) (M : zM), z_S p l e R s0 m args below meth c (z_Qm E below args s0 M0 z_rv fin) E 9 M0 fin M 89 [(0, za ((some a0))), (2, za r_2), (4, zi x_4), (6, zi x_6), (7, zi x_7), (8, za r_8)] [zi s_1, zi s_0] (F_X3_init_89 a0 (fun y0 y1 y2 y3 y4 => ih31_ (y0, y1, y2, y3, y4)) r_2 x_4 x_6 x_7 r_8 s_0 s_1) := by
      intro r_2 x_4 x_6 x_7 r_8 s_0 s_1 M
      refine s_ior X dX3_init_89 ?_
      refine s_let (fun x12 => ?_)
      refine s_istore X dX3_init_90 (by decide) [(5, zi x12), (0, za ((some a0))), (2, za r_2), (4, zi x_4), (6, zi x_6), (7, zi x_7), (8, za r_8)] rfl ?_
      refine s_iload X dX3_init_92 4 rfl ?_
      refine s_aload X dX3_init_94 6 rfl ?_
      refine s_gi X (C := RX7) (T := TX7) (N := 4) rfl (by decide) hiX7 hl32 dX3_init_96 (fun x13 => ?_)
      refine s_iconst X (-1) dX3_init_99 (by decide) ?_
      refine s_icmp_ne X 107 dX3_init_100 (by decide) (fun h14 => ?_) (fun h14 => ?_)
      · refine s_iconst X 1 dX3_init_107 (by decide) ?_
        refine s_aload X dX3_init_108 6 rfl ?_
        refine s_gi X (C := RX7) (T := TX7) (N := 4) rfl (by decide) hiX7 hl32 dX3_init_110 (fun x15 => ?_)
        refine s_ishl X dX3_init_113 ?_
        refine s_lv [(0, za ((some a0))), (2, za r_2), (4, zi x_4), (5, zi x12), (7, zi x_7)] [1, 2, 3, 0, 5] rfl ?_
        exact J114 r_2 x_4 x12 x_7 x_6 ((1 : Int32) <<< (x15 &&& 31)) _
      · refine s_iconst X 0 dX3_init_103 (by decide) ?_
        refine s_goto X 114 dX3_init_104 (by decide) ?_
        refine s_lv [(0, za ((some a0))), (2, za r_2), (4, zi x_4), (5, zi x12), (7, zi x_7)] [1, 2, 3, 0, 5] rfl ?_
        exact J114 r_2 x_4 x12 x_7 x_6 0 _
    have J65 : ∀ (r_2 : Option Nat) (x_5 : Int32) (x_6 : Int32) (x_7 : Int32) (r_8 : Option Nat) (s_0 : Int32) (s_1 : Int32) (M : zM), z_S p l e R s0 m args below meth c (z_Qm E below args s0 M0 z_rv fin) E 9 M0 fin M 65 [(0, za ((some a0))), (2, za r_2), (5, zi x_5), (6, zi x_6), (7, zi x_7), (8, za r_8)] [zi s_1, zi s_0] (F_X3_init_65 a0 (fun y0 y1 y2 y3 y4 => ih31_ (y0, y1, y2, y3, y4)) r_2 x_5 x_6 x_7 r_8 s_0 s_1) := by
      intro r_2 x_5 x_6 x_7 r_8 s_0 s_1 M
      refine s_ior X dX3_init_65 ?_
      refine s_let (fun x8 => ?_)
      refine s_istore X dX3_init_66 (by decide) [(4, zi x8), (0, za ((some a0))), (2, za r_2), (5, zi x_5), (6, zi x_6), (7, zi x_7), (8, za r_8)] rfl ?_
      refine s_iload X dX3_init_68 3 rfl ?_
      refine s_aload X dX3_init_70 6 rfl ?_
      refine s_gi X (C := RX7) (T := TX7) (N := 4) rfl (by decide) hiX7 hl23 dX3_init_72 (fun x9 => ?_)
      refine s_if_eq X 82 dX3_init_75 (by decide) (fun h10 => ?_) (fun h10 => ?_)
      · refine s_iconst X 1 dX3_init_82 (by decide) ?_
        refine s_aload X dX3_init_83 6 rfl ?_
        refine s_gi X (C := RX7) (T := TX7) (N := 4) rfl (by decide) hiX7 hl28 dX3_init_85 (fun x11 => ?_)
        refine s_ishl X dX3_init_88 ?_
        refine s_lv [(0, za ((some a0))), (2, za r_2), (4, zi x8), (6, zi x_6), (7, zi x_7), (8, za r_8)] [1, 2, 0, 4, 5, 6] rfl ?_
        exact J89 r_2 x8 x_6 x_7 r_8 x_5 ((1 : Int32) <<< (x11 &&& 31)) _
      · refine s_iconst X 0 dX3_init_78 (by decide) ?_
        refine s_goto X 89 dX3_init_79 (by decide) ?_
        refine s_lv [(0, za ((some a0))), (2, za r_2), (4, zi x8), (6, zi x_6), (7, zi x_7), (8, za r_8)] [1, 2, 0, 4, 5, 6] rfl ?_
        exact J89 r_2 x8 x_6 x_7 r_8 x_5 0 _
    rintro ⟨r_2, x_4, x_5, x_6, x_7⟩ M
    refine s_iload X dX3_init_31 5 rfl ?_
    refine s_aload_n X dX3_init_33 1 rfl ?_
    refine s_len X dX3_init_34 (fun n2 => ?_)
    refine s_icmp_ge X 123 dX3_init_35 (by decide) (fun h3 => ?_) (fun h3 => ?_)
    · refine s_aload_n X dX3_init_123 0 rfl ?_
      refine s_iload X dX3_init_124 2 rfl ?_
      refine s_pf (x := zi x_4) X (C := RX3) (T := TX3) (N := 6) rfl (by decide) hiX3 tyX3 tyX3_ok nmX3 hl35 (Or.inr ⟨rfl, hnm, rfl⟩) rfl (fun E => ⟨rfl, rfl⟩) dX3_init_126 (fun M => ?_)
      refine s_aload_n X dX3_init_129 0 rfl ?_
      refine s_iload X dX3_init_130 3 rfl ?_
      refine s_pf (x := zi x_5) X (C := RX3) (T := TX3) (N := 6) rfl (by decide) hiX3 tyX3 tyX3_ok nmX3 hl38 (Or.inr ⟨rfl, hnm, rfl⟩) rfl (fun E => ⟨rfl, rfl⟩) dX3_init_132 (fun M => ?_)
      refine s_aload_n X dX3_init_135 0 rfl ?_
      refine s_iload X dX3_init_136 4 rfl ?_
      refine s_pf (x := zi x_6) X (C := RX3) (T := TX3) (N := 6) rfl (by decide) hiX3 tyX3 tyX3_ok nmX3 hl41 (Or.inr ⟨rfl, hnm, rfl⟩) rfl (fun E => ⟨rfl, rfl⟩) dX3_init_138 (fun M => ?_)
      exact s_retv X hr dX3_init_141
    · refine s_aload_n X dX3_init_38 1 rfl ?_
      refine s_iload X dX3_init_39 5 rfl ?_
      refine s_la X dX3_init_41 (fun r4 => ?_)
      refine s_astore X dX3_init_42 (by decide) [(8, za r4), (0, za ((some a0))), (2, za r_2), (4, zi x_4), (5, zi x_5), (6, zi x_6), (7, zi x_7)] rfl ?_
      refine s_iload X dX3_init_44 3 rfl ?_
      refine s_aload X dX3_init_46 0 rfl ?_
      refine s_gi X (C := RX7) (T := TX7) (N := 4) rfl (by decide) hiX7 hl23 dX3_init_48 (fun x5 => ?_)
      refine s_if_eq X 64 dX3_init_51 (by decide) (fun h6 => ?_) (fun h6 => ?_)
      · refine s_iconst X 0 dX3_init_64 (by decide) ?_
        refine s_lv [(0, za ((some a0))), (2, za r_2), (5, zi x_5), (6, zi x_6), (7, zi x_7), (8, za r4)] [1, 2, 4, 5, 6, 0] rfl ?_
        exact J65 r_2 x_5 x_6 x_7 r4 x_4 0 _
      · refine s_iconst X 1 dX3_init_54 (by decide) ?_
        refine s_aload X dX3_init_55 0 rfl ?_
        refine s_gi X (C := RX7) (T := TX7) (N := 4) rfl (by decide) hiX7 hl28 dX3_init_57 (fun x7 => ?_)
        refine s_ishl X dX3_init_60 ?_
        refine s_goto X 65 dX3_init_61 (by decide) ?_
        refine s_lv [(0, za ((some a0))), (2, za r_2), (5, zi x_5), (6, zi x_6), (7, zi x_7), (8, za r4)] [1, 2, 4, 5, 6, 0] rfl ?_
        exact J65 r_2 x_5 x_6 x_7 r4 x_4 ((1 : Int32) <<< (x7 &&& 31)) _
  refine s_aload_n X dX3_init_0 0 rfl ?_
  refine s_objInit X (by decide +kernel) (by decide +kernel) (by decide +kernel) dX3_init_1 ⟨by decide, fun E => by rw [z_wt_eq]; exact Nat.le_of_ble_eq_true rfl⟩ ?_
  refine s_aload_n X dX3_init_4 0 rfl ?_
  refine s_iload_n X dX3_init_5 1 rfl ?_
  refine s_ck (fun h1 => ?_)
  refine s_pf (x := zi p0) X (C := RX3) (T := TX3) (N := 6) rfl (by decide) hiX3 tyX3 tyX3_ok nmX3 hl9 (Or.inr ⟨rfl, hnm, rfl⟩) rfl (z_bfit h1) dX3_init_6 (fun M => ?_)
  refine s_aload_n X dX3_init_9 0 rfl ?_
  refine s_aload_n X dX3_init_10 2 rfl ?_
  refine s_pf (x := za q1) X (C := RX3) (T := TX3) (N := 6) rfl (by decide) hiX3 tyX3 tyX3_ok nmX3 hl15 (Or.inr ⟨rfl, hnm, rfl⟩) rfl (z_afit _ _) dX3_init_11 (fun M => ?_)
  refine s_aload_n X dX3_init_14 0 rfl ?_
  refine s_aload_n X dX3_init_15 3 rfl ?_
  refine s_pf (x := za q2) X (C := RX3) (T := TX3) (N := 6) rfl (by decide) hiX3 tyX3 tyX3_ok nmX3 hl19 (Or.inr ⟨rfl, hnm, rfl⟩) rfl (z_afit _ _) dX3_init_16 (fun M => ?_)
  refine s_iconst X 0 dX3_init_19 (by decide) ?_
  refine s_istore X dX3_init_20 (by decide) [(4, zi (0)), (0, za ((some a0))), (1, zi p0), (2, za q1), (3, za q2)] rfl ?_
  refine s_iconst X 0 dX3_init_22 (by decide) ?_
  refine s_istore X dX3_init_23 (by decide) [(5, zi (0)), (4, zi (0)), (0, za ((some a0))), (1, zi p0), (2, za q1), (3, za q2)] rfl ?_
  refine s_iconst X 0 dX3_init_25 (by decide) ?_
  refine s_istore X dX3_init_26 (by decide) [(6, zi (0)), (5, zi (0)), (4, zi (0)), (0, za ((some a0))), (1, zi p0), (2, za q1), (3, za q2)] rfl ?_
  refine s_iconst X 0 dX3_init_28 (by decide) ?_
  refine s_istore X dX3_init_29 (by decide) [(7, zi (0)), (6, zi (0)), (5, zi (0)), (4, zi (0)), (0, za ((some a0))), (1, zi p0), (2, za q1), (3, za q2)] rfl ?_
  refine s_lv [(0, za ((some a0))), (2, za q1), (4, zi (0)), (5, zi (0)), (6, zi (0)), (7, zi (0))] [4, 6, 3, 2, 1, 0] rfl ?_
  exact L31 z_N (q1, 0, 0, 0, 0) _
theorem hy_X4_isFull : yX4_isFull.cls = RX4 ∧ yX4_isFull.cls ≠ "java/lang/invoke/MethodHandle" ∧ yX4_isFull.cls ≠ "java/lang/invoke/VarHandle" ∧ (parseMethodDescriptor yX4_isFull.desc).map (fun d => d.parameters.length) = some 0 := by decide +kernel
set_option maxHeartbeats 4000000 in
set_option maxRecDepth 100000 in
theorem c_X4_isFull (l : Launch) (E : zE) (a0 : Nat) : z_Met l E yX4_isFull wsX4_isFull 0 0 [za ((some a0))] z_ri (F_X4_isFull a0) := by
  refine z_of (own := RX4) (cc := cX4_isFull) (maxL := 1) (rt := (some .boolean)) rfl (by decide) rfl (Nat.le_of_ble_eq_true rfl) ?_
  intro p e R s0 m args below meth c M0 fin X hr hnm
  have hiX4 : ∀ w ∈ u_ws RX4 TX4 3, w ∈ wsX4_isFull := by decide +kernel
  have hl21 : Cond.fieldLink RX4 21 (TX4 2).1 (TX4 2).2.1 (TX4 2).2.2.1 ∈ wsX4_isFull := by decide +kernel
  have J14 : ∀ (s_0 : Int32) (M : zM), z_S p l e R s0 m args below meth c (z_Qm E below args s0 M0 z_ri fin) E 1 M0 fin M 14 [] [zi s_0] (F_X4_isFull_14 a0 s_0) := by
    intro s_0 M
    exact s_retb X hr dX4_isFull_14
  refine s_aload_n X dX4_isFull_0 0 rfl ?_
  refine s_gi X (C := RX4) (T := TX4) (N := 3) rfl (by decide) hiX4 hl21 dX4_isFull_1 (fun x1 => ?_)
  refine s_bipush X 60 dX4_isFull_4 (by decide) ?_
  refine s_icmp_lt X 13 dX4_isFull_6 (by decide) (fun h2 => ?_) (fun h2 => ?_)
  · refine s_iconst X 0 dX4_isFull_13 (by decide) ?_
    refine s_lv [] [] rfl ?_
    exact J14 0 _
  · refine s_iconst X 1 dX4_isFull_9 (by decide) ?_
    refine s_goto X 14 dX4_isFull_10 (by decide) ?_
    refine s_lv [] [] rfl ?_
    exact J14 1 _
theorem hy_X4_keep : yX4_keep.cls = RX4 ∧ yX4_keep.cls ≠ "java/lang/invoke/MethodHandle" ∧ yX4_keep.cls ≠ "java/lang/invoke/VarHandle" ∧ (parseMethodDescriptor yX4_keep.desc).map (fun d => d.parameters.length) = some 3 := by decide +kernel
set_option maxHeartbeats 4000000 in
set_option maxRecDepth 100000 in
theorem c_X4_keep (l : Launch) (E : zE) (a0 : Nat) (p0 : Int32) (q1 : Option Nat) (q2 : Option Nat) : z_Met l E yX4_keep wsX4_keep 2 40 [za ((some a0)), zi p0, za q1, za q2] z_ri (F_X4_keep a0 p0 q1 q2) := by
  refine z_of (own := RX4) (cc := cX4_keep) (maxL := 4) (rt := (some .int)) rfl (by decide) rfl (Nat.le_of_ble_eq_true rfl) ?_
  intro p e R s0 m args below meth c M0 fin X hr hnm
  have hiX4 : ∀ w ∈ u_ws RX4 TX4 3, w ∈ wsX4_keep := by decide +kernel
  have hiX3 : ∀ w ∈ u_ws RX3 TX3 6, w ∈ wsX4_keep := by decide +kernel
  have hl11 : Cond.fieldLink RX4 11 (TX4 0).1 (TX4 0).2.1 (TX4 0).2.2.1 ∈ wsX4_keep := by decide +kernel
  have hl21 : Cond.fieldLink RX4 21 (TX4 2).1 (TX4 2).2.1 (TX4 2).2.2.1 ∈ wsX4_keep := by decide +kernel
  refine s_aload_n X dX4_keep_0 0 rfl ?_
  refine s_callV (ci := 4) (C := RX4) (As := []) (st := []) X (fun a => c_X4_isFull l E a) gX4_keep_X4_isFull rfl hy_X4_isFull rfl rfl rfl rfl (Nat.le_of_ble_eq_true rfl) (by decide) dX4_keep_1 (fun x1 M => ?_)
  refine s_if_eq X 10 dX4_keep_4 (by decide) (fun h3 => ?_) (fun h3 => ?_)
  · refine s_aload_n X dX4_keep_10 0 rfl ?_
    refine s_ga X (C := RX4) (T := TX4) (N := 3) rfl (by decide) hiX4 hl11 dX4_keep_11 (fun r4 => ?_)
    refine s_aload_n X dX4_keep_14 0 rfl ?_
    refine s_gi X (C := RX4) (T := TX4) (N := 3) rfl (by decide) hiX4 hl21 dX4_keep_15 (fun x5 => ?_)
    refine s_nwo (C := RX3) (T := TX3) (N := 6) (fs := [.int 0, .null, .null, .int 0, .int 0, .int 0]) X rfl hiX3 tyX3 tyX3_ok (by decide +kernel) (by decide +kernel) (by decide +kernel) rfl (fun E j hj => by rcases z_lt6 hj with rfl | rfl | rfl | rfl | rfl | rfl <;> rfl) dX4_keep_18 (fun a6 M => ?_)
    refine s_dup X dX4_keep_21 rfl ?_
    refine s_iload_n X dX4_keep_22 1 rfl ?_
    refine s_aload_n X dX4_keep_23 2 rfl ?_
    refine s_aload_n X dX4_keep_24 3 rfl ?_
    refine s_callI (a := a6) (As := [zi p0, za q1, za q2]) (st := [za ((some a6)), zi x5, za r4]) X (c_X3_init l E a6 p0 q1 q2) gX4_keep_X3_init rfl (by decide +kernel) (by decide +kernel) (by decide +kernel) rfl hy_X3_init rfl rfl (Nat.le_of_ble_eq_true rfl) (by decide) dX4_keep_25 (fun M => ?_)
    refine s_sa X dX4_keep_28 (fun M => ?_)
    refine s_aload_n X dX4_keep_29 0 rfl ?_
    refine s_dup X dX4_keep_30 rfl ?_
    refine s_gi X (C := RX4) (T := TX4) (N := 3) rfl (by decide) hiX4 hl21 dX4_keep_31 (fun x7 => ?_)
    refine s_iconst X 1 dX4_keep_34 (by decide) ?_
    refine s_iadd X dX4_keep_35 ?_
    refine s_pf (x := zi (x7 + 1)) X (C := RX4) (T := TX4) (N := 3) rfl (by decide) hiX4 tyX4 tyX4_ok nmX4 hl21 (Or.inl rfl) rfl (fun E => ⟨rfl, rfl⟩) dX4_keep_36 (fun M => ?_)
    refine s_aload_n X dX4_keep_39 0 rfl ?_
    refine s_gi X (C := RX4) (T := TX4) (N := 3) rfl (by decide) hiX4 hl21 dX4_keep_40 (fun x8 => ?_)
    refine s_iconst X 1 dX4_keep_43 (by decide) ?_
    refine s_isub X dX4_keep_44 ?_
    exact s_ret X hr dX4_keep_45
  · refine s_bipush X (-2) dX4_keep_7 (by decide) ?_
    exact s_ret X hr dX4_keep_9
theorem hy_X4_keepWide : yX4_keepWide.cls = RX4 ∧ yX4_keepWide.cls ≠ "java/lang/invoke/MethodHandle" ∧ yX4_keepWide.cls ≠ "java/lang/invoke/VarHandle" ∧ (parseMethodDescriptor yX4_keepWide.desc).map (fun d => d.parameters.length) = some 0 := by decide +kernel
set_option maxHeartbeats 4000000 in
set_option maxRecDepth 100000 in
theorem c_X4_keepWide (l : Launch) (E : zE) (a0 : Nat) : z_Met l E yX4_keepWide wsX4_keepWide 3 63 [za ((some a0))] z_ri (F_X4_keepWide a0) := by
  refine z_of (own := RX4) (cc := cX4_keepWide) (maxL := 1) (rt := (some .int)) rfl (by decide) rfl (Nat.le_of_ble_eq_true rfl) ?_
  intro p e R s0 m args below meth c M0 fin X hr hnm
  refine s_aload_n X dX4_keepWide_0 0 rfl ?_
  refine s_iconst X 1 dX4_keepWide_1 (by decide) ?_
  refine s_iconst X 0 dX4_keepWide_2 (by decide) ?_
  refine s_nwq (k := 15) (q0 := (RX7, TX7, 4)) X (by decide) (by decide) rfl (by decide +kernel) (by decide) dX4_keepWide_3 (fun a1 M => ?_)
  refine s_iconst X 0 dX4_keepWide_6 (by decide) ?_
  refine s_nwi X (by decide +kernel) dX4_keepWide_7 (fun a2 M => ?_)
  refine s_callV (ci := 4) (C := RX4) (As := [zi (1), za ((some a1)), za ((some a2))]) (st := []) X (fun a => c_X4_keep l E a 1 ((some a1)) ((some a2))) gX4_keepWide_X4_keep rfl hy_X4_keep rfl rfl rfl rfl (Nat.le_of_ble_eq_true rfl) (by decide) dX4_keepWide_9 (fun x3 M => ?_)
  exact s_ret X hr dX4_keepWide_12
theorem hy_X1_fits : yX1_fits.cls ≠ "java/lang/invoke/MethodHandle" ∧ yX1_fits.cls ≠ "java/lang/invoke/VarHandle" ∧ (parseMethodDescriptor yX1_fits.desc).map (fun d => d.parameters.length) = some 1 := by decide +kernel
set_option maxHeartbeats 4000000 in
set_option maxRecDepth 100000 in
theorem c_X1_fits (l : Launch) (E : zE) (p0 : Int32) : z_Met l E yX1_fits wsX1_fits 0 0 [zi p0] z_ri (F_X1_fits p0) := by
  refine z_of (own := RX1) (cc := cX1_fits) (maxL := 1) (rt := (some .boolean)) rfl (by decide) rfl (Nat.le_of_ble_eq_true rfl) ?_
  intro p e R s0 m args below meth c M0 fin X hr hnm
  have J15 : ∀ (s_0 : Int32) (M : zM), z_S p l e R s0 m args below meth c (z_Qm E below args s0 M0 z_ri fin) E 1 M0 fin M 15 [] [zi s_0] (F_X1_fits_15 s_0) := by
    intro s_0 M
    exact s_retb X hr dX1_fits_15
  refine s_iload_n X dX1_fits_0 0 rfl ?_
  refine s_ldc X 835584 dX1_fits_1 (by decide +kernel) ?_
  refine s_iadd X dX1_fits_3 ?_
  refine s_ldc X 2228224 dX1_fits_4 (by decide +kernel) ?_
  refine s_iand X dX1_fits_6 ?_
  refine s_if_ne X 14 dX1_fits_7 (by decide) (fun h1 => ?_) (fun h1 => ?_)
  · refine s_iconst X 0 dX1_fits_14 (by decide) ?_
    refine s_lv [] [] rfl ?_
    exact J15 0 _
  · refine s_iconst X 1 dX1_fits_10 (by decide) ?_
    refine s_goto X 15 dX1_fits_11 (by decide) ?_
    refine s_lv [] [] rfl ?_
    exact J15 1 _
theorem hy_X4_together : yX4_together.cls = RX4 ∧ yX4_together.cls ≠ "java/lang/invoke/MethodHandle" ∧ yX4_together.cls ≠ "java/lang/invoke/VarHandle" ∧ (parseMethodDescriptor yX4_together.desc).map (fun d => d.parameters.length) = some 2 := by decide +kernel
set_option maxHeartbeats 4000000 in
set_option maxRecDepth 100000 in
theorem c_X4_together (l : Launch) (E : zE) (a0 : Nat) (q0 : Option Nat) (q1 : Option Nat) : z_Met l E yX4_together wsX4_together 2 62 [za ((some a0)), za q0, za q1] z_ra (F_X4_together a0 q0 q1) := by
  refine z_of (own := RX4) (cc := cX4_together) (maxL := 5) (rt := (some (.array .int))) rfl (by decide) rfl (Nat.le_of_ble_eq_true rfl) ?_
  intro p e R s0 m args below meth c M0 fin X hr hnm
  have hiX4 : ∀ w ∈ u_ws RX4 TX4 3, w ∈ wsX4_together := by decide +kernel
  have hiX2 : ∀ w ∈ u_ws RX2 TX2 4, w ∈ wsX4_together := by decide +kernel
  have hl17 : Cond.fieldLink RX4 17 (TX4 1).1 (TX4 1).2.1 (TX4 1).2.2.1 ∈ wsX4_together := by decide +kernel
  have hl95 : Cond.fieldLink RX4 95 (TX2 1).1 (TX2 1).2.1 (TX2 1).2.2.1 ∈ wsX4_together := by decide +kernel
  have hl96 : Cond.fieldLink RX4 96 (TX2 3).1 (TX2 3).2.1 (TX2 3).2.2.1 ∈ wsX4_together := by decide +kernel
  have L9 : ∀ (n : Nat) (s : (Option Nat) × (Option Nat) × Int32) (M : zM), z_S p l e R s0 m args below meth c (z_Qm E below args s0 M0 z_ra fin) E 5 M0 fin M 9 [(0, za (some a0)), (1, za s.1), (2, za s.2.1), (3, zi s.2.2)] [] (F_X4_together_9 a0 n s) := by
    refine s_fix ?_
    intro ih9_ hih9
    have L18 : ∀ (n : Nat) (s : (Option Nat) × (Option Nat) × Int32 × Int32) (M : zM), z_S p l e R s0 m args below meth c (z_Qm E below args s0 M0 z_ra fin) E 5 M0 fin M 18 [(0, za (some a0)), (1, za s.1), (2, za s.2.1), (3, zi s.2.2.1), (4, zi s.2.2.2)] [] (F_X4_together_18 a0 (fun y0 y1 y2 => ih9_ (y0, y1, y2)) n s) := by
      refine s_fix ?_
      intro ih18_ hih18
      have J55 : ∀ (r_1 : Option Nat) (r_2 : Option Nat) (x_3 : Int32) (x_4 : Int32) (M : zM), z_S p l e R s0 m args below meth c (z_Qm E below args s0 M0 z_ra fin) E 5 M0 fin M 55 [(0, za ((some a0))), (1, za r_1), (2, za r_2), (3, zi x_3), (4, zi x_4)] [] (F_X4_together_55 a0 (fun y0 y1 y2 => ih9_ (y0, y1, y2)) (fun y0 y1 y2 y3 => ih18_ (y0, y1, y2, y3)) r_1 r_2 x_3 x_4) := by
        intro r_1 r_2 x_3 x_4 M
        refine s_iinc X 1 dX4_together_55 4 rfl (by decide) (by decide) [(4, zi (x_4 + 1)), (0, za ((some a0))), (1, za r_1), (2, za r_2), (3, zi x_3)] rfl ?_
        refine s_goto X 18 dX4_together_58 (by decide) ?_
        refine s_lv [(0, za ((some a0))), (1, za r_1), (2, za r_2), (3, zi x_3), (4, zi (x_4 + 1))] [1, 2, 3, 4, 0] rfl ?_
        exact hih18 (r_1, r_2, x_3, x_4 + 1) _
      rintro ⟨r_1, r_2, x_3, x_4⟩ M
      refine s_iload X dX4_together_18 4 rfl ?_
      refine s_aload_n X dX4_together_20 2 rfl ?_
      refine s_len X dX4_together_21 (fun n10 => ?_)
      refine s_icmp_ge X 61 dX4_together_22 (by decide) (fun h11 => ?_) (fun h11 => ?_)
      · refine s_iinc X 1 dX4_together_61 3 rfl (by decide) (by decide) [(3, zi (x_3 + 1)), (0, za ((some a0))), (1, za r_1), (2, za r_2), (4, zi x_4)] rfl ?_
        refine s_goto X 9 dX4_together_64 (by decide) ?_
        refine s_lv [(0, za ((some a0))), (1, za r_1), (2, za r_2), (3, zi (x_3 + 1))] [1, 2, 3, 0] rfl ?_
        exact hih9 (r_1, r_2, x_3 + 1) _
      · refine s_aload_n X dX4_together_25 1 rfl ?_
        refine s_iload_n X dX4_together_26 3 rfl ?_
        refine s_li X dX4_together_27 (fun x12 => ?_)
        refine s_aload_n X dX4_together_28 2 rfl ?_
        refine s_iload X dX4_together_29 4 rfl ?_
        refine s_li X dX4_together_31 (fun x13 => ?_)
        refine s_iadd X dX4_together_32 ?_
        refine s_callS (As := [zi (x12 + x13)]) (st := []) X (c_X1_fits l E (x12 + x13)) gX4_together_X1_fits rfl hy_X1_fits rfl rfl (Nat.le_of_ble_eq_true rfl) (by decide) dX4_together_33 (fun x14 M => ?_)
        refine s_if_eq X 55 dX4_together_36 (by decide) (fun h15 => ?_) (fun h15 => ?_)
        · exact J55 r_1 r_2 x_3 x_4 _
        · refine s_aload_n X dX4_together_39 0 rfl ?_
          refine s_ga X (C := RX4) (T := TX4) (N := 3) rfl (by decide) hiX4 hl17 dX4_together_40 (fun r16 => ?_)
          refine s_aload_n X dX4_together_43 1 rfl ?_
          refine s_iload_n X dX4_together_44 3 rfl ?_
          refine s_li X dX4_together_45 (fun x17 => ?_)
          refine s_aload_n X dX4_together_46 2 rfl ?_
          refine s_iload X dX4_together_47 4 rfl ?_
          refine s_li X dX4_together_49 (fun x18 => ?_)
          refine s_iadd X dX4_together_50 ?_
          refine s_callV (ci := 2) (C := RX2) (As := [zi (x17 + x18)]) (st := []) X (fun a => c_X2_enter l E a (x17 + x18)) gX4_together_X2_enter rfl hy_X2_enter rfl rfl rfl rfl (Nat.le_of_ble_eq_true rfl) (by decide) dX4_together_51 (fun x19 M => ?_)
          refine s_pop X dX4_together_54 rfl ?_
          exact J55 r_1 r_2 x_3 x_4 _
    rintro ⟨r_1, r_2, x_3⟩ M
    refine s_iload_n X dX4_together_9 3 rfl ?_
    refine s_aload_n X dX4_together_10 1 rfl ?_
    refine s_len X dX4_together_11 (fun n3 => ?_)
    refine s_icmp_ge X 67 dX4_together_12 (by decide) (fun h4 => ?_) (fun h4 => ?_)
    · refine s_aload_n X dX4_together_67 0 rfl ?_
      refine s_ga X (C := RX4) (T := TX4) (N := 3) rfl (by decide) hiX4 hl17 dX4_together_68 (fun r5 => ?_)
      refine s_ga X (C := RX2) (T := TX2) (N := 4) rfl (by decide) hiX2 hl95 dX4_together_71 (fun r6 => ?_)
      refine s_aload_n X dX4_together_74 0 rfl ?_
      refine s_ga X (C := RX4) (T := TX4) (N := 3) rfl (by decide) hiX4 hl17 dX4_together_75 (fun r7 => ?_)
      refine s_gi X (C := RX2) (T := TX2) (N := 4) rfl (by decide) hiX2 hl96 dX4_together_78 (fun x8 => ?_)
      refine s_callS (As := [za r6, zi x8]) (st := []) X (c_J7_copyOf_59c91 l E r6 x8) gX4_together_J7_copyOf_59c91 rfl hy_J7_copyOf_59c91 rfl rfl (Nat.le_of_ble_eq_true rfl) (by decide) dX4_together_81 (fun r9 M => ?_)
      exact s_reta X hr (Or.inr ⟨_, rfl⟩) dX4_together_84
    · refine s_iconst X 0 dX4_together_15 (by decide) ?_
      refine s_istore X dX4_together_16 (by decide) [(4, zi (0)), (0, za ((some a0))), (1, za r_1), (2, za r_2), (3, zi x_3)] rfl ?_
      refine s_lv [(0, za ((some a0))), (1, za r_1), (2, za r_2), (3, zi x_3), (4, zi (0))] [1, 2, 3, 4, 0] rfl ?_
      exact L18 z_N (r_1, r_2, x_3, 0) _
  refine s_aload_n X dX4_together_0 0 rfl ?_
  refine s_ga X (C := RX4) (T := TX4) (N := 3) rfl (by decide) hiX4 hl17 dX4_together_1 (fun r1 => ?_)
  refine s_callV (ci := 2) (C := RX2) (As := []) (st := []) X (fun a => c_X2_clear l E a) gX4_together_X2_clear rfl hy_X2_clear rfl rfl rfl rfl (Nat.le_of_ble_eq_true rfl) (by decide) dX4_together_4 (fun _ M => ?_)
  refine s_iconst X 0 dX4_together_7 (by decide) ?_
  refine s_istore_n X dX4_together_8 (by decide) [(3, zi (0)), (0, za ((some a0))), (1, za q0), (2, za q1)] rfl ?_
  refine s_lv [(0, za ((some a0))), (1, za q0), (2, za q1), (3, zi (0))] [1, 2, 3, 0] rfl ?_
  exact L9 z_N (q0, q1, 0) _
theorem hy_X7_union : yX7_union.cls ≠ "java/lang/invoke/MethodHandle" ∧ yX7_union.cls ≠ "java/lang/invoke/VarHandle" ∧ (parseMethodDescriptor yX7_union.desc).map (fun d => d.parameters.length) = some 2 := by decide +kernel
set_option maxHeartbeats 4000000 in
set_option maxRecDepth 100000 in
theorem c_X7_union (l : Launch) (E : zE) (q0 : Option Nat) (q1 : Option Nat) : z_Met l E yX7_union wsX7_union 1 22 [za q0, za q1] z_ra (F_X7_union q0 q1) := by
  refine z_of (own := RX7) (cc := cX7_union) (maxL := 6) (rt := (some (.array (.object "ShexMatch$Place")))) rfl (by decide) rfl (Nat.le_of_ble_eq_true rfl) ?_
  intro p e R s0 m args below meth c M0 fin X hr hnm
  have hiX7 : ∀ w ∈ u_ws RX7 TX7 4, w ∈ wsX7_union := by decide +kernel
  have hl9 : Cond.fieldLink RX7 9 (TX7 0).1 (TX7 0).2.1 (TX7 0).2.2.1 ∈ wsX7_union := by decide +kernel
  have L74 : ∀ (n : Nat) (s : (Option Nat) × (Option Nat) × Int32 × (Option Nat) × Int32 × Int32) (M : zM), z_S p l e R s0 m args below meth c (z_Qm E below args s0 M0 z_ra fin) E 6 M0 fin M 74 [(0, za s.1), (1, za s.2.1), (2, zi s.2.2.1), (3, za s.2.2.2.1), (4, zi s.2.2.2.2.1), (5, zi s.2.2.2.2.2)] [] (F_X7_union_74 n s) := by
    refine s_fix ?_
    intro ih74_ hih74
    have J112 : ∀ (r_0 : Option Nat) (r_1 : Option Nat) (x_2 : Int32) (r_3 : Option Nat) (x_4 : Int32) (x_5 : Int32) (M : zM), z_S p l e R s0 m args below meth c (z_Qm E below args s0 M0 z_ra fin) E 6 M0 fin M 112 [(0, za r_0), (1, za r_1), (2, zi x_2), (3, za r_3), (4, zi x_4), (5, zi x_5)] [] (F_X7_union_112 (fun y0 y1 y2 y3 y4 y5 => ih74_ (y0, y1, y2, y3, y4, y5)) r_0 r_1 x_2 r_3 x_4 x_5) := by
      intro r_0 r_1 x_2 r_3 x_4 x_5 M
      refine s_iinc X 1 dX7_union_112 5 rfl (by decide) (by decide) [(5, zi (x_5 + 1)), (0, za r_0), (1, za r_1), (2, zi x_2), (3, za r_3), (4, zi x_4)] rfl ?_
      refine s_goto X 74 dX7_union_115 (by decide) ?_
      refine s_lv [(0, za r_0), (1, za r_1), (2, zi x_2), (3, za r_3), (4, zi x_4), (5, zi (x_5 + 1))] [1, 2, 3, 4, 5, 0] rfl ?_
      exact hih74 (r_0, r_1, x_2, r_3, x_4, x_5 + 1) _
    rintro ⟨r_0, r_1, x_2, r_3, x_4, x_5⟩ M
    refine s_iload X dX7_union_74 5 rfl ?_
    refine s_aload_n X dX7_union_76 1 rfl ?_
    refine s_len X dX7_union_77 (fun n14 => ?_)
    refine s_icmp_ge X 118 dX7_union_78 (by decide) (fun h15 => ?_) (fun h15 => ?_)
    · refine s_aload_n X dX7_union_118 3 rfl ?_
      exact s_reta X hr (Or.inr ⟨_, rfl⟩) dX7_union_119
    · refine s_aload_n X dX7_union_81 0 rfl ?_
      refine s_aload_n X dX7_union_82 1 rfl ?_
      refine s_iload X dX7_union_83 5 rfl ?_
      refine s_la X dX7_union_85 (fun r16 => ?_)
      refine s_gi X (C := RX7) (T := TX7) (N := 4) rfl (by decide) hiX7 hl9 dX7_union_86 (fun x17 => ?_)
      refine s_callS (As := [za r_0, zi x17]) (st := []) X (c_X7_slotOf l E r_0 x17) gX7_union_X7_slotOf rfl hy_X7_slotOf rfl rfl (Nat.le_of_ble_eq_true rfl) (by decide) dX7_union_89 (fun x18 M => ?_)
      refine s_if_ge X 112 dX7_union_92 (by decide) (fun h19 => ?_) (fun h19 => ?_)
      · exact J112 r_0 r_1 x_2 r_3 x_4 x_5 _
      · refine s_iload X dX7_union_95 4 rfl ?_
        refine s_iload_n X dX7_union_97 2 rfl ?_
        refine s_icmp_ge X 112 dX7_union_98 (by decide) (fun h20 => ?_) (fun h20 => ?_)
        · exact J112 r_0 r_1 x_2 r_3 x_4 x_5 _
        · refine s_aload_n X dX7_union_101 3 rfl ?_
          refine s_iload X dX7_union_102 4 rfl ?_
          refine s_aload_n X dX7_union_104 1 rfl ?_
          refine s_iload X dX7_union_105 5 rfl ?_
          refine s_la X dX7_union_107 (fun r21 => ?_)
          refine s_sa X dX7_union_108 (fun M => ?_)
          refine s_iinc X 1 dX7_union_109 4 rfl (by decide) (by decide) [(4, zi (x_4 + 1)), (0, za r_0), (1, za r_1), (2, zi x_2), (3, za r_3), (5, zi x_5)] rfl ?_
          refine s_lv [(0, za r_0), (1, za r_1), (2, zi x_2), (3, za r_3), (4, zi (x_4 + 1)), (5, zi x_5)] [1, 2, 3, 4, 0, 5] rfl ?_
          exact J112 r_0 r_1 x_2 r_3 (x_4 + 1) x_5 _
  have L46 : ∀ (n : Nat) (s : (Option Nat) × (Option Nat) × Int32 × (Option Nat) × Int32) (M : zM), z_S p l e R s0 m args below meth c (z_Qm E below args s0 M0 z_ra fin) E 6 M0 fin M 46 [(0, za s.1), (1, za s.2.1), (2, zi s.2.2.1), (3, za s.2.2.2.1), (4, zi s.2.2.2.2)] [] (F_X7_union_46 n s) := by
    refine s_fix ?_
    intro ih46_ hih46
    rintro ⟨r_0, r_1, x_2, r_3, x_4⟩ M
    refine s_iload X dX7_union_46 4 rfl ?_
    refine s_aload_n X dX7_union_48 0 rfl ?_
    refine s_len X dX7_union_49 (fun n10 => ?_)
    refine s_icmp_ge X 67 dX7_union_50 (by decide) (fun h11 => ?_) (fun h11 => ?_)
    · refine s_aload_n X dX7_union_67 0 rfl ?_
      refine s_len X dX7_union_68 (fun n12 => ?_)
      refine s_istore X dX7_union_69 (by decide) [(4, zi n12), (0, za r_0), (1, za r_1), (2, zi x_2), (3, za r_3)] rfl ?_
      refine s_iconst X 0 dX7_union_71 (by decide) ?_
      refine s_istore X dX7_union_72 (by decide) [(5, zi (0)), (4, zi n12), (0, za r_0), (1, za r_1), (2, zi x_2), (3, za r_3)] rfl ?_
      refine s_lv [(0, za r_0), (1, za r_1), (2, zi x_2), (3, za r_3), (4, zi n12), (5, zi (0))] [2, 3, 4, 5, 1, 0] rfl ?_
      exact L74 z_N (r_0, r_1, x_2, r_3, n12, 0) _
    · refine s_aload_n X dX7_union_53 3 rfl ?_
      refine s_iload X dX7_union_54 4 rfl ?_
      refine s_aload_n X dX7_union_56 0 rfl ?_
      refine s_iload X dX7_union_57 4 rfl ?_
      refine s_la X dX7_union_59 (fun r13 => ?_)
      refine s_sa X dX7_union_60 (fun M => ?_)
      refine s_iinc X 1 dX7_union_61 4 rfl (by decide) (by decide) [(4, zi (x_4 + 1)), (0, za r_0), (1, za r_1), (2, zi x_2), (3, za r_3)] rfl ?_
      refine s_goto X 46 dX7_union_64 (by decide) ?_
      refine s_lv [(0, za r_0), (1, za r_1), (2, zi x_2), (3, za r_3), (4, zi (x_4 + 1))] [1, 2, 3, 4, 0] rfl ?_
      exact hih46 (r_0, r_1, x_2, r_3, x_4 + 1) _
  have L5 : ∀ (n : Nat) (s : (Option Nat) × (Option Nat) × Int32 × Int32) (M : zM), z_S p l e R s0 m args below meth c (z_Qm E below args s0 M0 z_ra fin) E 6 M0 fin M 5 [(0, za s.1), (1, za s.2.1), (2, zi s.2.2.1), (3, zi s.2.2.2)] [] (F_X7_union_5 n s) := by
    refine s_fix ?_
    intro ih5_ hih5
    have J30 : ∀ (r_0 : Option Nat) (r_1 : Option Nat) (x_3 : Int32) (s_0 : Int32) (s_1 : Int32) (M : zM), z_S p l e R s0 m args below meth c (z_Qm E below args s0 M0 z_ra fin) E 6 M0 fin M 30 [(0, za r_0), (1, za r_1), (3, zi x_3)] [zi s_1, zi s_0] (F_X7_union_30 (fun y0 y1 y2 y3 => ih5_ (y0, y1, y2, y3)) r_0 r_1 x_3 s_0 s_1) := by
      intro r_0 r_1 x_3 s_0 s_1 M
      refine s_iadd X dX7_union_30 ?_
      refine s_let (fun x9 => ?_)
      refine s_istore_n X dX7_union_31 (by decide) [(2, zi x9), (0, za r_0), (1, za r_1), (3, zi x_3)] rfl ?_
      refine s_iinc X 1 dX7_union_32 3 rfl (by decide) (by decide) [(3, zi (x_3 + 1)), (2, zi x9), (0, za r_0), (1, za r_1)] rfl ?_
      refine s_goto X 5 dX7_union_35 (by decide) ?_
      refine s_lv [(0, za r_0), (1, za r_1), (2, zi x9), (3, zi (x_3 + 1))] [2, 3, 1, 0] rfl ?_
      exact hih5 (r_0, r_1, x9, x_3 + 1) _
    rintro ⟨r_0, r_1, x_2, x_3⟩ M
    refine s_iload_n X dX7_union_5 3 rfl ?_
    refine s_aload_n X dX7_union_6 1 rfl ?_
    refine s_len X dX7_union_7 (fun n2 => ?_)
    refine s_icmp_ge X 38 dX7_union_8 (by decide) (fun h3 => ?_) (fun h3 => ?_)
    · refine s_iload_n X dX7_union_38 2 rfl ?_
      refine s_nwq (k := 15) (q0 := (RX7, TX7, 4)) X (by decide) (by decide) rfl (by decide +kernel) (by decide) dX7_union_39 (fun a4 M => ?_)
      refine s_astore_n X dX7_union_42 (by decide) [(3, za ((some a4))), (0, za r_0), (1, za r_1), (2, zi x_2)] rfl ?_
      refine s_iconst X 0 dX7_union_43 (by decide) ?_
      refine s_istore X dX7_union_44 (by decide) [(4, zi (0)), (3, za ((some a4))), (0, za r_0), (1, za r_1), (2, zi x_2)] rfl ?_
      refine s_lv [(0, za r_0), (1, za r_1), (2, zi x_2), (3, za ((some a4))), (4, zi (0))] [2, 3, 4, 1, 0] rfl ?_
      exact L46 z_N (r_0, r_1, x_2, (some a4), 0) _
    · refine s_iload_n X dX7_union_11 2 rfl ?_
      refine s_aload_n X dX7_union_12 0 rfl ?_
      refine s_aload_n X dX7_union_13 1 rfl ?_
      refine s_iload_n X dX7_union_14 3 rfl ?_
      refine s_la X dX7_union_15 (fun r5 => ?_)
      refine s_gi X (C := RX7) (T := TX7) (N := 4) rfl (by decide) hiX7 hl9 dX7_union_16 (fun x6 => ?_)
      refine s_callS (As := [za r_0, zi x6]) (st := [zi x_2]) X (c_X7_slotOf l E r_0 x6) gX7_union_X7_slotOf rfl hy_X7_slotOf rfl rfl (Nat.le_of_ble_eq_true rfl) (by decide) dX7_union_19 (fun x7 M => ?_)
      refine s_if_ge X 29 dX7_union_22 (by decide) (fun h8 => ?_) (fun h8 => ?_)
      · refine s_iconst X 0 dX7_union_29 (by decide) ?_
        refine s_lv [(0, za r_0), (1, za r_1), (3, zi x_3)] [0, 1, 3] rfl ?_
        exact J30 r_0 r_1 x_3 x_2 0 _
      · refine s_iconst X 1 dX7_union_25 (by decide) ?_
        refine s_goto X 30 dX7_union_26 (by decide) ?_
        refine s_lv [(0, za r_0), (1, za r_1), (3, zi x_3)] [0, 1, 3] rfl ?_
        exact J30 r_0 r_1 x_3 x_2 1 _
  refine s_aload_n X dX7_union_0 0 rfl ?_
  refine s_len X dX7_union_1 (fun n1 => ?_)
  refine s_istore_n X dX7_union_2 (by decide) [(2, zi n1), (0, za q0), (1, za q1)] rfl ?_
  refine s_iconst X 0 dX7_union_3 (by decide) ?_
  refine s_istore_n X dX7_union_4 (by decide) [(3, zi (0)), (2, zi n1), (0, za q0), (1, za q1)] rfl ?_
  refine s_lv [(0, za q0), (1, za q1), (2, zi n1), (3, zi (0))] [2, 3, 1, 0] rfl ?_
  exact L5 z_N (q0, q1, n1, 0) _
theorem hy_X4_addPair : yX4_addPair.cls = RX4 ∧ yX4_addPair.cls ≠ "java/lang/invoke/MethodHandle" ∧ yX4_addPair.cls ≠ "java/lang/invoke/VarHandle" ∧ (parseMethodDescriptor yX4_addPair.desc).map (fun d => d.parameters.length) = some 3 := by decide +kernel
set_option maxHeartbeats 4000000 in
set_option maxRecDepth 100000 in
theorem c_X4_addPair (l : Launch) (E : zE) (a0 : Nat) (p0 : Int32) (q1 : Option Nat) (q2 : Option Nat) : z_Met l E yX4_addPair wsX4_addPair 4 86 [za ((some a0)), zi p0, za q1, za q2] z_ri (F_X4_addPair a0 p0 q1 q2) := by
  refine z_of (own := RX4) (cc := cX4_addPair) (maxL := 7) (rt := (some .int)) rfl (by decide) rfl (Nat.le_of_ble_eq_true rfl) ?_
  intro p e R s0 m args below meth c M0 fin X hr hnm
  have hiX3 : ∀ w ∈ u_ws RX3 TX3 6, w ∈ wsX4_addPair := by decide +kernel
  have hl47 : Cond.fieldLink RX4 47 (TX3 0).1 (TX3 0).2.1 (TX3 0).2.2.1 ∈ wsX4_addPair := by decide +kernel
  have hl55 : Cond.fieldLink RX4 55 (TX3 1).1 (TX3 1).2.1 (TX3 1).2.2.1 ∈ wsX4_addPair := by decide +kernel
  have hl63 : Cond.fieldLink RX4 63 (TX3 2).1 (TX3 2).2.1 (TX3 2).2.2.1 ∈ wsX4_addPair := by decide +kernel
  have J122 : ∀ (t_0 : Option Nat) (s_1 : Int32) (t_2 : Option Nat) (t_3 : Option Nat) (M : zM), z_S p l e R s0 m args below meth c (z_Qm E below args s0 M0 z_ri fin) E 7 M0 fin M 122 [] [za t_3, za t_2, zi s_1, za t_0] (F_X4_addPair_122 a0 t_0 s_1 t_2 t_3) := by
    intro t_0 s_1 t_2 t_3 M
    refine s_callV (ci := 4) (C := RX4) (As := [zi s_1, za t_2, za t_3]) (st := []) X (fun a => c_X4_keep l E a s_1 t_2 t_3) gX4_addPair_X4_keep rfl hy_X4_keep rfl rfl rfl rfl (Nat.le_of_ble_eq_true rfl) (by decide) dX4_addPair_122 (fun x28 M => ?_)
    exact s_ret X hr dX4_addPair_125
  have L56 : ∀ (n : Nat) (s : Int32 × (Option Nat) × (Option Nat) × (Option Nat) × (Option Nat) × Int32) (M : zM), z_S p l e R s0 m args below meth c (z_Qm E below args s0 M0 z_ri fin) E 7 M0 fin M 56 [(0, za (some a0)), (1, zi s.1), (2, za s.2.1), (3, za s.2.2.1), (4, za s.2.2.2.1), (5, za s.2.2.2.2.1), (6, zi s.2.2.2.2.2)] [] (F_X4_addPair_56 a0 n s) := by
    refine s_fix ?_
    intro ih56_ hih56
    rintro ⟨x_1, r_2, r_3, r_4, r_5, x_6⟩ M
    refine s_iload X dX4_addPair_56 6 rfl ?_
    refine s_aload X dX4_addPair_58 5 rfl ?_
    refine s_len X dX4_addPair_60 (fun n15 => ?_)
    refine s_icmp_ge X 91 dX4_addPair_61 (by decide) (fun h16 => ?_) (fun h16 => ?_)
    · refine s_aload_n X dX4_addPair_91 0 rfl ?_
      refine s_iconst X 0 dX4_addPair_92 (by decide) ?_
      refine s_aload X dX4_addPair_93 4 rfl ?_
      refine s_iload_n X dX4_addPair_95 1 rfl ?_
      refine s_if_eq X 112 dX4_addPair_96 (by decide) (fun h17 => ?_) (fun h17 => ?_)
      · refine s_aload_n X dX4_addPair_112 0 rfl ?_
        refine s_aload_n X dX4_addPair_113 2 rfl ?_
        refine s_ga X (C := RX3) (T := TX3) (N := 6) rfl (by decide) hiX3 hl63 dX4_addPair_114 (fun r18 => ?_)
        refine s_aload X dX4_addPair_117 5 rfl ?_
        refine s_callV (ci := 4) (C := RX4) (As := [za r18, za r_5]) (st := [za r_4, zi (0), za ((some a0))]) X (fun a => c_X4_eitherOf l E a r18 r_5) gX4_addPair_X4_eitherOf rfl hy_X4_eitherOf rfl rfl rfl rfl (Nat.le_of_ble_eq_true rfl) (by decide) dX4_addPair_119 (fun r19 M => ?_)
        refine s_lv [] [] rfl ?_
        exact J122 ((some a0)) 0 r_4 r19 _
      · refine s_aload_n X dX4_addPair_99 0 rfl ?_
        refine s_aload_n X dX4_addPair_100 2 rfl ?_
        refine s_ga X (C := RX3) (T := TX3) (N := 6) rfl (by decide) hiX3 hl63 dX4_addPair_101 (fun r21 => ?_)
        refine s_aload X dX4_addPair_104 5 rfl ?_
        refine s_callV (ci := 4) (C := RX4) (As := [za r21, za r_5]) (st := [za r_4, zi (0), za ((some a0))]) X (fun a => c_X4_together l E a r21 r_5) gX4_addPair_X4_together rfl hy_X4_together rfl rfl rfl rfl (Nat.le_of_ble_eq_true rfl) (by decide) dX4_addPair_106 (fun r22 M => ?_)
        refine s_goto X 122 dX4_addPair_109 (by decide) ?_
        refine s_lv [] [] rfl ?_
        exact J122 ((some a0)) 0 r_4 r22 _
    · refine s_aload X dX4_addPair_64 5 rfl ?_
      refine s_iload X dX4_addPair_66 6 rfl ?_
      refine s_aload_n X dX4_addPair_68 3 rfl ?_
      refine s_ga X (C := RX3) (T := TX3) (N := 6) rfl (by decide) hiX3 hl63 dX4_addPair_69 (fun r24 => ?_)
      refine s_iload X dX4_addPair_72 6 rfl ?_
      refine s_li X dX4_addPair_74 (fun x25 => ?_)
      refine s_aload_n X dX4_addPair_75 3 rfl ?_
      refine s_ga X (C := RX3) (T := TX3) (N := 6) rfl (by decide) hiX3 hl55 dX4_addPair_76 (fun r26 => ?_)
      refine s_aload X dX4_addPair_79 4 rfl ?_
      refine s_callS (As := [zi x25, za r26, za r_4]) (st := [zi x_6, za r_5]) X (c_X1_moved l E x25 r26 r_4) gX4_addPair_X1_moved rfl hy_X1_moved rfl rfl (Nat.le_of_ble_eq_true rfl) (by decide) dX4_addPair_81 (fun x27 M => ?_)
      refine s_si X dX4_addPair_84 (fun M => ?_)
      refine s_iinc X 1 dX4_addPair_85 6 rfl (by decide) (by decide) [(6, zi (x_6 + 1)), (0, za ((some a0))), (1, zi x_1), (2, za r_2), (3, za r_3), (4, za r_4), (5, za r_5)] rfl ?_
      refine s_goto X 56 dX4_addPair_88 (by decide) ?_
      refine s_lv [(0, za ((some a0))), (1, zi x_1), (2, za r_2), (3, za r_3), (4, za r_4), (5, za r_5), (6, zi (x_6 + 1))] [1, 2, 3, 4, 5, 6, 0] rfl ?_
      exact hih56 (x_1, r_2, r_3, r_4, r_5, x_6 + 1) _
  have J14 : ∀ (M : zM), z_S p l e R s0 m args below meth c (z_Qm E below args s0 M0 z_ri fin) E 7 M0 fin M 14 [(0, za ((some a0)))] [] (F_X4_addPair_14 a0) := by
    intro M
    refine s_aload_n X dX4_addPair_14 0 rfl ?_
    refine s_callV (ci := 4) (C := RX4) (As := []) (st := []) X (fun a => c_X4_keepWide l E a) gX4_addPair_X4_keepWide rfl hy_X4_keepWide rfl rfl rfl rfl (Nat.le_of_ble_eq_true rfl) (by decide) dX4_addPair_15 (fun x30 M => ?_)
    exact s_ret X hr dX4_addPair_18
  refine s_aload_n X dX4_addPair_0 2 rfl ?_
  refine s_gi X (C := RX3) (T := TX3) (N := 6) rfl (by decide) hiX3 hl47 dX4_addPair_1 (fun x1 => ?_)
  refine s_if_ne X 14 dX4_addPair_4 (by decide) (fun h2 => ?_) (fun h2 => ?_)
  · refine s_lv [(0, za ((some a0)))] [0] rfl ?_
    exact J14 _
  · refine s_aload_n X dX4_addPair_7 3 rfl ?_
    refine s_gi X (C := RX3) (T := TX3) (N := 6) rfl (by decide) hiX3 hl47 dX4_addPair_8 (fun x3 => ?_)
    refine s_if_eq X 19 dX4_addPair_11 (by decide) (fun h4 => ?_) (fun h4 => ?_)
    · refine s_aload_n X dX4_addPair_19 2 rfl ?_
      refine s_ga X (C := RX3) (T := TX3) (N := 6) rfl (by decide) hiX3 hl55 dX4_addPair_20 (fun r5 => ?_)
      refine s_aload_n X dX4_addPair_23 3 rfl ?_
      refine s_ga X (C := RX3) (T := TX3) (N := 6) rfl (by decide) hiX3 hl55 dX4_addPair_24 (fun r6 => ?_)
      refine s_callS (As := [za r5, za r6]) (st := []) X (c_X7_union l E r5 r6) gX4_addPair_X7_union rfl hy_X7_union rfl rfl (Nat.le_of_ble_eq_true rfl) (by decide) dX4_addPair_27 (fun r7 M => ?_)
      refine s_astore X dX4_addPair_30 (by decide) [(4, za r7), (0, za ((some a0))), (1, zi p0), (2, za q1), (3, za q2)] rfl ?_
      refine s_aload X dX4_addPair_32 0 rfl ?_
      refine s_len X dX4_addPair_34 (fun n8 => ?_)
      refine s_iconst X 5 dX4_addPair_35 (by decide) ?_
      refine s_icmp_le X 44 dX4_addPair_36 (by decide) (fun h9 => ?_) (fun h9 => ?_)
      · refine s_aload_n X dX4_addPair_44 4 rfl ?_
        refine s_ga X (C := RX3) (T := TX3) (N := 6) rfl (by decide) hiX3 hl63 dX4_addPair_45 (fun r10 => ?_)
        refine s_len X dX4_addPair_48 (fun n11 => ?_)
        refine s_nwi X (by decide +kernel) dX4_addPair_49 (fun a12 M => ?_)
        refine s_astore X dX4_addPair_51 (by decide) [(5, za ((some a12))), (4, za r7), (0, za ((some a0))), (1, zi p0), (2, za q1), (3, za q2)] rfl ?_
        refine s_iconst X 0 dX4_addPair_53 (by decide) ?_
        refine s_istore X dX4_addPair_54 (by decide) [(6, zi (0)), (5, za ((some a12))), (4, za r7), (0, za ((some a0))), (1, zi p0), (2, za q1), (3, za q2)] rfl ?_
        refine s_lv [(0, za ((some a0))), (1, zi p0), (2, za q1), (3, za q2), (4, za r7), (5, za ((some a12))), (6, zi (0))] [3, 4, 5, 6, 2, 1, 0] rfl ?_
        exact L56 z_N (p0, q1, q2, r7, (some a12), 0) _
      · refine s_aload_n X dX4_addPair_39 1 rfl ?_
        refine s_callV (ci := 4) (C := RX4) (As := []) (st := []) X (fun a => c_X4_keepWide l E a) gX4_addPair_X4_keepWide rfl hy_X4_keepWide rfl rfl rfl rfl (Nat.le_of_ble_eq_true rfl) (by decide) dX4_addPair_40 (fun x13 M => ?_)
        exact s_ret X hr dX4_addPair_43
    · refine s_lv [(0, za ((some a0)))] [0] rfl ?_
      exact J14 _
theorem hy_X4_find : yX4_find.cls = RX4 ∧ yX4_find.cls ≠ "java/lang/invoke/MethodHandle" ∧ yX4_find.cls ≠ "java/lang/invoke/VarHandle" ∧ (parseMethodDescriptor yX4_find.desc).map (fun d => d.parameters.length) = some 1 := by decide +kernel
set_option maxHeartbeats 4000000 in
set_option maxRecDepth 100000 in
theorem c_X4_find (l : Launch) (E : zE) (a0 : Nat) (p0 : Int32) : z_Met l E yX4_find wsX4_find 0 0 [za ((some a0)), zi p0] z_ra (F_X4_find a0 p0) := by
  refine z_of (own := RX4) (cc := cX4_find) (maxL := 2) (rt := (some (.object "ShexMatch$Expression"))) rfl (by decide) rfl (Nat.le_of_ble_eq_true rfl) ?_
  intro p e R s0 m args below meth c M0 fin X hr hnm
  have hiX4 : ∀ w ∈ u_ws RX4 TX4 3, w ∈ wsX4_find := by decide +kernel
  have hl21 : Cond.fieldLink RX4 21 (TX4 2).1 (TX4 2).2.1 (TX4 2).2.2.1 ∈ wsX4_find := by decide +kernel
  have hl11 : Cond.fieldLink RX4 11 (TX4 0).1 (TX4 0).2.1 (TX4 0).2.2.1 ∈ wsX4_find := by decide +kernel
  have J22 : ∀ (t_0 : Option Nat) (M : zM), z_S p l e R s0 m args below meth c (z_Qm E below args s0 M0 z_ra fin) E 2 M0 fin M 22 [] [za t_0] (F_X4_find_22 a0 t_0) := by
    intro t_0 M
    exact s_reta X hr (Or.inl ⟨_, rfl⟩) dX4_find_22
  have J12 : ∀ (M : zM), z_S p l e R s0 m args below meth c (z_Qm E below args s0 M0 z_ra fin) E 2 M0 fin M 12 [] [] (F_X4_find_12 a0) := by
    intro M
    refine s_null X dX4_find_12 ?_
    refine s_goto X 22 dX4_find_13 (by decide) ?_
    exact J22 none _
  refine s_iload_n X dX4_find_0 1 rfl ?_
  refine s_if_lt X 12 dX4_find_1 (by decide) (fun h1 => ?_) (fun h1 => ?_)
  · refine s_lv [] [] rfl ?_
    exact J12 _
  · refine s_iload_n X dX4_find_4 1 rfl ?_
    refine s_aload_n X dX4_find_5 0 rfl ?_
    refine s_gi X (C := RX4) (T := TX4) (N := 3) rfl (by decide) hiX4 hl21 dX4_find_6 (fun x2 => ?_)
    refine s_icmp_lt X 16 dX4_find_9 (by decide) (fun h3 => ?_) (fun h3 => ?_)
    · refine s_aload_n X dX4_find_16 0 rfl ?_
      refine s_ga X (C := RX4) (T := TX4) (N := 3) rfl (by decide) hiX4 hl11 dX4_find_17 (fun r4 => ?_)
      refine s_iload_n X dX4_find_20 1 rfl ?_
      refine s_la X dX4_find_21 (fun r5 => ?_)
      refine s_lv [] [] rfl ?_
      exact J22 r5 _
    · refine s_lv [] [] rfl ?_
      exact J12 _
