theorem hy_X10_other : yX10_other.cls = RX10 ∧ yX10_other.cls ≠ "java/lang/invoke/MethodHandle" ∧ yX10_other.cls ≠ "java/lang/invoke/VarHandle" ∧ (parseMethodDescriptor yX10_other.desc).map (fun d => d.parameters.length) = some 3 := by decide +kernel
set_option maxHeartbeats 4000000 in
set_option maxRecDepth 100000 in
theorem c_X10_other (l : Launch) (E : zE) (a0 : Nat) (p0 : Int32) (p1 : Int32) (p2 : Int32) : z_Met l E yX10_other wsX10_other 1 22 [za ((some a0)), zi p0, zi p1, zi p2] z_ri (F_X10_other a0 p0 p1 p2) := by
  refine z_of (own := RX10) (cc := cX10_other) (maxL := 5) (rt := (some .int)) rfl (by decide) rfl (Nat.le_of_ble_eq_true rfl) ?_
  intro p e R s0 m args below meth c M0 fin X hr hnm
  have hiX10 : ∀ w ∈ u_ws RX10 TX10 5, w ∈ wsX10_other := by decide +kernel
  have hiX5 : ∀ w ∈ u_ws RX5 TX5 3, w ∈ wsX10_other := by decide +kernel
  have hl13 : Cond.fieldLink RX10 13 (TX10 0).1 (TX10 0).2.1 (TX10 0).2.2.1 ∈ wsX10_other := by decide +kernel
  have hl133 : Cond.fieldLink RX10 133 (TX5 1).1 (TX5 1).2.1 (TX5 1).2.2.1 ∈ wsX10_other := by decide +kernel
  have hl129 : Cond.fieldLink RX10 129 (TX5 0).1 (TX5 0).2.1 (TX5 0).2.2.1 ∈ wsX10_other := by decide +kernel
  have J54 : ∀ (M : zM), z_S p l e R s0 m args below meth c (z_Qm E below args s0 M0 z_ri fin) E 5 M0 fin M 54 [] [] (F_X10_other_54 a0) := by
    intro M
    exact s_no
  have J38 : ∀ (x_1 : Int32) (x_3 : Int32) (t_0 : Option Nat) (M : zM), z_S p l e R s0 m args below meth c (z_Qm E below args s0 M0 z_ri fin) E 5 M0 fin M 38 [(1, zi x_1), (3, zi x_3)] [za t_0] (F_X10_other_38 a0 x_1 x_3 t_0) := by
    intro x_1 x_3 t_0 M
    refine s_astore X dX10_other_38 (by decide) [(4, za t_0), (1, zi x_1), (3, zi x_3)] rfl ?_
    refine s_iload_n X dX10_other_40 2 rfl ?_
    refine s_if_lt X 54 dX10_other_41 (by decide) (fun h8 => ?_) (fun h8 => ?_)
    · refine s_lv [] [] rfl ?_
      exact J54 _
    · refine s_iload_n X dX10_other_44 2 rfl ?_
      refine s_aload X dX10_other_45 0 rfl ?_
      refine s_iload_n X dX10_other_47 1 rfl ?_
      refine s_callV (ci := 1) (C := RX0) (As := [zi x_1]) (st := [zi x_3]) X (fun a => c_X0_count l E a x_1) gX10_other_X0_count rfl hy_X0_count rfl rfl rfl rfl (Nat.le_of_ble_eq_true rfl) (by decide) dX10_other_48 (fun x9 M => ?_)
      refine s_icmp_lt X 64 dX10_other_51 (by decide) (fun h11 => ?_) (fun h11 => ?_)
      · refine s_aload X dX10_other_64 0 rfl ?_
        refine s_iload_n X dX10_other_66 1 rfl ?_
        refine s_iload_n X dX10_other_67 2 rfl ?_
        refine s_callV (ci := 1) (C := RX0) (As := [zi x_1, zi x_3]) (st := []) X (fun a => c_X0_key l E a x_1 x_3) gX10_other_X0_key rfl hy_X0_key rfl rfl rfl rfl (Nat.le_of_ble_eq_true rfl) (by decide) dX10_other_68 (fun x12 M => ?_)
        refine s_callS (As := [zi x12]) (st := []) X (c_X5_otherOf l E x12) gX10_other_X5_otherOf rfl hy_X5_otherOf rfl rfl (Nat.le_of_ble_eq_true rfl) (by decide) dX10_other_71 (fun x14 M => ?_)
        exact s_ret X hr dX10_other_74
      · refine s_lv [] [] rfl ?_
        exact J54 _
  refine s_iload_n X dX10_other_0 1 rfl ?_
  refine s_callS (As := [zi p0]) (st := []) X (c_X10_isNode l E p0) gX10_other_X10_isNode rfl hy_X10_isNode rfl rfl (Nat.le_of_ble_eq_true rfl) (by decide) dX10_other_1 (fun x1 M => ?_)
  refine s_if_ne X 17 dX10_other_4 (by decide) (fun h2 => ?_) (fun h2 => ?_)
  · refine s_iload_n X dX10_other_17 2 rfl ?_
    refine s_if_eq X 31 dX10_other_18 (by decide) (fun h3 => ?_) (fun h3 => ?_)
    · refine s_aload_n X dX10_other_31 0 rfl ?_
      refine s_ga X (C := RX10) (T := TX10) (N := 5) rfl (by decide) hiX10 hl13 dX10_other_32 (fun r4 => ?_)
      refine s_ga X (C := RX5) (T := TX5) (N := 3) rfl (by decide) hiX5 hl133 dX10_other_35 (fun r5 => ?_)
      refine s_lv [(1, zi p0), (3, zi p2)] [1, 3] rfl ?_
      exact J38 p0 p2 r5 _
    · refine s_aload_n X dX10_other_21 0 rfl ?_
      refine s_ga X (C := RX10) (T := TX10) (N := 5) rfl (by decide) hiX10 hl13 dX10_other_22 (fun r6 => ?_)
      refine s_ga X (C := RX5) (T := TX5) (N := 3) rfl (by decide) hiX5 hl129 dX10_other_25 (fun r7 => ?_)
      refine s_goto X 38 dX10_other_28 (by decide) ?_
      refine s_lv [(1, zi p0), (3, zi p2)] [1, 3] rfl ?_
      exact J38 p0 p2 r7 _
  · exact s_no
set_option maxHeartbeats 4000000 in
set_option maxRecDepth 100000 in
theorem c_X10_otherT (l : Launch) (htr : l.stackTraces = false) (E : zE) (a0 : Nat) (p0 : Int32) (p1 : Int32) (p2 : Int32) : z_MetT l E yX10_other wsX10_other 7 95 [za ((some a0)), zi p0, zi p1, zi p2] (F_X10_otherT a0 p0 p1 p2) := by
  refine z_ofT (own := RX10) (cc := cX10_other) (maxL := 5) (rt := (some .int)) rfl (by decide) rfl (Nat.le_of_ble_eq_true rfl) ?_
  intro p e R s0 m args below meth c M0 fin X hx
  have hiX10 : ∀ w ∈ u_ws RX10 TX10 5, w ∈ wsX10_other := by decide +kernel
  have hiX5 : ∀ w ∈ u_ws RX5 TX5 3, w ∈ wsX10_other := by decide +kernel
  have hl13 : Cond.fieldLink RX10 13 (TX10 0).1 (TX10 0).2.1 (TX10 0).2.2.1 ∈ wsX10_other := by decide +kernel
  have hl133 : Cond.fieldLink RX10 133 (TX5 1).1 (TX5 1).2.1 (TX5 1).2.2.1 ∈ wsX10_other := by decide +kernel
  have hl129 : Cond.fieldLink RX10 129 (TX5 0).1 (TX5 0).2.1 (TX5 0).2.2.1 ∈ wsX10_other := by decide +kernel
  have J54 : ∀ (M : zM), z_S p l e R s0 m args below meth c (z_QT E below s0 M0 fin) E 5 M0 fin M 54 [] [] (F_X10_otherT_54 a0) := by
    intro M
    exact s_thr (i := 122) (j := 142) X htr (hx _) (List.mem_of_getElem? (i := 1) rfl) (by decide +kernel) (by decide +kernel) dX10_other_54 dX10_other_57 dX10_other_58 dX10_other_60 dX10_other_63 (by decide)
  have J38 : ∀ (x_1 : Int32) (x_3 : Int32) (t_0 : Option Nat) (M : zM), z_S p l e R s0 m args below meth c (z_QT E below s0 M0 fin) E 5 M0 fin M 38 [(1, zi x_1), (3, zi x_3)] [za t_0] (F_X10_otherT_38 a0 x_1 x_3 t_0) := by
    intro x_1 x_3 t_0 M
    refine s_astore X dX10_other_38 (by decide) [(4, za t_0), (1, zi x_1), (3, zi x_3)] rfl ?_
    refine s_iload_n X dX10_other_40 2 rfl ?_
    refine s_if_lt X 54 dX10_other_41 (by decide) (fun h8 => ?_) (fun h8 => ?_)
    · refine s_lv [] [] rfl ?_
      exact J54 _
    · refine s_iload_n X dX10_other_44 2 rfl ?_
      refine s_aload X dX10_other_45 0 rfl ?_
      refine s_iload_n X dX10_other_47 1 rfl ?_
      refine s_callV (ci := 1) (C := RX0) (As := [zi x_1]) (st := [zi x_3]) X (fun a => c_X0_count l E a x_1) gX10_other_X0_count rfl hy_X0_count rfl rfl rfl rfl (Nat.le_of_ble_eq_true rfl) (by decide) dX10_other_48 (fun x9 M => ?_)
      refine s_icmp_lt X 64 dX10_other_51 (by decide) (fun h11 => ?_) (fun h11 => ?_)
      · refine s_aload X dX10_other_64 0 rfl ?_
        refine s_iload_n X dX10_other_66 1 rfl ?_
        refine s_iload_n X dX10_other_67 2 rfl ?_
        refine s_callV (ci := 1) (C := RX0) (As := [zi x_1, zi x_3]) (st := []) X (fun a => c_X0_key l E a x_1 x_3) gX10_other_X0_key rfl hy_X0_key rfl rfl rfl rfl (Nat.le_of_ble_eq_true rfl) (by decide) dX10_other_68 (fun x12 M => ?_)
        refine s_callS (As := [zi x12]) (st := []) X (c_X5_otherOf l E x12) gX10_other_X5_otherOf rfl hy_X5_otherOf rfl rfl (Nat.le_of_ble_eq_true rfl) (by decide) dX10_other_71 (fun x14 M => ?_)
        exact s_no
      · refine s_lv [] [] rfl ?_
        exact J54 _
  refine s_iload_n X dX10_other_0 1 rfl ?_
  refine s_callS (As := [zi p0]) (st := []) X (c_X10_isNode l E p0) gX10_other_X10_isNode rfl hy_X10_isNode rfl rfl (Nat.le_of_ble_eq_true rfl) (by decide) dX10_other_1 (fun x1 M => ?_)
  refine s_if_ne X 17 dX10_other_4 (by decide) (fun h2 => ?_) (fun h2 => ?_)
  · refine s_iload_n X dX10_other_17 2 rfl ?_
    refine s_if_eq X 31 dX10_other_18 (by decide) (fun h3 => ?_) (fun h3 => ?_)
    · refine s_aload_n X dX10_other_31 0 rfl ?_
      refine s_ga X (C := RX10) (T := TX10) (N := 5) rfl (by decide) hiX10 hl13 dX10_other_32 (fun r4 => ?_)
      refine s_ga X (C := RX5) (T := TX5) (N := 3) rfl (by decide) hiX5 hl133 dX10_other_35 (fun r5 => ?_)
      refine s_lv [(1, zi p0), (3, zi p2)] [1, 3] rfl ?_
      exact J38 p0 p2 r5 _
    · refine s_aload_n X dX10_other_21 0 rfl ?_
      refine s_ga X (C := RX10) (T := TX10) (N := 5) rfl (by decide) hiX10 hl13 dX10_other_22 (fun r6 => ?_)
      refine s_ga X (C := RX5) (T := TX5) (N := 3) rfl (by decide) hiX5 hl129 dX10_other_25 (fun r7 => ?_)
      refine s_goto X 38 dX10_other_28 (by decide) ?_
      refine s_lv [(1, zi p0), (3, zi p2)] [1, 3] rfl ?_
      exact J38 p0 p2 r7 _
  · exact s_thr (i := 122) (j := 124) X htr (hx _) (List.mem_of_getElem? (i := 0) rfl) (by decide +kernel) (by decide +kernel) dX10_other_7 dX10_other_10 dX10_other_11 dX10_other_13 dX10_other_16 (by decide)
