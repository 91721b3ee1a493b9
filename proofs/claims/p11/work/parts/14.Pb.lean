theorem hy_X10_addPair : yX10_addPair.cls = RX10 ∧ yX10_addPair.cls ≠ "java/lang/invoke/MethodHandle" ∧ yX10_addPair.cls ≠ "java/lang/invoke/VarHandle" ∧ (parseMethodDescriptor yX10_addPair.desc).map (fun d => d.parameters.length) = some 3 := by decide +kernel
set_option maxHeartbeats 4000000 in
set_option maxRecDepth 100000 in
theorem c_X10_addPair (l : Launch) (E : zE) (a0 : Nat) (p0 : Int32) (p1 : Int32) (p2 : Int32) : z_Met l E yX10_addPair wsX10_addPair 5 112 [za ((some a0)), zi p0, zi p1, zi p2] z_ri (F_X10_addPair a0 p0 p1 p2) := by
  refine z_of (own := RX10) (cc := cX10_addPair) (maxL := 6) (rt := (some .int)) rfl (by decide) rfl (Nat.le_of_ble_eq_true rfl) ?_
  intro p e R s0 m args below meth c M0 fin X hr hnm
  have hiX10 : ∀ w ∈ u_ws RX10 TX10 5, w ∈ wsX10_addPair := by decide +kernel
  have hl24 : Cond.fieldLink RX10 24 (TX10 1).1 (TX10 1).2.1 (TX10 1).2.2.1 ∈ wsX10_addPair := by decide +kernel
  have J59 : ∀ (s_0 : Int32) (M : zM), z_S p l e R s0 m args below meth c (z_Qm E below args s0 M0 z_ri fin) E 6 M0 fin M 59 [] [zi s_0] (F_X10_addPair_59 a0 s_0) := by
    intro s_0 M
    exact s_ret X hr dX10_addPair_59
  have J30 : ∀ (M : zM), z_S p l e R s0 m args below meth c (z_Qm E below args s0 M0 z_ri fin) E 6 M0 fin M 30 [] [] (F_X10_addPair_30 a0) := by
    intro M
    refine s_iconst X (-1) dX10_addPair_30 (by decide) ?_
    exact s_ret X hr dX10_addPair_31
  refine s_aload_n X dX10_addPair_0 0 rfl ?_
  refine s_ga X (C := RX10) (T := TX10) (N := 5) rfl (by decide) hiX10 hl24 dX10_addPair_1 (fun r1 => ?_)
  refine s_iload_n X dX10_addPair_4 2 rfl ?_
  refine s_callV (ci := 4) (C := RX4) (As := [zi p1]) (st := []) X (fun a => c_X4_find l E a p1) gX10_addPair_X4_find rfl hy_X4_find rfl rfl rfl rfl (Nat.le_of_ble_eq_true rfl) (by decide) dX10_addPair_5 (fun r2 M => ?_)
  refine s_astore X dX10_addPair_8 (by decide) [(4, za r2), (0, za ((some a0))), (1, zi p0), (2, zi p1), (3, zi p2)] rfl ?_
  refine s_aload_n X dX10_addPair_10 1 rfl ?_
  refine s_ga X (C := RX10) (T := TX10) (N := 5) rfl (by decide) hiX10 hl24 dX10_addPair_11 (fun r4 => ?_)
  refine s_iload_n X dX10_addPair_14 4 rfl ?_
  refine s_callV (ci := 4) (C := RX4) (As := [zi p2]) (st := []) X (fun a => c_X4_find l E a p2) gX10_addPair_X4_find rfl hy_X4_find rfl rfl rfl rfl (Nat.le_of_ble_eq_true rfl) (by decide) dX10_addPair_15 (fun r5 M => ?_)
  refine s_astore X dX10_addPair_18 (by decide) [(5, za r5), (4, za r2), (0, za ((some a0))), (1, zi p0), (2, zi p1), (3, zi p2)] rfl ?_
  refine s_aload X dX10_addPair_20 1 rfl ?_
  refine s_ifnull X 30 dX10_addPair_22 (by decide) (fun h7 => ?_) (fun h7 => ?_)
  · refine s_lv [] [] rfl ?_
    exact J30 _
  · refine s_aload X dX10_addPair_25 0 rfl ?_
    refine s_ifnonnull X 32 dX10_addPair_27 (by decide) (fun h8 => ?_) (fun h8 => ?_)
    · refine s_aload_n X dX10_addPair_32 2 rfl ?_
      refine s_ga X (C := RX10) (T := TX10) (N := 5) rfl (by decide) hiX10 hl24 dX10_addPair_33 (fun r9 => ?_)
      refine s_callV (ci := 4) (C := RX4) (As := []) (st := []) X (fun a => c_X4_isFull l E a) gX10_addPair_X4_isFull rfl hy_X4_isFull rfl rfl rfl rfl (Nat.le_of_ble_eq_true rfl) (by decide) dX10_addPair_36 (fun x10 M => ?_)
      refine s_if_eq X 47 dX10_addPair_39 (by decide) (fun h12 => ?_) (fun h12 => ?_)
      · refine s_aload_n X dX10_addPair_47 2 rfl ?_
        refine s_ga X (C := RX10) (T := TX10) (N := 5) rfl (by decide) hiX10 hl24 dX10_addPair_48 (fun r13 => ?_)
        refine s_iload_n X dX10_addPair_51 3 rfl ?_
        refine s_aload X dX10_addPair_52 1 rfl ?_
        refine s_aload X dX10_addPair_54 0 rfl ?_
        refine s_callV (ci := 4) (C := RX4) (As := [zi p0, za r2, za r5]) (st := []) X (fun a => c_X4_addPair l E a p0 r2 r5) gX10_addPair_X4_addPair rfl hy_X4_addPair rfl rfl rfl rfl (Nat.le_of_ble_eq_true rfl) (by decide) dX10_addPair_56 (fun x14 M => ?_)
        refine s_lv [] [] rfl ?_
        exact J59 x14 _
      · refine s_bipush X (-2) dX10_addPair_42 (by decide) ?_
        refine s_goto X 59 dX10_addPair_44 (by decide) ?_
        refine s_lv [] [] rfl ?_
        exact J59 ((-2)) _
    · refine s_lv [] [] rfl ?_
      exact J30 _
theorem hy_X10_isShape : yX10_isShape.cls ≠ "java/lang/invoke/MethodHandle" ∧ yX10_isShape.cls ≠ "java/lang/invoke/VarHandle" ∧ (parseMethodDescriptor yX10_isShape.desc).map (fun d => d.parameters.length) = some 1 := by decide +kernel
set_option maxHeartbeats 4000000 in
set_option maxRecDepth 100000 in
theorem c_X10_isShape (l : Launch) (E : zE) (p0 : Int32) : z_Met l E yX10_isShape wsX10_isShape 0 0 [zi p0] z_ri (F_X10_isShape p0) := by
  refine z_of (own := RX10) (cc := cX10_isShape) (maxL := 1) (rt := (some .boolean)) rfl (by decide) rfl (Nat.le_of_ble_eq_true rfl) ?_
  intro p e R s0 m args below meth c M0 fin X hr hnm
  have J15 : ∀ (s_0 : Int32) (M : zM), z_S p l e R s0 m args below meth c (z_Qm E below args s0 M0 z_ri fin) E 1 M0 fin M 15 [] [zi s_0] (F_X10_isShape_15 s_0) := by
    intro s_0 M
    exact s_retb X hr dX10_isShape_15
  have J14 : ∀ (M : zM), z_S p l e R s0 m args below meth c (z_Qm E below args s0 M0 z_ri fin) E 1 M0 fin M 14 [] [] (F_X10_isShape_14) := by
    intro M
    refine s_iconst X 0 dX10_isShape_14 (by decide) ?_
    exact J15 0 _
  refine s_iload_n X dX10_isShape_0 0 rfl ?_
  refine s_if_lt X 14 dX10_isShape_1 (by decide) (fun h1 => ?_) (fun h1 => ?_)
  · refine s_lv [] [] rfl ?_
    exact J14 _
  · refine s_iload_n X dX10_isShape_4 0 rfl ?_
    refine s_bipush X 16 dX10_isShape_5 (by decide) ?_
    refine s_icmp_ge X 14 dX10_isShape_7 (by decide) (fun h2 => ?_) (fun h2 => ?_)
    · refine s_lv [] [] rfl ?_
      exact J14 _
    · refine s_iconst X 1 dX10_isShape_10 (by decide) ?_
      refine s_goto X 15 dX10_isShape_11 (by decide) ?_
      refine s_lv [] [] rfl ?_
      exact J15 1 _
theorem hy_X1_ofOne : yX1_ofOne.cls ≠ "java/lang/invoke/MethodHandle" ∧ yX1_ofOne.cls ≠ "java/lang/invoke/VarHandle" ∧ (parseMethodDescriptor yX1_ofOne.desc).map (fun d => d.parameters.length) = some 2 := by decide +kernel
set_option maxHeartbeats 4000000 in
set_option maxRecDepth 100000 in
theorem c_X1_ofOne (l : Launch) (E : zE) (p0 : Int32) (p1 : Int32) : z_Met l E yX1_ofOne wsX1_ofOne 1 20 [zi p0, zi p1] z_ri (F_X1_ofOne p0 p1) := by
  refine z_of (own := RX1) (cc := cX1_ofOne) (maxL := 2) (rt := (some .int)) rfl (by decide) rfl (Nat.le_of_ble_eq_true rfl) ?_
  intro p e R s0 m args below meth c M0 fin X hr hnm
  have J16 : ∀ (s_0 : Int32) (s_1 : Int32) (M : zM), z_S p l e R s0 m args below meth c (z_Qm E below args s0 M0 z_ri fin) E 2 M0 fin M 16 [] [zi s_1, zi s_0] (F_X1_ofOne_16 s_0 s_1) := by
    intro s_0 s_1 M
    refine s_iadd X dX1_ofOne_16 ?_
    exact s_ret X hr dX1_ofOne_17
  refine s_iload_n X dX1_ofOne_0 0 rfl ?_
  refine s_callS (As := [zi p0]) (st := []) X (c_X1_indexesOf l E p0) gX1_ofOne_X1_indexesOf rfl hy_X1_indexesOf rfl rfl (Nat.le_of_ble_eq_true rfl) (by decide) dX1_ofOne_1 (fun x1 M => ?_)
  refine s_iload_n X dX1_ofOne_4 1 rfl ?_
  refine s_if_eq X 14 dX1_ofOne_5 (by decide) (fun h2 => ?_) (fun h2 => ?_)
  · refine s_ldc X 262144 dX1_ofOne_14 (by decide +kernel) ?_
    refine s_lv [] [] rfl ?_
    exact J16 x1 262144 _
  · refine s_sipush X 16384 dX1_ofOne_8 (by decide) ?_
    refine s_goto X 16 dX1_ofOne_11 (by decide) ?_
    refine s_lv [] [] rfl ?_
    exact J16 x1 16384 _
theorem hy_X7_init : yX7_init.cls ≠ "java/lang/invoke/MethodHandle" ∧ yX7_init.cls ≠ "java/lang/invoke/VarHandle" ∧ (parseMethodDescriptor yX7_init.desc).map (fun d => d.parameters.length) = some 4 := by decide +kernel
set_option maxHeartbeats 4000000 in
set_option maxRecDepth 100000 in
theorem c_X7_init (l : Launch) (E : zE) (a0 : Nat) (p0 : Int32) (p1 : Int32) (p2 : Int32) (p3 : Int32) : z_Met l E yX7_init wsX7_init 1 12 [za ((some a0)), zi p0, zi p1, zi p2, zi p3] z_rv (F_X7_init a0 p0 p1 p2 p3) := by
  refine z_of (own := RX7) (cc := cX7_init) (maxL := 5) (rt := none) rfl (by decide) rfl (Nat.le_of_ble_eq_true rfl) ?_
  intro p e R s0 m args below meth c M0 fin X hr hnm
  have hiX7 : ∀ w ∈ u_ws RX7 TX7 4, w ∈ wsX7_init := by decide +kernel
  have hl9 : Cond.fieldLink RX7 9 (TX7 0).1 (TX7 0).2.1 (TX7 0).2.2.1 ∈ wsX7_init := by decide +kernel
  have hl15 : Cond.fieldLink RX7 15 (TX7 1).1 (TX7 1).2.1 (TX7 1).2.2.1 ∈ wsX7_init := by decide +kernel
  have hl19 : Cond.fieldLink RX7 19 (TX7 2).1 (TX7 2).2.1 (TX7 2).2.2.1 ∈ wsX7_init := by decide +kernel
  have hl22 : Cond.fieldLink RX7 22 (TX7 3).1 (TX7 3).2.1 (TX7 3).2.2.1 ∈ wsX7_init := by decide +kernel
  refine s_aload_n X dX7_init_0 0 rfl ?_
  refine s_objInit X (by decide +kernel) (by decide +kernel) (by decide +kernel) dX7_init_1 ⟨by decide, fun E => by rw [z_wt_eq]; exact Nat.le_of_ble_eq_true rfl⟩ ?_
  refine s_aload_n X dX7_init_4 0 rfl ?_
  refine s_iload_n X dX7_init_5 1 rfl ?_
  refine s_pf (x := zi p0) X (C := RX7) (T := TX7) (N := 4) rfl (by decide) hiX7 tyX7 tyX7_ok nmX7 hl9 (Or.inr ⟨rfl, hnm, rfl⟩) rfl (fun E => ⟨rfl, rfl⟩) dX7_init_6 (fun M => ?_)
  refine s_aload_n X dX7_init_9 0 rfl ?_
  refine s_iload_n X dX7_init_10 2 rfl ?_
  refine s_ck (fun h1 => ?_)
  refine s_pf (x := zi p1) X (C := RX7) (T := TX7) (N := 4) rfl (by decide) hiX7 tyX7 tyX7_ok nmX7 hl15 (Or.inr ⟨rfl, hnm, rfl⟩) rfl (z_bfit h1) dX7_init_11 (fun M => ?_)
  refine s_aload_n X dX7_init_14 0 rfl ?_
  refine s_iload_n X dX7_init_15 3 rfl ?_
  refine s_pf (x := zi p2) X (C := RX7) (T := TX7) (N := 4) rfl (by decide) hiX7 tyX7 tyX7_ok nmX7 hl19 (Or.inr ⟨rfl, hnm, rfl⟩) rfl (fun E => ⟨rfl, rfl⟩) dX7_init_16 (fun M => ?_)
  refine s_aload_n X dX7_init_19 0 rfl ?_
  refine s_iload X dX7_init_20 4 rfl ?_
  refine s_pf (x := zi p3) X (C := RX7) (T := TX7) (N := 4) rfl (by decide) hiX7 tyX7 tyX7_ok nmX7 hl22 (Or.inr ⟨rfl, hnm, rfl⟩) rfl (fun E => ⟨rfl, rfl⟩) dX7_init_22 (fun M => ?_)
  exact s_retv X hr dX7_init_25
theorem hy_X4_addPlace : yX4_addPlace.cls = RX4 ∧ yX4_addPlace.cls ≠ "java/lang/invoke/MethodHandle" ∧ yX4_addPlace.cls ≠ "java/lang/invoke/VarHandle" ∧ (parseMethodDescriptor yX4_addPlace.desc).map (fun d => d.parameters.length) = some 3 := by decide +kernel
set_option maxHeartbeats 4000000 in
set_option maxRecDepth 100000 in
theorem c_X4_addPlace (l : Launch) (E : zE) (a0 : Nat) (p0 : Int32) (p1 : Int32) (p2 : Int32) : z_Met l E yX4_addPlace wsX4_addPlace 3 63 [za ((some a0)), zi p0, zi p1, zi p2] z_ri (F_X4_addPlace a0 p0 p1 p2) := by
  refine z_of (own := RX4) (cc := cX4_addPlace) (maxL := 6) (rt := (some .int)) rfl (by decide) rfl (Nat.le_of_ble_eq_true rfl) ?_
  intro p e R s0 m args below meth c M0 fin X hr hnm
  have hiX7 : ∀ w ∈ u_ws RX7 TX7 4, w ∈ wsX4_addPlace := by decide +kernel
  have hiX4 : ∀ w ∈ u_ws RX4 TX4 3, w ∈ wsX4_addPlace := by decide +kernel
  have hl21 : Cond.fieldLink RX4 21 (TX4 2).1 (TX4 2).2.1 (TX4 2).2.2.1 ∈ wsX4_addPlace := by decide +kernel
  refine s_iconst X 1 dX4_addPlace_0 (by decide) ?_
  refine s_nwq (k := 15) (q0 := (RX7, TX7, 4)) X (by decide) (by decide) rfl (by decide +kernel) (by decide) dX4_addPlace_1 (fun a1 M => ?_)
  refine s_dup X dX4_addPlace_4 rfl ?_
  refine s_iconst X 0 dX4_addPlace_5 (by decide) ?_
  refine s_nwo (C := RX7) (T := TX7) (N := 4) (fs := [.int 0, .int 0, .int 0, .int 0]) X rfl hiX7 tyX7 tyX7_ok (by decide +kernel) (by decide +kernel) (by decide +kernel) rfl (fun E j hj => by rcases z_lt4 hj with rfl | rfl | rfl | rfl <;> rfl) dX4_addPlace_6 (fun a2 M => ?_)
  refine s_dup X dX4_addPlace_9 rfl ?_
  refine s_aload_n X dX4_addPlace_10 0 rfl ?_
  refine s_gi X (C := RX4) (T := TX4) (N := 3) rfl (by decide) hiX4 hl21 dX4_addPlace_11 (fun x3 => ?_)
  refine s_iload_n X dX4_addPlace_14 1 rfl ?_
  refine s_iload_n X dX4_addPlace_15 2 rfl ?_
  refine s_iload_n X dX4_addPlace_16 3 rfl ?_
  refine s_callI (a := a2) (As := [zi x3, zi p0, zi p1, zi p2]) (st := [za ((some a2)), zi (0), za ((some a1)), za ((some a1))]) X (c_X7_init l E a2 x3 p0 p1 p2) gX4_addPlace_X7_init rfl (by decide +kernel) (by decide +kernel) (by decide +kernel) rfl hy_X7_init rfl rfl (Nat.le_of_ble_eq_true rfl) (by decide) dX4_addPlace_17 (fun M => ?_)
  refine s_sa X dX4_addPlace_20 (fun M => ?_)
  refine s_astore X dX4_addPlace_21 (by decide) [(4, za ((some a1))), (0, za ((some a0))), (1, zi p0), (2, zi p1), (3, zi p2)] rfl ?_
  refine s_iconst X 1 dX4_addPlace_23 (by decide) ?_
  refine s_nwi X (by decide +kernel) dX4_addPlace_24 (fun a4 M => ?_)
  refine s_dup X dX4_addPlace_26 rfl ?_
  refine s_iconst X 0 dX4_addPlace_27 (by decide) ?_
  refine s_iconst X 0 dX4_addPlace_28 (by decide) ?_
  refine s_iload_n X dX4_addPlace_29 2 rfl ?_
  refine s_callS (As := [zi (0), zi p0]) (st := [zi (0), za ((some a4)), za ((some a4))]) X (c_X1_ofOne l E 0 p0) gX4_addPlace_X1_ofOne rfl hy_X1_ofOne rfl rfl (Nat.le_of_ble_eq_true rfl) (by decide) dX4_addPlace_30 (fun x5 M => ?_)
  refine s_si X dX4_addPlace_33 (fun M => ?_)
  refine s_astore X dX4_addPlace_34 (by decide) [(5, za ((some a4))), (4, za ((some a1))), (0, za ((some a0))), (1, zi p0), (2, zi p1), (3, zi p2)] rfl ?_
  refine s_aload_n X dX4_addPlace_36 2 rfl ?_
  refine s_iconst X 0 dX4_addPlace_37 (by decide) ?_
  refine s_aload X dX4_addPlace_38 1 rfl ?_
  refine s_aload X dX4_addPlace_40 0 rfl ?_
  refine s_callV (ci := 4) (C := RX4) (As := [zi (0), za ((some a1)), za ((some a4))]) (st := []) X (fun a => c_X4_keep l E a 0 ((some a1)) ((some a4))) gX4_addPlace_X4_keep rfl hy_X4_keep rfl rfl rfl rfl (Nat.le_of_ble_eq_true rfl) (by decide) dX4_addPlace_42 (fun x6 M => ?_)
  exact s_ret X hr dX4_addPlace_45
theorem hy_X10_addPlace : yX10_addPlace.cls = RX10 ∧ yX10_addPlace.cls ≠ "java/lang/invoke/MethodHandle" ∧ yX10_addPlace.cls ≠ "java/lang/invoke/VarHandle" ∧ (parseMethodDescriptor yX10_addPlace.desc).map (fun d => d.parameters.length) = some 3 := by decide +kernel
set_option maxHeartbeats 4000000 in
set_option maxRecDepth 100000 in
theorem c_X10_addPlace (l : Launch) (E : zE) (a0 : Nat) (p0 : Int32) (p1 : Int32) (p2 : Int32) : z_Met l E yX10_addPlace wsX10_addPlace 4 88 [za ((some a0)), zi p0, zi p1, zi p2] z_ri (F_X10_addPlace a0 p0 p1 p2) := by
  refine z_of (own := RX10) (cc := cX10_addPlace) (maxL := 4) (rt := (some .int)) rfl (by decide) rfl (Nat.le_of_ble_eq_true rfl) ?_
  intro p e R s0 m args below meth c M0 fin X hr hnm
  have hiX10 : ∀ w ∈ u_ws RX10 TX10 5, w ∈ wsX10_addPlace := by decide +kernel
  have hl24 : Cond.fieldLink RX10 24 (TX10 1).1 (TX10 1).2.1 (TX10 1).2.2.1 ∈ wsX10_addPlace := by decide +kernel
  have J46 : ∀ (s_0 : Int32) (M : zM), z_S p l e R s0 m args below meth c (z_Qm E below args s0 M0 z_ri fin) E 4 M0 fin M 46 [] [zi s_0] (F_X10_addPlace_46 a0 s_0) := by
    intro s_0 M
    exact s_ret X hr dX10_addPlace_46
  have J21 : ∀ (x_1 : Int32) (x_2 : Int32) (x_3 : Int32) (M : zM), z_S p l e R s0 m args below meth c (z_Qm E below args s0 M0 z_ri fin) E 4 M0 fin M 21 [(0, za ((some a0))), (1, zi x_1), (2, zi x_2), (3, zi x_3)] [] (F_X10_addPlace_21 a0 x_1 x_2 x_3) := by
    intro x_1 x_2 x_3 M
    refine s_aload_n X dX10_addPlace_21 0 rfl ?_
    refine s_ga X (C := RX10) (T := TX10) (N := 5) rfl (by decide) hiX10 hl24 dX10_addPlace_22 (fun r6 => ?_)
    refine s_callV (ci := 4) (C := RX4) (As := []) (st := []) X (fun a => c_X4_isFull l E a) gX10_addPlace_X4_isFull rfl hy_X4_isFull rfl rfl rfl rfl (Nat.le_of_ble_eq_true rfl) (by decide) dX10_addPlace_25 (fun x7 M => ?_)
    refine s_if_eq X 36 dX10_addPlace_28 (by decide) (fun h9 => ?_) (fun h9 => ?_)
    · refine s_aload_n X dX10_addPlace_36 0 rfl ?_
      refine s_ga X (C := RX10) (T := TX10) (N := 5) rfl (by decide) hiX10 hl24 dX10_addPlace_37 (fun r10 => ?_)
      refine s_iload_n X dX10_addPlace_40 1 rfl ?_
      refine s_iload_n X dX10_addPlace_41 2 rfl ?_
      refine s_iload_n X dX10_addPlace_42 3 rfl ?_
      refine s_callV (ci := 4) (C := RX4) (As := [zi x_1, zi x_2, zi x_3]) (st := []) X (fun a => c_X4_addPlace l E a x_1 x_2 x_3) gX10_addPlace_X4_addPlace rfl hy_X4_addPlace rfl rfl rfl rfl (Nat.le_of_ble_eq_true rfl) (by decide) dX10_addPlace_43 (fun x11 M => ?_)
      refine s_lv [] [] rfl ?_
      exact J46 x11 _
    · refine s_bipush X (-2) dX10_addPlace_31 (by decide) ?_
      refine s_goto X 46 dX10_addPlace_33 (by decide) ?_
      refine s_lv [] [] rfl ?_
      exact J46 ((-2)) _
  have J19 : ∀ (M : zM), z_S p l e R s0 m args below meth c (z_Qm E below args s0 M0 z_ri fin) E 4 M0 fin M 19 [] [] (F_X10_addPlace_19 a0) := by
    intro M
    refine s_iconst X (-1) dX10_addPlace_19 (by decide) ?_
    exact s_ret X hr dX10_addPlace_20
  refine s_iload_n X dX10_addPlace_0 2 rfl ?_
  refine s_callS (As := [zi p1]) (st := []) X (c_X10_isLabel l E p1) gX10_addPlace_X10_isLabel rfl hy_X10_isLabel rfl rfl (Nat.le_of_ble_eq_true rfl) (by decide) dX10_addPlace_1 (fun x1 M => ?_)
  refine s_if_eq X 19 dX10_addPlace_4 (by decide) (fun h2 => ?_) (fun h2 => ?_)
  · refine s_lv [] [] rfl ?_
    exact J19 _
  · refine s_iload_n X dX10_addPlace_7 3 rfl ?_
    refine s_iconst X (-1) dX10_addPlace_8 (by decide) ?_
    refine s_icmp_eq X 21 dX10_addPlace_9 (by decide) (fun h3 => ?_) (fun h3 => ?_)
    · exact J21 p0 p1 p2 _
    · refine s_iload_n X dX10_addPlace_12 3 rfl ?_
      refine s_callS (As := [zi p2]) (st := []) X (c_X10_isShape l E p2) gX10_addPlace_X10_isShape rfl hy_X10_isShape rfl rfl (Nat.le_of_ble_eq_true rfl) (by decide) dX10_addPlace_13 (fun x4 M => ?_)
      refine s_if_ne X 21 dX10_addPlace_16 (by decide) (fun h5 => ?_) (fun h5 => ?_)
      · exact J21 p0 p1 p2 _
      · refine s_lv [] [] rfl ?_
        exact J19 _
theorem hy_X4_bagsMarked : yX4_bagsMarked.cls = RX4 ∧ yX4_bagsMarked.cls ≠ "java/lang/invoke/MethodHandle" ∧ yX4_bagsMarked.cls ≠ "java/lang/invoke/VarHandle" ∧ (parseMethodDescriptor yX4_bagsMarked.desc).map (fun d => d.parameters.length) = some 1 := by decide +kernel
set_option maxHeartbeats 4000000 in
set_option maxRecDepth 100000 in
theorem c_X4_bagsMarked (l : Launch) (E : zE) (a0 : Nat) (p0 : Int32) : z_Met l E yX4_bagsMarked wsX4_bagsMarked 0 0 [za ((some a0)), zi p0] z_ra (F_X4_bagsMarked a0 p0) := by
  refine z_of (own := RX4) (cc := cX4_bagsMarked) (maxL := 6) (rt := (some (.array .int))) rfl (by decide) rfl (Nat.le_of_ble_eq_true rfl) ?_
  intro p e R s0 m args below meth c M0 fin X hr hnm
  have hiX4 : ∀ w ∈ u_ws RX4 TX4 3, w ∈ wsX4_bagsMarked := by decide +kernel
  have hiX2 : ∀ w ∈ u_ws RX2 TX2 4, w ∈ wsX4_bagsMarked := by decide +kernel
  have hl17 : Cond.fieldLink RX4 17 (TX4 1).1 (TX4 1).2.1 (TX4 1).2.2.1 ∈ wsX4_bagsMarked := by decide +kernel
  have hl96 : Cond.fieldLink RX4 96 (TX2 3).1 (TX2 3).2.1 (TX2 3).2.2.1 ∈ wsX4_bagsMarked := by decide +kernel
  have hl133 : Cond.fieldLink RX4 133 (TX2 2).1 (TX2 2).2.1 (TX2 2).2.2.1 ∈ wsX4_bagsMarked := by decide +kernel
  have hl95 : Cond.fieldLink RX4 95 (TX2 1).1 (TX2 1).2.1 (TX2 1).2.2.1 ∈ wsX4_bagsMarked := by decide +kernel
  have L53 : ∀ (n : Nat) (s : Int32 × Int32 × (Option Nat) × Int32 × Int32) (M : zM), z_S p l e R s0 m args below meth c (z_Qm E below args s0 M0 z_ra fin) E 6 M0 fin M 53 [(0, za (some a0)), (1, zi s.1), (2, zi s.2.1), (3, za s.2.2.1), (4, zi s.2.2.2.1), (5, zi s.2.2.2.2)] [] (F_X4_bagsMarked_53 a0 n s) := by
    refine s_fix ?_
    intro ih53_ hih53
    have J103 : ∀ (x_1 : Int32) (x_2 : Int32) (r_3 : Option Nat) (x_4 : Int32) (x_5 : Int32) (M : zM), z_S p l e R s0 m args below meth c (z_Qm E below args s0 M0 z_ra fin) E 6 M0 fin M 103 [(0, za ((some a0))), (1, zi x_1), (2, zi x_2), (3, za r_3), (4, zi x_4), (5, zi x_5)] [] (F_X4_bagsMarked_103 a0 (fun y0 y1 y2 y3 y4 => ih53_ (y0, y1, y2, y3, y4)) x_1 x_2 r_3 x_4 x_5) := by
      intro x_1 x_2 r_3 x_4 x_5 M
      refine s_iinc X 1 dX4_bagsMarked_103 5 rfl (by decide) (by decide) [(5, zi (x_5 + 1)), (0, za ((some a0))), (1, zi x_1), (2, zi x_2), (3, za r_3), (4, zi x_4)] rfl ?_
      refine s_goto X 53 dX4_bagsMarked_106 (by decide) ?_
      refine s_lv [(0, za ((some a0))), (1, zi x_1), (2, zi x_2), (3, za r_3), (4, zi x_4), (5, zi (x_5 + 1))] [1, 2, 3, 4, 5, 0] rfl ?_
      exact hih53 (x_1, x_2, r_3, x_4, x_5 + 1) _
    rintro ⟨x_1, x_2, r_3, x_4, x_5⟩ M
    refine s_iload X dX4_bagsMarked_53 5 rfl ?_
    refine s_aload_n X dX4_bagsMarked_55 0 rfl ?_
    refine s_ga X (C := RX4) (T := TX4) (N := 3) rfl (by decide) hiX4 hl17 dX4_bagsMarked_56 (fun r10 => ?_)
    refine s_gi X (C := RX2) (T := TX2) (N := 4) rfl (by decide) hiX2 hl96 dX4_bagsMarked_59 (fun x11 => ?_)
    refine s_icmp_ge X 109 dX4_bagsMarked_62 (by decide) (fun h12 => ?_) (fun h12 => ?_)
    · refine s_aload_n X dX4_bagsMarked_109 3 rfl ?_
      exact s_reta X hr (Or.inr ⟨_, rfl⟩) dX4_bagsMarked_110
    · refine s_aload_n X dX4_bagsMarked_65 0 rfl ?_
      refine s_ga X (C := RX4) (T := TX4) (N := 3) rfl (by decide) hiX4 hl17 dX4_bagsMarked_66 (fun r13 => ?_)
      refine s_ga X (C := RX2) (T := TX2) (N := 4) rfl (by decide) hiX2 hl133 dX4_bagsMarked_69 (fun r14 => ?_)
      refine s_iload X dX4_bagsMarked_72 5 rfl ?_
      refine s_li X dX4_bagsMarked_74 (fun x15 => ?_)
      refine s_iload_n X dX4_bagsMarked_75 1 rfl ?_
      refine s_iand X dX4_bagsMarked_76 ?_
      refine s_if_eq X 103 dX4_bagsMarked_77 (by decide) (fun h16 => ?_) (fun h16 => ?_)
      · exact J103 x_1 x_2 r_3 x_4 x_5 _
      · refine s_iload X dX4_bagsMarked_80 4 rfl ?_
        refine s_iload_n X dX4_bagsMarked_82 2 rfl ?_
        refine s_icmp_ge X 103 dX4_bagsMarked_83 (by decide) (fun h17 => ?_) (fun h17 => ?_)
        · exact J103 x_1 x_2 r_3 x_4 x_5 _
        · refine s_aload_n X dX4_bagsMarked_86 3 rfl ?_
          refine s_iload X dX4_bagsMarked_87 4 rfl ?_
          refine s_aload_n X dX4_bagsMarked_89 0 rfl ?_
          refine s_ga X (C := RX4) (T := TX4) (N := 3) rfl (by decide) hiX4 hl17 dX4_bagsMarked_90 (fun r18 => ?_)
          refine s_ga X (C := RX2) (T := TX2) (N := 4) rfl (by decide) hiX2 hl95 dX4_bagsMarked_93 (fun r19 => ?_)
          refine s_iload X dX4_bagsMarked_96 5 rfl ?_
          refine s_li X dX4_bagsMarked_98 (fun x20 => ?_)
          refine s_si X dX4_bagsMarked_99 (fun M => ?_)
          refine s_iinc X 1 dX4_bagsMarked_100 4 rfl (by decide) (by decide) [(4, zi (x_4 + 1)), (0, za ((some a0))), (1, zi x_1), (2, zi x_2), (3, za r_3), (5, zi x_5)] rfl ?_
          refine s_lv [(0, za ((some a0))), (1, zi x_1), (2, zi x_2), (3, za r_3), (4, zi (x_4 + 1)), (5, zi x_5)] [1, 2, 3, 4, 0, 5] rfl ?_
          exact J103 x_1 x_2 r_3 (x_4 + 1) x_5 _
  have L4 : ∀ (n : Nat) (s : Int32 × Int32 × Int32) (M : zM), z_S p l e R s0 m args below meth c (z_Qm E below args s0 M0 z_ra fin) E 6 M0 fin M 4 [(0, za (some a0)), (1, zi s.1), (2, zi s.2.1), (3, zi s.2.2)] [] (F_X4_bagsMarked_4 a0 n s) := by
    refine s_fix ?_
    intro ih4_ hih4
    have J35 : ∀ (x_1 : Int32) (x_3 : Int32) (s_0 : Int32) (s_1 : Int32) (M : zM), z_S p l e R s0 m args below meth c (z_Qm E below args s0 M0 z_ra fin) E 6 M0 fin M 35 [(0, za ((some a0))), (1, zi x_1), (3, zi x_3)] [zi s_1, zi s_0] (F_X4_bagsMarked_35 a0 (fun y0 y1 y2 => ih4_ (y0, y1, y2)) x_1 x_3 s_0 s_1) := by
      intro x_1 x_3 s_0 s_1 M
      refine s_iadd X dX4_bagsMarked_35 ?_
      refine s_let (fun x9 => ?_)
      refine s_istore_n X dX4_bagsMarked_36 (by decide) [(2, zi x9), (0, za ((some a0))), (1, zi x_1), (3, zi x_3)] rfl ?_
      refine s_iinc X 1 dX4_bagsMarked_37 3 rfl (by decide) (by decide) [(3, zi (x_3 + 1)), (2, zi x9), (0, za ((some a0))), (1, zi x_1)] rfl ?_
      refine s_goto X 4 dX4_bagsMarked_40 (by decide) ?_
      refine s_lv [(0, za ((some a0))), (1, zi x_1), (2, zi x9), (3, zi (x_3 + 1))] [2, 3, 1, 0] rfl ?_
      exact hih4 (x_1, x9, x_3 + 1) _
    rintro ⟨x_1, x_2, x_3⟩ M
    refine s_iload_n X dX4_bagsMarked_4 3 rfl ?_
    refine s_aload_n X dX4_bagsMarked_5 0 rfl ?_
    refine s_ga X (C := RX4) (T := TX4) (N := 3) rfl (by decide) hiX4 hl17 dX4_bagsMarked_6 (fun r1 => ?_)
    refine s_gi X (C := RX2) (T := TX2) (N := 4) rfl (by decide) hiX2 hl96 dX4_bagsMarked_9 (fun x2 => ?_)
    refine s_icmp_ge X 43 dX4_bagsMarked_12 (by decide) (fun h3 => ?_) (fun h3 => ?_)
    · refine s_iload_n X dX4_bagsMarked_43 2 rfl ?_
      refine s_nwi X (by decide +kernel) dX4_bagsMarked_44 (fun a4 M => ?_)
      refine s_astore_n X dX4_bagsMarked_46 (by decide) [(3, za ((some a4))), (0, za ((some a0))), (1, zi x_1), (2, zi x_2)] rfl ?_
      refine s_iconst X 0 dX4_bagsMarked_47 (by decide) ?_
      refine s_istore X dX4_bagsMarked_48 (by decide) [(4, zi (0)), (3, za ((some a4))), (0, za ((some a0))), (1, zi x_1), (2, zi x_2)] rfl ?_
      refine s_iconst X 0 dX4_bagsMarked_50 (by decide) ?_
      refine s_istore X dX4_bagsMarked_51 (by decide) [(5, zi (0)), (4, zi (0)), (3, za ((some a4))), (0, za ((some a0))), (1, zi x_1), (2, zi x_2)] rfl ?_
      refine s_lv [(0, za ((some a0))), (1, zi x_1), (2, zi x_2), (3, za ((some a4))), (4, zi (0)), (5, zi (0))] [3, 4, 5, 2, 1, 0] rfl ?_
      exact L53 z_N (x_1, x_2, (some a4), 0, 0) _
    · refine s_iload_n X dX4_bagsMarked_15 2 rfl ?_
      refine s_aload_n X dX4_bagsMarked_16 0 rfl ?_
      refine s_ga X (C := RX4) (T := TX4) (N := 3) rfl (by decide) hiX4 hl17 dX4_bagsMarked_17 (fun r5 => ?_)
      refine s_ga X (C := RX2) (T := TX2) (N := 4) rfl (by decide) hiX2 hl133 dX4_bagsMarked_20 (fun r6 => ?_)
      refine s_iload_n X dX4_bagsMarked_23 3 rfl ?_
      refine s_li X dX4_bagsMarked_24 (fun x7 => ?_)
      refine s_iload_n X dX4_bagsMarked_25 1 rfl ?_
      refine s_iand X dX4_bagsMarked_26 ?_
      refine s_if_eq X 34 dX4_bagsMarked_27 (by decide) (fun h8 => ?_) (fun h8 => ?_)
      · refine s_iconst X 0 dX4_bagsMarked_34 (by decide) ?_
        refine s_lv [(0, za ((some a0))), (1, zi x_1), (3, zi x_3)] [0, 1, 3] rfl ?_
        exact J35 x_1 x_3 x_2 0 _
      · refine s_iconst X 1 dX4_bagsMarked_30 (by decide) ?_
        refine s_goto X 35 dX4_bagsMarked_31 (by decide) ?_
        refine s_lv [(0, za ((some a0))), (1, zi x_1), (3, zi x_3)] [0, 1, 3] rfl ?_
        exact J35 x_1 x_3 x_2 1 _
  refine s_iconst X 0 dX4_bagsMarked_0 (by decide) ?_
  refine s_istore_n X dX4_bagsMarked_1 (by decide) [(2, zi (0)), (0, za ((some a0))), (1, zi p0)] rfl ?_
  refine s_iconst X 0 dX4_bagsMarked_2 (by decide) ?_
  refine s_istore_n X dX4_bagsMarked_3 (by decide) [(3, zi (0)), (2, zi (0)), (0, za ((some a0))), (1, zi p0)] rfl ?_
  refine s_lv [(0, za ((some a0))), (1, zi p0), (2, zi (0)), (3, zi (0))] [2, 3, 1, 0] rfl ?_
  exact L4 z_N (p0, 0, 0) _
theorem hy_X2_markIn : yX2_markIn.cls = RX2 ∧ yX2_markIn.cls ≠ "java/lang/invoke/MethodHandle" ∧ yX2_markIn.cls ≠ "java/lang/invoke/VarHandle" ∧ (parseMethodDescriptor yX2_markIn.desc).map (fun d => d.parameters.length) = some 2 := by decide +kernel
set_option maxHeartbeats 4000000 in
set_option maxRecDepth 100000 in
theorem c_X2_markIn (l : Launch) (E : zE) (a0 : Nat) (p0 : Int32) (p1 : Int32) : z_Met l E yX2_markIn wsX2_markIn 1 22 [za ((some a0)), zi p0, zi p1] z_rv (F_X2_markIn a0 p0 p1) := by
  refine z_of (own := RX2) (cc := cX2_markIn) (maxL := 4) (rt := none) rfl (by decide) rfl (Nat.le_of_ble_eq_true rfl) ?_
  intro p e R s0 m args below meth c M0 fin X hr hnm
  have hiX2 : ∀ w ∈ u_ws RX2 TX2 4, w ∈ wsX2_markIn := by decide +kernel
  have hl18 : Cond.fieldLink RX2 18 (TX2 2).1 (TX2 2).2.1 (TX2 2).2.2.1 ∈ wsX2_markIn := by decide +kernel
  have J20 : ∀ (M : zM), z_S p l e R s0 m args below meth c (z_Qm E below args s0 M0 z_rv fin) E 4 M0 fin M 20 [] [] (F_X2_markIn_20 a0) := by
    intro M
    exact s_retv X hr dX2_markIn_20
  refine s_aload_n X dX2_markIn_0 0 rfl ?_
  refine s_iload_n X dX2_markIn_1 1 rfl ?_
  refine s_callV (ci := 2) (C := RX2) (As := [zi p0]) (st := []) X (fun a => c_X2_enter l E a p0) gX2_markIn_X2_enter rfl hy_X2_enter rfl rfl rfl rfl (Nat.le_of_ble_eq_true rfl) (by decide) dX2_markIn_2 (fun x1 M => ?_)
  refine s_istore_n X dX2_markIn_5 (by decide) [(3, zi x1), (0, za ((some a0))), (1, zi p0), (2, zi p1)] rfl ?_
  refine s_iload_n X dX2_markIn_6 0 rfl ?_
  refine s_if_lt X 20 dX2_markIn_7 (by decide) (fun h3 => ?_) (fun h3 => ?_)
  · refine s_lv [] [] rfl ?_
    exact J20 _
  · refine s_aload_n X dX2_markIn_10 1 rfl ?_
    refine s_ga X (C := RX2) (T := TX2) (N := 4) rfl (by decide) hiX2 hl18 dX2_markIn_11 (fun r4 => ?_)
    refine s_iload_n X dX2_markIn_14 0 rfl ?_
    refine s_dup2 X dX2_markIn_15 rfl rfl ?_
    refine s_li X dX2_markIn_16 (fun x5 => ?_)
    refine s_iload_n X dX2_markIn_17 3 rfl ?_
    refine s_ior X dX2_markIn_18 ?_
    refine s_si X dX2_markIn_19 (fun M => ?_)
    refine s_lv [] [] rfl ?_
    exact J20 _
theorem hy_X2_spotOf : yX2_spotOf.cls = RX2 ∧ yX2_spotOf.cls ≠ "java/lang/invoke/MethodHandle" ∧ yX2_spotOf.cls ≠ "java/lang/invoke/VarHandle" ∧ (parseMethodDescriptor yX2_spotOf.desc).map (fun d => d.parameters.length) = some 1 := by decide +kernel
set_option maxHeartbeats 4000000 in
set_option maxRecDepth 100000 in
theorem c_X2_spotOf (l : Launch) (E : zE) (a0 : Nat) (p0 : Int32) : z_Met l E yX2_spotOf wsX2_spotOf 0 0 [za ((some a0)), zi p0] z_ri (F_X2_spotOf a0 p0) := by
  refine z_of (own := RX2) (cc := cX2_spotOf) (maxL := 3) (rt := (some .int)) rfl (by decide) rfl (Nat.le_of_ble_eq_true rfl) ?_
  intro p e R s0 m args below meth c M0 fin X hr hnm
  have hiX2 : ∀ w ∈ u_ws RX2 TX2 4, w ∈ wsX2_spotOf := by decide +kernel
  have hl9 : Cond.fieldLink RX2 9 (TX2 0).1 (TX2 0).2.1 (TX2 0).2.2.1 ∈ wsX2_spotOf := by decide +kernel
  have J25 : ∀ (s_0 : Int32) (M : zM), z_S p l e R s0 m args below meth c (z_Qm E below args s0 M0 z_ri fin) E 3 M0 fin M 25 [] [zi s_0] (F_X2_spotOf_25 a0 s_0) := by
    intro s_0 M
    exact s_ret X hr dX2_spotOf_25
  refine s_iload_n X dX2_spotOf_0 1 rfl ?_
  refine s_sipush X 16383 dX2_spotOf_1 (by decide) ?_
  refine s_iand X dX2_spotOf_4 ?_
  refine s_let (fun x1 => ?_)
  refine s_istore_n X dX2_spotOf_5 (by decide) [(2, zi x1), (0, za ((some a0))), (1, zi p0)] rfl ?_
  refine s_iload_n X dX2_spotOf_6 0 rfl ?_
  refine s_sipush X 3125 dX2_spotOf_7 (by decide) ?_
  refine s_icmp_lt X 17 dX2_spotOf_10 (by decide) (fun h2 => ?_) (fun h2 => ?_)
  · refine s_aload_n X dX2_spotOf_17 1 rfl ?_
    refine s_ga X (C := RX2) (T := TX2) (N := 4) rfl (by decide) hiX2 hl9 dX2_spotOf_18 (fun r3 => ?_)
    refine s_iload_n X dX2_spotOf_21 0 rfl ?_
    refine s_li X dX2_spotOf_22 (fun x4 => ?_)
    refine s_iconst X 1 dX2_spotOf_23 (by decide) ?_
    refine s_isub X dX2_spotOf_24 ?_
    refine s_lv [] [] rfl ?_
    exact J25 (x4 - 1) _
  · refine s_iconst X (-1) dX2_spotOf_13 (by decide) ?_
    refine s_goto X 25 dX2_spotOf_14 (by decide) ?_
    refine s_lv [] [] rfl ?_
    exact J25 ((-1)) _
theorem hy_X4_countParts : yX4_countParts.cls = RX4 ∧ yX4_countParts.cls ≠ "java/lang/invoke/MethodHandle" ∧ yX4_countParts.cls ≠ "java/lang/invoke/VarHandle" ∧ (parseMethodDescriptor yX4_countParts.desc).map (fun d => d.parameters.length) = some 1 := by decide +kernel
set_option maxHeartbeats 4000000 in
set_option maxRecDepth 100000 in
theorem c_X4_countParts (l : Launch) (E : zE) (a0 : Nat) (q0 : Option Nat) : z_Met l E yX4_countParts wsX4_countParts 2 45 [za ((some a0)), za q0] z_rv (F_X4_countParts a0 q0) := by
  refine z_of (own := RX4) (cc := cX4_countParts) (maxL := 7) (rt := none) rfl (by decide) rfl (Nat.le_of_ble_eq_true rfl) ?_
  intro p e R s0 m args below meth c M0 fin X hr hnm
  have hiX4 : ∀ w ∈ u_ws RX4 TX4 3, w ∈ wsX4_countParts := by decide +kernel
  have hiX3 : ∀ w ∈ u_ws RX3 TX3 6, w ∈ wsX4_countParts := by decide +kernel
  have hiX2 : ∀ w ∈ u_ws RX2 TX2 4, w ∈ wsX4_countParts := by decide +kernel
  have hl17 : Cond.fieldLink RX4 17 (TX4 1).1 (TX4 1).2.1 (TX4 1).2.2.1 ∈ wsX4_countParts := by decide +kernel
  have hl55 : Cond.fieldLink RX4 55 (TX3 1).1 (TX3 1).2.1 (TX3 1).2.2.1 ∈ wsX4_countParts := by decide +kernel
  have hl63 : Cond.fieldLink RX4 63 (TX3 2).1 (TX3 2).2.1 (TX3 2).2.2.1 ∈ wsX4_countParts := by decide +kernel
  have hl95 : Cond.fieldLink RX4 95 (TX2 1).1 (TX2 1).2.1 (TX2 1).2.2.1 ∈ wsX4_countParts := by decide +kernel
  have hl133 : Cond.fieldLink RX4 133 (TX2 2).1 (TX2 2).2.1 (TX2 2).2.2.1 ∈ wsX4_countParts := by decide +kernel
  have L27 : ∀ (n : Nat) (s : (Option Nat) × Int32 × Int32) (M : zM), z_S p l e R s0 m args below meth c (z_Qm E below args s0 M0 z_rv fin) E 7 M0 fin M 27 [(0, za (some a0)), (1, za s.1), (2, zi s.2.1), (3, zi s.2.2)] [] (F_X4_countParts_27 a0 n s) := by
    refine s_fix ?_
    intro ih27_ hih27
    have J125 : ∀ (r_1 : Option Nat) (x_2 : Int32) (x_3 : Int32) (M : zM), z_S p l e R s0 m args below meth c (z_Qm E below args s0 M0 z_rv fin) E 7 M0 fin M 125 [(0, za ((some a0))), (1, za r_1), (2, zi x_2), (3, zi x_3)] [] (F_X4_countParts_125 a0 (fun y0 y1 y2 => ih27_ (y0, y1, y2)) r_1 x_2 x_3) := by
      intro r_1 x_2 x_3 M
      refine s_iinc X 1 dX4_countParts_125 3 rfl (by decide) (by decide) [(3, zi (x_3 + 1)), (0, za ((some a0))), (1, za r_1), (2, zi x_2)] rfl ?_
      refine s_goto X 27 dX4_countParts_128 (by decide) ?_
      refine s_lv [(0, za ((some a0))), (1, za r_1), (2, zi x_2), (3, zi (x_3 + 1))] [1, 2, 3, 0] rfl ?_
      exact hih27 (r_1, x_2, x_3 + 1) _
    have L45 : ∀ (n : Nat) (s : (Option Nat) × Int32 × Int32 × Int32 × Int32) (M : zM), z_S p l e R s0 m args below meth c (z_Qm E below args s0 M0 z_rv fin) E 7 M0 fin M 45 [(0, za (some a0)), (1, za s.1), (2, zi s.2.1), (3, zi s.2.2.1), (4, zi s.2.2.2.1), (5, zi s.2.2.2.2)] [] (F_X4_countParts_45 a0 (fun y0 y1 y2 => ih27_ (y0, y1, y2)) n s) := by
      refine s_fix ?_
      intro ih45_ hih45
      have J119 : ∀ (r_1 : Option Nat) (x_2 : Int32) (x_3 : Int32) (x_4 : Int32) (x_5 : Int32) (M : zM), z_S p l e R s0 m args below meth c (z_Qm E below args s0 M0 z_rv fin) E 7 M0 fin M 119 [(0, za ((some a0))), (1, za r_1), (2, zi x_2), (3, zi x_3), (4, zi x_4), (5, zi x_5)] [] (F_X4_countParts_119 a0 (fun y0 y1 y2 => ih27_ (y0, y1, y2)) (fun y0 y1 y2 y3 y4 => ih45_ (y0, y1, y2, y3, y4)) r_1 x_2 x_3 x_4 x_5) := by
        intro r_1 x_2 x_3 x_4 x_5 M
        refine s_iinc X 1 dX4_countParts_119 5 rfl (by decide) (by decide) [(5, zi (x_5 + 1)), (0, za ((some a0))), (1, za r_1), (2, zi x_2), (3, zi x_3), (4, zi x_4)] rfl ?_
        refine s_goto X 45 dX4_countParts_122 (by decide) ?_
        refine s_lv [(0, za ((some a0))), (1, za r_1), (2, zi x_2), (3, zi x_3), (4, zi x_4), (5, zi (x_5 + 1))] [1, 2, 3, 4, 5, 0] rfl ?_
        exact hih45 (r_1, x_2, x_3, x_4, x_5 + 1) _
      rintro ⟨r_1, x_2, x_3, x_4, x_5⟩ M
      refine s_iload X dX4_countParts_45 4 rfl ?_
      refine s_if_lt X 125 dX4_countParts_47 (by decide) (fun h12 => ?_) (fun h12 => ?_)
      · refine s_lv [(0, za ((some a0))), (1, za r_1), (2, zi x_2), (3, zi x_3)] [0, 1, 2, 3] rfl ?_
        exact J125 r_1 x_2 x_3 _
      · refine s_iload X dX4_countParts_50 5 rfl ?_
        refine s_aload_n X dX4_countParts_52 1 rfl ?_
        refine s_ga X (C := RX3) (T := TX3) (N := 6) rfl (by decide) hiX3 hl63 dX4_countParts_53 (fun r13 => ?_)
        refine s_len X dX4_countParts_56 (fun n14 => ?_)
        refine s_icmp_ge X 125 dX4_countParts_57 (by decide) (fun h15 => ?_) (fun h15 => ?_)
        · refine s_lv [(0, za ((some a0))), (1, za r_1), (2, zi x_2), (3, zi x_3)] [0, 1, 2, 3] rfl ?_
          exact J125 r_1 x_2 x_3 _
        · refine s_aload_n X dX4_countParts_60 0 rfl ?_
          refine s_ga X (C := RX4) (T := TX4) (N := 3) rfl (by decide) hiX4 hl17 dX4_countParts_61 (fun r16 => ?_)
          refine s_ga X (C := RX2) (T := TX2) (N := 4) rfl (by decide) hiX2 hl95 dX4_countParts_64 (fun r17 => ?_)
          refine s_iload X dX4_countParts_67 4 rfl ?_
          refine s_li X dX4_countParts_69 (fun x18 => ?_)
          refine s_aload_n X dX4_countParts_70 1 rfl ?_
          refine s_ga X (C := RX3) (T := TX3) (N := 6) rfl (by decide) hiX3 hl63 dX4_countParts_71 (fun r19 => ?_)
          refine s_iload X dX4_countParts_74 5 rfl ?_
          refine s_li X dX4_countParts_76 (fun x20 => ?_)
          refine s_iadd X dX4_countParts_77 ?_
          refine s_let (fun x21 => ?_)
          refine s_istore X dX4_countParts_78 (by decide) [(6, zi x21), (0, za ((some a0))), (1, za r_1), (2, zi x_2), (3, zi x_3), (4, zi x_4), (5, zi x_5)] rfl ?_
          refine s_aload_n X dX4_countParts_80 2 rfl ?_
          refine s_ga X (C := RX3) (T := TX3) (N := 6) rfl (by decide) hiX3 hl63 dX4_countParts_81 (fun r22 => ?_)
          refine s_iload X dX4_countParts_84 6 rfl ?_
          refine s_li X dX4_countParts_86 (fun x23 => ?_)
          refine s_if_eq X 119 dX4_countParts_87 (by decide) (fun h24 => ?_) (fun h24 => ?_)
          · refine s_lv [(0, za ((some a0))), (1, za r_1), (2, zi x_2), (3, zi x_3), (4, zi x_4), (5, zi x_5)] [1, 2, 3, 4, 5, 6] rfl ?_
            exact J119 r_1 x_2 x_3 x_4 x_5 _
          · refine s_iload X dX4_countParts_90 0 rfl ?_
            refine s_callS (As := [zi x21]) (st := []) X (c_X1_fits l E x21) gX4_countParts_X1_fits rfl hy_X1_fits rfl rfl (Nat.le_of_ble_eq_true rfl) (by decide) dX4_countParts_92 (fun x25 M => ?_)
            refine s_if_eq X 119 dX4_countParts_95 (by decide) (fun h26 => ?_) (fun h26 => ?_)
            · refine s_lv [(0, za ((some a0))), (1, za r_1), (2, zi x_2), (3, zi x_3), (4, zi x_4), (5, zi x_5)] [1, 2, 3, 4, 5, 6] rfl ?_
              exact J119 r_1 x_2 x_3 x_4 x_5 _
            · refine s_aload_n X dX4_countParts_98 1 rfl ?_
              refine s_ga X (C := RX4) (T := TX4) (N := 3) rfl (by decide) hiX4 hl17 dX4_countParts_99 (fun r27 => ?_)
              refine s_iload X dX4_countParts_102 0 rfl ?_
              refine s_aload_n X dX4_countParts_104 1 rfl ?_
              refine s_ga X (C := RX4) (T := TX4) (N := 3) rfl (by decide) hiX4 hl17 dX4_countParts_105 (fun r28 => ?_)
              refine s_ga X (C := RX2) (T := TX2) (N := 4) rfl (by decide) hiX2 hl133 dX4_countParts_108 (fun r29 => ?_)
              refine s_iload X dX4_countParts_111 5 rfl ?_
              refine s_li X dX4_countParts_113 (fun x30 => ?_)
              refine s_iconst X 1 dX4_countParts_114 (by decide) ?_
              refine s_ishl X dX4_countParts_115 ?_
              refine s_callV (ci := 2) (C := RX2) (As := [zi x21, zi (x30 <<< (1 &&& 31))]) (st := []) X (fun a => c_X2_markIn l E a x21 (x30 <<< (1 &&& 31))) gX4_countParts_X2_markIn rfl hy_X2_markIn rfl rfl rfl rfl (Nat.le_of_ble_eq_true rfl) (by decide) dX4_countParts_116 (fun _ M => ?_)
              refine s_lv [(0, za ((some a0))), (1, za r_1), (2, zi x_2), (3, zi x_3), (4, zi x_4), (5, zi x_5)] [1, 2, 3, 4, 5, 6] rfl ?_
              exact J119 r_1 x_2 x_3 x_4 x_5 _
    rintro ⟨r_1, x_2, x_3⟩ M
    refine s_iload_n X dX4_countParts_27 3 rfl ?_
    refine s_iload_n X dX4_countParts_28 2 rfl ?_
    refine s_icmp_ge X 131 dX4_countParts_29 (by decide) (fun h8 => ?_) (fun h8 => ?_)
    · exact s_retv X hr dX4_countParts_131
    · refine s_aload_n X dX4_countParts_32 0 rfl ?_
      refine s_ga X (C := RX4) (T := TX4) (N := 3) rfl (by decide) hiX4 hl17 dX4_countParts_33 (fun r9 => ?_)
      refine s_iload_n X dX4_countParts_36 3 rfl ?_
      refine s_callV (ci := 2) (C := RX2) (As := [zi x_3]) (st := []) X (fun a => c_X2_spotOf l E a x_3) gX4_countParts_X2_spotOf rfl hy_X2_spotOf rfl rfl rfl rfl (Nat.le_of_ble_eq_true rfl) (by decide) dX4_countParts_37 (fun x10 M => ?_)
      refine s_istore X dX4_countParts_40 (by decide) [(4, zi x10), (0, za ((some a0))), (1, za r_1), (2, zi x_2), (3, zi x_3)] rfl ?_
      refine s_iconst X 0 dX4_countParts_42 (by decide) ?_
      refine s_istore X dX4_countParts_43 (by decide) [(5, zi (0)), (4, zi x10), (0, za ((some a0))), (1, za r_1), (2, zi x_2), (3, zi x_3)] rfl ?_
      refine s_lv [(0, za ((some a0))), (1, za r_1), (2, zi x_2), (3, zi x_3), (4, zi x10), (5, zi (0))] [2, 3, 4, 5, 1, 0] rfl ?_
      exact L45 z_N (r_1, x_2, x_3, x10, 0) _
  refine s_aload_n X dX4_countParts_0 0 rfl ?_
  refine s_ga X (C := RX4) (T := TX4) (N := 3) rfl (by decide) hiX4 hl17 dX4_countParts_1 (fun r1 => ?_)
  refine s_callV (ci := 2) (C := RX2) (As := []) (st := []) X (fun a => c_X2_clear l E a) gX4_countParts_X2_clear rfl hy_X2_clear rfl rfl rfl rfl (Nat.le_of_ble_eq_true rfl) (by decide) dX4_countParts_4 (fun _ M => ?_)
  refine s_aload_n X dX4_countParts_7 0 rfl ?_
  refine s_ga X (C := RX4) (T := TX4) (N := 3) rfl (by decide) hiX4 hl17 dX4_countParts_8 (fun r3 => ?_)
  refine s_iconst X 0 dX4_countParts_11 (by decide) ?_
  refine s_iconst X 1 dX4_countParts_12 (by decide) ?_
  refine s_callV (ci := 2) (C := RX2) (As := [zi (0), zi (1)]) (st := []) X (fun a => c_X2_markIn l E a 0 1) gX4_countParts_X2_markIn rfl hy_X2_markIn rfl rfl rfl rfl (Nat.le_of_ble_eq_true rfl) (by decide) dX4_countParts_13 (fun _ M => ?_)
  refine s_aload_n X dX4_countParts_16 1 rfl ?_
  refine s_ga X (C := RX3) (T := TX3) (N := 6) rfl (by decide) hiX3 hl55 dX4_countParts_17 (fun r5 => ?_)
  refine s_len X dX4_countParts_20 (fun n6 => ?_)
  refine s_callS (As := [zi n6]) (st := []) X (c_X1_indexesOf l E n6) gX4_countParts_X1_indexesOf rfl hy_X1_indexesOf rfl rfl (Nat.le_of_ble_eq_true rfl) (by decide) dX4_countParts_21 (fun x7 M => ?_)
  refine s_istore_n X dX4_countParts_24 (by decide) [(2, zi x7), (0, za ((some a0))), (1, za q0)] rfl ?_
  refine s_iconst X 0 dX4_countParts_25 (by decide) ?_
  refine s_istore_n X dX4_countParts_26 (by decide) [(3, zi (0)), (2, zi x7), (0, za ((some a0))), (1, za q0)] rfl ?_
  refine s_lv [(0, za ((some a0))), (1, za q0), (2, zi x7), (3, zi (0))] [2, 3, 1, 0] rfl ?_
  exact L27 z_N (q0, x7, 0) _
theorem hy_X4_holdsEmpty : yX4_holdsEmpty.cls ≠ "java/lang/invoke/MethodHandle" ∧ yX4_holdsEmpty.cls ≠ "java/lang/invoke/VarHandle" ∧ (parseMethodDescriptor yX4_holdsEmpty.desc).map (fun d => d.parameters.length) = some 1 := by decide +kernel
set_option maxHeartbeats 4000000 in
set_option maxRecDepth 100000 in
theorem c_X4_holdsEmpty (l : Launch) (E : zE) (q0 : Option Nat) : z_Met l E yX4_holdsEmpty wsX4_holdsEmpty 0 0 [za q0] z_ri (F_X4_holdsEmpty q0) := by
  refine z_of (own := RX4) (cc := cX4_holdsEmpty) (maxL := 2) (rt := (some .boolean)) rfl (by decide) rfl (Nat.le_of_ble_eq_true rfl) ?_
  intro p e R s0 m args below meth c M0 fin X hr hnm
  have L2 : ∀ (n : Nat) (s : (Option Nat) × Int32) (M : zM), z_S p l e R s0 m args below meth c (z_Qm E below args s0 M0 z_ri fin) E 2 M0 fin M 2 [(0, za s.1), (1, zi s.2)] [] (F_X4_holdsEmpty_2 n s) := by
    refine s_fix ?_
    intro ih2_ hih2
    rintro ⟨r_0, x_1⟩ M
    refine s_iload_n X dX4_holdsEmpty_2 1 rfl ?_
    refine s_aload_n X dX4_holdsEmpty_3 0 rfl ?_
    refine s_len X dX4_holdsEmpty_4 (fun n1 => ?_)
    refine s_icmp_ge X 22 dX4_holdsEmpty_5 (by decide) (fun h2 => ?_) (fun h2 => ?_)
    · refine s_iconst X 0 dX4_holdsEmpty_22 (by decide) ?_
      exact s_retb X hr dX4_holdsEmpty_23
    · refine s_aload_n X dX4_holdsEmpty_8 0 rfl ?_
      refine s_iload_n X dX4_holdsEmpty_9 1 rfl ?_
      refine s_li X dX4_holdsEmpty_10 (fun x3 => ?_)
      refine s_if_ne X 16 dX4_holdsEmpty_11 (by decide) (fun h4 => ?_) (fun h4 => ?_)
      · refine s_iinc X 1 dX4_holdsEmpty_16 1 rfl (by decide) (by decide) [(1, zi (x_1 + 1)), (0, za r_0)] rfl ?_
        refine s_goto X 2 dX4_holdsEmpty_19 (by decide) ?_
        refine s_lv [(0, za r_0), (1, zi (x_1 + 1))] [1, 0] rfl ?_
        exact hih2 (r_0, x_1 + 1) _
      · refine s_iconst X 1 dX4_holdsEmpty_14 (by decide) ?_
        exact s_retb X hr dX4_holdsEmpty_15
  refine s_iconst X 0 dX4_holdsEmpty_0 (by decide) ?_
  refine s_istore_n X dX4_holdsEmpty_1 (by decide) [(1, zi (0)), (0, za q0)] rfl ?_
  refine s_lv [(0, za q0), (1, zi (0))] [1, 0] rfl ?_
  exact L2 z_N (q0, 0) _
theorem hy_X4_repeated : yX4_repeated.cls = RX4 ∧ yX4_repeated.cls ≠ "java/lang/invoke/MethodHandle" ∧ yX4_repeated.cls ≠ "java/lang/invoke/VarHandle" ∧ (parseMethodDescriptor yX4_repeated.desc).map (fun d => d.parameters.length) = some 3 := by decide +kernel
set_option maxHeartbeats 4000000 in
set_option maxRecDepth 100000 in
theorem c_X4_repeated (l : Launch) (E : zE) (a0 : Nat) (q0 : Option Nat) (p1 : Int32) (p2 : Int32) : z_Met l E yX4_repeated wsX4_repeated 3 71 [za ((some a0)), za q0, zi p1, zi p2] z_ra (F_X4_repeated a0 q0 p1 p2) := by
  refine z_of (own := RX4) (cc := cX4_repeated) (maxL := 8) (rt := (some (.array .int))) rfl (by decide) rfl (Nat.le_of_ble_eq_true rfl) ?_
  intro p e R s0 m args below meth c M0 fin X hr hnm
  have hiX3 : ∀ w ∈ u_ws RX3 TX3 6, w ∈ wsX4_repeated := by decide +kernel
  have hl63 : Cond.fieldLink RX4 63 (TX3 2).1 (TX3 2).2.1 (TX3 2).2.2.1 ∈ wsX4_repeated := by decide +kernel
  have L61 : ∀ (n : Nat) (s : Int32 × Int32 × Int32) (M : zM), z_S p l e R s0 m args below meth c (z_Qm E below args s0 M0 z_ra fin) E 8 M0 fin M 61 [(0, za (some a0)), (5, zi s.1), (6, zi s.2.1), (7, zi s.2.2)] [] (F_X4_repeated_61 a0 n s) := by
    refine s_fix ?_
    intro ih61_ hih61
    rintro ⟨x_5, x_6, x_7⟩ M
    refine s_iload X dX4_repeated_61 3 rfl ?_
    refine s_iload X dX4_repeated_63 1 rfl ?_
    refine s_icmp_gt X 83 dX4_repeated_65 (by decide) (fun h9 => ?_) (fun h9 => ?_)
    · refine s_aload_n X dX4_repeated_83 0 rfl ?_
      refine s_iload X dX4_repeated_84 2 rfl ?_
      refine s_callV (ci := 4) (C := RX4) (As := [zi x_6]) (st := []) X (fun a => c_X4_bagsMarked l E a x_6) gX4_repeated_X4_bagsMarked rfl hy_X4_bagsMarked rfl rfl rfl rfl (Nat.le_of_ble_eq_true rfl) (by decide) dX4_repeated_86 (fun r10 M => ?_)
      exact s_reta X hr (Or.inr ⟨_, rfl⟩) dX4_repeated_89
    · refine s_iload X dX4_repeated_68 2 rfl ?_
      refine s_iconst X 1 dX4_repeated_70 (by decide) ?_
      refine s_iload X dX4_repeated_71 3 rfl ?_
      refine s_ishl X dX4_repeated_73 ?_
      refine s_ior X dX4_repeated_74 ?_
      refine s_let (fun x12 => ?_)
      refine s_istore X dX4_repeated_75 (by decide) [(6, zi x12), (0, za ((some a0))), (5, zi x_5), (7, zi x_7)] rfl ?_
      refine s_iinc X 1 dX4_repeated_77 3 rfl (by decide) (by decide) [(7, zi (x_7 + 1)), (6, zi x12), (0, za ((some a0))), (5, zi x_5)] rfl ?_
      refine s_goto X 61 dX4_repeated_80 (by decide) ?_
      refine s_lv [(0, za ((some a0))), (5, zi x_5), (6, zi x12), (7, zi (x_7 + 1))] [2, 3, 1, 0] rfl ?_
      exact hih61 (x_5, x12, x_7 + 1) _
  have J52 : ∀ (x_4 : Int32) (s_0 : Int32) (M : zM), z_S p l e R s0 m args below meth c (z_Qm E below args s0 M0 z_ra fin) E 8 M0 fin M 52 [(0, za ((some a0))), (4, zi x_4)] [zi s_0] (F_X4_repeated_52 a0 x_4 s_0) := by
    intro x_4 s_0 M
    refine s_istore X dX4_repeated_52 (by decide) [(5, zi s_0), (0, za ((some a0))), (4, zi x_4)] rfl ?_
    refine s_iconst X 0 dX4_repeated_54 (by decide) ?_
    refine s_istore X dX4_repeated_55 (by decide) [(6, zi (0)), (5, zi s_0), (0, za ((some a0))), (4, zi x_4)] rfl ?_
    refine s_iload X dX4_repeated_57 3 rfl ?_
    refine s_istore X dX4_repeated_59 (by decide) [(7, zi x_4), (6, zi (0)), (5, zi s_0), (0, za ((some a0))), (4, zi x_4)] rfl ?_
    refine s_lv [(0, za ((some a0))), (5, zi s_0), (6, zi (0)), (7, zi x_4)] [3, 2, 1, 0] rfl ?_
    exact L61 z_N (s_0, 0, x_4) _
  have J34 : ∀ (x_3 : Int32) (s_0 : Int32) (M : zM), z_S p l e R s0 m args below meth c (z_Qm E below args s0 M0 z_ra fin) E 8 M0 fin M 34 [(0, za ((some a0))), (3, zi x_3)] [zi s_0] (F_X4_repeated_34 a0 x_3 s_0) := by
    intro x_3 s_0 M
    refine s_istore X dX4_repeated_34 (by decide) [(4, zi s_0), (0, za ((some a0))), (3, zi x_3)] rfl ?_
    refine s_iload_n X dX4_repeated_36 2 rfl ?_
    refine s_iconst X (-1) dX4_repeated_37 (by decide) ?_
    refine s_icmp_ne X 46 dX4_repeated_38 (by decide) (fun h8 => ?_) (fun h8 => ?_)
    · refine s_iload_n X dX4_repeated_46 2 rfl ?_
      refine s_bipush X 8 dX4_repeated_47 (by decide) ?_
      refine s_min X (by decide +kernel) (by decide +kernel) (by decide +kernel) (by decide +kernel) ⟨by decide, Nat.le_of_ble_eq_true rfl⟩ dX4_repeated_49 ?_
      refine s_lv [(0, za ((some a0))), (4, zi s_0)] [1, 0] rfl ?_
      exact J52 s_0 (if 8 < x_3 then 8 else x_3) _
    · refine s_bipush X 8 dX4_repeated_41 (by decide) ?_
      refine s_goto X 52 dX4_repeated_43 (by decide) ?_
      refine s_lv [(0, za ((some a0))), (4, zi s_0)] [1, 0] rfl ?_
      exact J52 s_0 8 _
  have J14 : ∀ (r_1 : Option Nat) (x_2 : Int32) (x_3 : Int32) (M : zM), z_S p l e R s0 m args below meth c (z_Qm E below args s0 M0 z_ra fin) E 8 M0 fin M 14 [(0, za ((some a0))), (1, za r_1), (2, zi x_2), (3, zi x_3)] [] (F_X4_repeated_14 a0 r_1 x_2 x_3) := by
    intro r_1 x_2 x_3 M
    refine s_aload_n X dX4_repeated_14 0 rfl ?_
    refine s_aload_n X dX4_repeated_15 1 rfl ?_
    refine s_callV (ci := 4) (C := RX4) (As := [za r_1]) (st := []) X (fun a => c_X4_countParts l E a r_1) gX4_repeated_X4_countParts rfl hy_X4_countParts rfl rfl rfl rfl (Nat.le_of_ble_eq_true rfl) (by decide) dX4_repeated_16 (fun _ M => ?_)
    refine s_aload_n X dX4_repeated_19 1 rfl ?_
    refine s_ga X (C := RX3) (T := TX3) (N := 6) rfl (by decide) hiX3 hl63 dX4_repeated_20 (fun r5 => ?_)
    refine s_callS (As := [za r5]) (st := []) X (c_X4_holdsEmpty l E r5) gX4_repeated_X4_holdsEmpty rfl hy_X4_holdsEmpty rfl rfl (Nat.le_of_ble_eq_true rfl) (by decide) dX4_repeated_23 (fun x6 M => ?_)
    refine s_if_eq X 33 dX4_repeated_26 (by decide) (fun h7 => ?_) (fun h7 => ?_)
    · refine s_iload_n X dX4_repeated_33 2 rfl ?_
      refine s_lv [(0, za ((some a0))), (3, zi x_3)] [0, 3] rfl ?_
      exact J34 x_3 x_2 _
    · refine s_iconst X 0 dX4_repeated_29 (by decide) ?_
      refine s_goto X 34 dX4_repeated_30 (by decide) ?_
      refine s_lv [(0, za ((some a0))), (3, zi x_3)] [0, 3] rfl ?_
      exact J34 x_3 0 _
  refine s_iload_n X dX4_repeated_0 3 rfl ?_
  refine s_iconst X (-1) dX4_repeated_1 (by decide) ?_
  refine s_icmp_eq X 14 dX4_repeated_2 (by decide) (fun h1 => ?_) (fun h1 => ?_)
  · exact J14 q0 p1 p2 _
  · refine s_iload_n X dX4_repeated_5 3 rfl ?_
    refine s_iload_n X dX4_repeated_6 2 rfl ?_
    refine s_icmp_ge X 14 dX4_repeated_7 (by decide) (fun h2 => ?_) (fun h2 => ?_)
    · exact J14 q0 p1 p2 _
    · refine s_iconst X 0 dX4_repeated_10 (by decide) ?_
      refine s_nwi X (by decide +kernel) dX4_repeated_11 (fun a3 M => ?_)
      exact s_reta X hr (Or.inr ⟨_, rfl⟩) dX4_repeated_13
theorem hy_X4_addRepeated : yX4_addRepeated.cls = RX4 ∧ yX4_addRepeated.cls ≠ "java/lang/invoke/MethodHandle" ∧ yX4_addRepeated.cls ≠ "java/lang/invoke/VarHandle" ∧ (parseMethodDescriptor yX4_addRepeated.desc).map (fun d => d.parameters.length) = some 3 := by decide +kernel
set_option maxHeartbeats 4000000 in
set_option maxRecDepth 100000 in
theorem c_X4_addRepeated (l : Launch) (E : zE) (a0 : Nat) (q0 : Option Nat) (p1 : Int32) (p2 : Int32) : z_Met l E yX4_addRepeated wsX4_addRepeated 4 98 [za ((some a0)), za q0, zi p1, zi p2] z_ri (F_X4_addRepeated a0 q0 p1 p2) := by
  refine z_of (own := RX4) (cc := cX4_addRepeated) (maxL := 4) (rt := (some .int)) rfl (by decide) rfl (Nat.le_of_ble_eq_true rfl) ?_
  intro p e R s0 m args below meth c M0 fin X hr hnm
  have hiX3 : ∀ w ∈ u_ws RX3 TX3 6, w ∈ wsX4_addRepeated := by decide +kernel
  have hl47 : Cond.fieldLink RX4 47 (TX3 0).1 (TX3 0).2.1 (TX3 0).2.2.1 ∈ wsX4_addRepeated := by decide +kernel
  have hl55 : Cond.fieldLink RX4 55 (TX3 1).1 (TX3 1).2.1 (TX3 1).2.2.1 ∈ wsX4_addRepeated := by decide +kernel
  refine s_aload_n X dX4_addRepeated_0 1 rfl ?_
  refine s_gi X (C := RX3) (T := TX3) (N := 6) rfl (by decide) hiX3 hl47 dX4_addRepeated_1 (fun x1 => ?_)
  refine s_if_eq X 12 dX4_addRepeated_4 (by decide) (fun h2 => ?_) (fun h2 => ?_)
  · refine s_aload_n X dX4_addRepeated_12 0 rfl ?_
    refine s_iconst X 0 dX4_addRepeated_13 (by decide) ?_
    refine s_aload_n X dX4_addRepeated_14 1 rfl ?_
    refine s_ga X (C := RX3) (T := TX3) (N := 6) rfl (by decide) hiX3 hl55 dX4_addRepeated_15 (fun r3 => ?_)
    refine s_aload_n X dX4_addRepeated_18 0 rfl ?_
    refine s_aload_n X dX4_addRepeated_19 1 rfl ?_
    refine s_iload_n X dX4_addRepeated_20 2 rfl ?_
    refine s_iload_n X dX4_addRepeated_21 3 rfl ?_
    refine s_callV (ci := 4) (C := RX4) (As := [za q0, zi p1, zi p2]) (st := [za r3, zi (0), za ((some a0))]) X (fun a => c_X4_repeated l E a q0 p1 p2) gX4_addRepeated_X4_repeated rfl hy_X4_repeated rfl rfl rfl rfl (Nat.le_of_ble_eq_true rfl) (by decide) dX4_addRepeated_22 (fun r4 M => ?_)
    refine s_callV (ci := 4) (C := RX4) (As := [zi (0), za r3, za r4]) (st := []) X (fun a => c_X4_keep l E a 0 r3 r4) gX4_addRepeated_X4_keep rfl hy_X4_keep rfl rfl rfl rfl (Nat.le_of_ble_eq_true rfl) (by decide) dX4_addRepeated_25 (fun x6 M => ?_)
    exact s_ret X hr dX4_addRepeated_28
  · refine s_aload_n X dX4_addRepeated_7 0 rfl ?_
    refine s_callV (ci := 4) (C := RX4) (As := []) (st := []) X (fun a => c_X4_keepWide l E a) gX4_addRepeated_X4_keepWide rfl hy_X4_keepWide rfl rfl rfl rfl (Nat.le_of_ble_eq_true rfl) (by decide) dX4_addRepeated_8 (fun x8 M => ?_)
    exact s_ret X hr dX4_addRepeated_11
theorem hy_X10_addRepeated : yX10_addRepeated.cls = RX10 ∧ yX10_addRepeated.cls ≠ "java/lang/invoke/MethodHandle" ∧ yX10_addRepeated.cls ≠ "java/lang/invoke/VarHandle" ∧ (parseMethodDescriptor yX10_addRepeated.desc).map (fun d => d.parameters.length) = some 3 := by decide +kernel
set_option maxHeartbeats 4000000 in
set_option maxRecDepth 100000 in
theorem c_X10_addRepeated (l : Launch) (E : zE) (a0 : Nat) (p0 : Int32) (p1 : Int32) (p2 : Int32) : z_Met l E yX10_addRepeated wsX10_addRepeated 5 121 [za ((some a0)), zi p0, zi p1, zi p2] z_ri (F_X10_addRepeated a0 p0 p1 p2) := by
  refine z_of (own := RX10) (cc := cX10_addRepeated) (maxL := 5) (rt := (some .int)) rfl (by decide) rfl (Nat.le_of_ble_eq_true rfl) ?_
  intro p e R s0 m args below meth c M0 fin X hr hnm
  have hiX10 : ∀ w ∈ u_ws RX10 TX10 5, w ∈ wsX10_addRepeated := by decide +kernel
  have hl24 : Cond.fieldLink RX10 24 (TX10 1).1 (TX10 1).2.1 (TX10 1).2.2.1 ∈ wsX10_addRepeated := by decide +kernel
  have J47 : ∀ (s_0 : Int32) (M : zM), z_S p l e R s0 m args below meth c (z_Qm E below args s0 M0 z_ri fin) E 5 M0 fin M 47 [] [zi s_0] (F_X10_addRepeated_47 a0 s_0) := by
    intro s_0 M
    exact s_ret X hr dX10_addRepeated_47
  have J19 : ∀ (M : zM), z_S p l e R s0 m args below meth c (z_Qm E below args s0 M0 z_ri fin) E 5 M0 fin M 19 [] [] (F_X10_addRepeated_19 a0) := by
    intro M
    refine s_iconst X (-1) dX10_addRepeated_19 (by decide) ?_
    exact s_ret X hr dX10_addRepeated_20
  refine s_aload_n X dX10_addRepeated_0 0 rfl ?_
  refine s_ga X (C := RX10) (T := TX10) (N := 5) rfl (by decide) hiX10 hl24 dX10_addRepeated_1 (fun r1 => ?_)
  refine s_iload_n X dX10_addRepeated_4 1 rfl ?_
  refine s_callV (ci := 4) (C := RX4) (As := [zi p0]) (st := []) X (fun a => c_X4_find l E a p0) gX10_addRepeated_X4_find rfl hy_X4_find rfl rfl rfl rfl (Nat.le_of_ble_eq_true rfl) (by decide) dX10_addRepeated_5 (fun r2 M => ?_)
  refine s_astore X dX10_addRepeated_8 (by decide) [(4, za r2), (0, za ((some a0))), (1, zi p0), (2, zi p1), (3, zi p2)] rfl ?_
  refine s_aload X dX10_addRepeated_10 0 rfl ?_
  refine s_ifnull X 19 dX10_addRepeated_12 (by decide) (fun h4 => ?_) (fun h4 => ?_)
  · refine s_lv [] [] rfl ?_
    exact J19 _
  · refine s_iload_n X dX10_addRepeated_15 3 rfl ?_
    refine s_if_ge X 21 dX10_addRepeated_16 (by decide) (fun h5 => ?_) (fun h5 => ?_)
    · refine s_aload_n X dX10_addRepeated_21 1 rfl ?_
      refine s_ga X (C := RX10) (T := TX10) (N := 5) rfl (by decide) hiX10 hl24 dX10_addRepeated_22 (fun r6 => ?_)
      refine s_callV (ci := 4) (C := RX4) (As := []) (st := []) X (fun a => c_X4_isFull l E a) gX10_addRepeated_X4_isFull rfl hy_X4_isFull rfl rfl rfl rfl (Nat.le_of_ble_eq_true rfl) (by decide) dX10_addRepeated_25 (fun x7 M => ?_)
      refine s_if_eq X 36 dX10_addRepeated_28 (by decide) (fun h9 => ?_) (fun h9 => ?_)
      · refine s_aload_n X dX10_addRepeated_36 1 rfl ?_
        refine s_ga X (C := RX10) (T := TX10) (N := 5) rfl (by decide) hiX10 hl24 dX10_addRepeated_37 (fun r10 => ?_)
        refine s_aload X dX10_addRepeated_40 0 rfl ?_
        refine s_iload_n X dX10_addRepeated_42 3 rfl ?_
        refine s_iload_n X dX10_addRepeated_43 4 rfl ?_
        refine s_callV (ci := 4) (C := RX4) (As := [za r2, zi p1, zi p2]) (st := []) X (fun a => c_X4_addRepeated l E a r2 p1 p2) gX10_addRepeated_X4_addRepeated rfl hy_X4_addRepeated rfl rfl rfl rfl (Nat.le_of_ble_eq_true rfl) (by decide) dX10_addRepeated_44 (fun x11 M => ?_)
        refine s_lv [] [] rfl ?_
        exact J47 x11 _
      · refine s_bipush X (-2) dX10_addRepeated_31 (by decide) ?_
        refine s_goto X 47 dX10_addRepeated_33 (by decide) ?_
        refine s_lv [] [] rfl ?_
        exact J47 ((-2)) _
    · refine s_lv [] [] rfl ?_
      exact J19 _
theorem hy_X4_addNothing : yX4_addNothing.cls = RX4 ∧ yX4_addNothing.cls ≠ "java/lang/invoke/MethodHandle" ∧ yX4_addNothing.cls ≠ "java/lang/invoke/VarHandle" ∧ (parseMethodDescriptor yX4_addNothing.desc).map (fun d => d.parameters.length) = some 0 := by decide +kernel
set_option maxHeartbeats 4000000 in
set_option maxRecDepth 100000 in
theorem c_X4_addNothing (l : Launch) (E : zE) (a0 : Nat) : z_Met l E yX4_addNothing wsX4_addNothing 3 63 [za ((some a0))] z_ri (F_X4_addNothing a0) := by
  refine z_of (own := RX4) (cc := cX4_addNothing) (maxL := 2) (rt := (some .int)) rfl (by decide) rfl (Nat.le_of_ble_eq_true rfl) ?_
  intro p e R s0 m args below meth c M0 fin X hr hnm
  refine s_iconst X 1 dX4_addNothing_0 (by decide) ?_
  refine s_nwi X (by decide +kernel) dX4_addNothing_1 (fun a1 M => ?_)
  refine s_dup X dX4_addNothing_3 rfl ?_
  refine s_iconst X 0 dX4_addNothing_4 (by decide) ?_
  refine s_iconst X 0 dX4_addNothing_5 (by decide) ?_
  refine s_si X dX4_addNothing_6 (fun M => ?_)
  refine s_astore_n X dX4_addNothing_7 (by decide) [(1, za ((some a1))), (0, za ((some a0)))] rfl ?_
  refine s_aload_n X dX4_addNothing_8 1 rfl ?_
  refine s_iconst X 0 dX4_addNothing_9 (by decide) ?_
  refine s_iconst X 0 dX4_addNothing_10 (by decide) ?_
  refine s_nwq (k := 15) (q0 := (RX7, TX7, 4)) X (by decide) (by decide) rfl (by decide +kernel) (by decide) dX4_addNothing_11 (fun a2 M => ?_)
  refine s_aload_n X dX4_addNothing_14 0 rfl ?_
  refine s_callV (ci := 4) (C := RX4) (As := [zi (0), za ((some a2)), za ((some a1))]) (st := []) X (fun a => c_X4_keep l E a 0 ((some a2)) ((some a1))) gX4_addNothing_X4_keep rfl hy_X4_keep rfl rfl rfl rfl (Nat.le_of_ble_eq_true rfl) (by decide) dX4_addNothing_15 (fun x3 M => ?_)
  exact s_ret X hr dX4_addNothing_18
theorem hy_X10_expression : yX10_expression.cls = RX10 ∧ yX10_expression.cls ≠ "java/lang/invoke/MethodHandle" ∧ yX10_expression.cls ≠ "java/lang/invoke/VarHandle" ∧ (parseMethodDescriptor yX10_expression.desc).map (fun d => d.parameters.length) = some 4 := by decide +kernel
set_option maxHeartbeats 4000000 in
set_option maxRecDepth 100000 in
theorem c_X10_expression (l : Launch) (E : zE) (a0 : Nat) (p0 : Int32) (p1 : Int32) (p2 : Int32) (p3 : Int32) : z_Met l E yX10_expression wsX10_expression 6 145 [za ((some a0)), zi p0, zi p1, zi p2, zi p3] z_ri (F_X10_expression a0 p0 p1 p2 p3) := by
  refine z_of (own := RX10) (cc := cX10_expression) (maxL := 5) (rt := (some .int)) rfl (by decide) rfl (Nat.le_of_ble_eq_true rfl) ?_
  intro p e R s0 m args below meth c M0 fin X hr hnm
  have hiX10 : ∀ w ∈ u_ws RX10 TX10 5, w ∈ wsX10_expression := by decide +kernel
  have hl24 : Cond.fieldLink RX10 24 (TX10 1).1 (TX10 1).2.1 (TX10 1).2.2.1 ∈ wsX10_expression := by decide +kernel
  have J104 : ∀ (s_0 : Int32) (M : zM), z_S p l e R s0 m args below meth c (z_Qm E below args s0 M0 z_ri fin) E 5 M0 fin M 104 [] [zi s_0] (F_X10_expression_104 a0 s_0) := by
    intro s_0 M
    exact s_ret X hr dX10_expression_104
  have J67 : ∀ (x_2 : Int32) (x_3 : Int32) (t_0 : Option Nat) (s_1 : Int32) (M : zM), z_S p l e R s0 m args below meth c (z_Qm E below args s0 M0 z_ri fin) E 5 M0 fin M 67 [(2, zi x_2), (3, zi x_3)] [zi s_1, za t_0] (F_X10_expression_67 a0 x_2 x_3 t_0 s_1) := by
    intro x_2 x_3 t_0 s_1 M
    refine s_iload_n X dX10_expression_67 0 rfl ?_
    refine s_iload_n X dX10_expression_68 1 rfl ?_
    refine s_callV (ci := 10) (C := RX10) (As := [zi s_1, zi x_2, zi x_3]) (st := []) X (fun a => c_X10_addPair l E a s_1 x_2 x_3) gX10_expression_X10_addPair rfl hy_X10_addPair rfl rfl rfl rfl (Nat.le_of_ble_eq_true rfl) (by decide) dX10_expression_69 (fun x20 M => ?_)
    exact s_ret X hr dX10_expression_72
  have J50 : ∀ (x_2 : Int32) (x_3 : Int32) (t_0 : Option Nat) (s_1 : Int32) (M : zM), z_S p l e R s0 m args below meth c (z_Qm E below args s0 M0 z_ri fin) E 5 M0 fin M 50 [(2, zi x_2), (3, zi x_3)] [zi s_1, za t_0] (F_X10_expression_50 a0 x_2 x_3 t_0 s_1) := by
    intro x_2 x_3 t_0 s_1 M
    refine s_iload_n X dX10_expression_50 0 rfl ?_
    refine s_iload_n X dX10_expression_51 1 rfl ?_
    refine s_callV (ci := 10) (C := RX10) (As := [zi s_1, zi x_2, zi x_3]) (st := []) X (fun a => c_X10_addPlace l E a s_1 x_2 x_3) gX10_expression_X10_addPlace rfl hy_X10_addPlace rfl rfl rfl rfl (Nat.le_of_ble_eq_true rfl) (by decide) dX10_expression_52 (fun x22 M => ?_)
    exact s_ret X hr dX10_expression_55
  refine s_iload_n X dX10_expression_0 1 rfl ?_
  refine s_by (fun h1 => ?_) (fun h1 => ?_)
  · refine s_tabIn X 0 40 h1 dX10_expression_1 (by decide) (by decide) (by decide) trivial ?_
    refine s_aload_n X dX10_expression_40 0 rfl ?_
    refine s_iload_n X dX10_expression_41 1 rfl ?_
    refine s_if_ne X 49 dX10_expression_42 (by decide) (fun h2 => ?_) (fun h2 => ?_)
    · refine s_iconst X 0 dX10_expression_49 (by decide) ?_
      refine s_lv [(2, zi p1), (3, zi p2)] [2, 3] rfl ?_
      exact J50 p1 p2 ((some a0)) 0 _
    · refine s_iconst X 1 dX10_expression_45 (by decide) ?_
      refine s_goto X 50 dX10_expression_46 (by decide) ?_
      refine s_lv [(2, zi p1), (3, zi p2)] [2, 3] rfl ?_
      exact J50 p1 p2 ((some a0)) 1 _
  · refine s_by (fun h3 => ?_) (fun h3 => ?_)
    · refine s_tabIn X 1 40 h3 dX10_expression_1 (by decide) (by decide) (by decide) trivial ?_
      refine s_aload_n X dX10_expression_40 0 rfl ?_
      refine s_iload_n X dX10_expression_41 1 rfl ?_
      refine s_if_ne X 49 dX10_expression_42 (by decide) (fun h4 => ?_) (fun h4 => ?_)
      · refine s_iconst X 0 dX10_expression_49 (by decide) ?_
        refine s_lv [(2, zi p1), (3, zi p2)] [2, 3] rfl ?_
        exact J50 p1 p2 ((some a0)) 0 _
      · refine s_iconst X 1 dX10_expression_45 (by decide) ?_
        refine s_goto X 50 dX10_expression_46 (by decide) ?_
        refine s_lv [(2, zi p1), (3, zi p2)] [2, 3] rfl ?_
        exact J50 p1 p2 ((some a0)) 1 _
    · refine s_by (fun h5 => ?_) (fun h5 => ?_)
      · refine s_tabIn X 2 56 h5 dX10_expression_1 (by decide) (by decide) (by decide) trivial ?_
        refine s_aload_n X dX10_expression_56 0 rfl ?_
        refine s_iload_n X dX10_expression_57 1 rfl ?_
        refine s_iconst X 2 dX10_expression_58 (by decide) ?_
        refine s_icmp_ne X 66 dX10_expression_59 (by decide) (fun h6 => ?_) (fun h6 => ?_)
        · refine s_iconst X 0 dX10_expression_66 (by decide) ?_
          refine s_lv [(2, zi p1), (3, zi p2)] [2, 3] rfl ?_
          exact J67 p1 p2 ((some a0)) 0 _
        · refine s_iconst X 1 dX10_expression_62 (by decide) ?_
          refine s_goto X 67 dX10_expression_63 (by decide) ?_
          refine s_lv [(2, zi p1), (3, zi p2)] [2, 3] rfl ?_
          exact J67 p1 p2 ((some a0)) 1 _
      · refine s_by (fun h7 => ?_) (fun h7 => ?_)
        · refine s_tabIn X 3 56 h7 dX10_expression_1 (by decide) (by decide) (by decide) trivial ?_
          refine s_aload_n X dX10_expression_56 0 rfl ?_
          refine s_iload_n X dX10_expression_57 1 rfl ?_
          refine s_iconst X 2 dX10_expression_58 (by decide) ?_
          refine s_icmp_ne X 66 dX10_expression_59 (by decide) (fun h8 => ?_) (fun h8 => ?_)
          · refine s_iconst X 0 dX10_expression_66 (by decide) ?_
            refine s_lv [(2, zi p1), (3, zi p2)] [2, 3] rfl ?_
            exact J67 p1 p2 ((some a0)) 0 _
          · refine s_iconst X 1 dX10_expression_62 (by decide) ?_
            refine s_goto X 67 dX10_expression_63 (by decide) ?_
            refine s_lv [(2, zi p1), (3, zi p2)] [2, 3] rfl ?_
            exact J67 p1 p2 ((some a0)) 1 _
        · refine s_by (fun h9 => ?_) (fun h9 => ?_)
          · refine s_tabIn X 4 73 h9 dX10_expression_1 (by decide) (by decide) (by decide) trivial ?_
            refine s_aload_n X dX10_expression_73 0 rfl ?_
            refine s_iload_n X dX10_expression_74 2 rfl ?_
            refine s_iload_n X dX10_expression_75 3 rfl ?_
            refine s_iload X dX10_expression_76 4 rfl ?_
            refine s_callV (ci := 10) (C := RX10) (As := [zi p1, zi p2, zi p3]) (st := []) X (fun a => c_X10_addRepeated l E a p1 p2 p3) gX10_expression_X10_addRepeated rfl hy_X10_addRepeated rfl rfl rfl rfl (Nat.le_of_ble_eq_true rfl) (by decide) dX10_expression_78 (fun x10 M => ?_)
            exact s_ret X hr dX10_expression_81
          · refine s_by (fun h12 => ?_) (fun h12 => ?_)
            · refine s_tabIn X 5 82 h12 dX10_expression_1 (by decide) (by decide) (by decide) trivial ?_
              refine s_aload_n X dX10_expression_82 0 rfl ?_
              refine s_ga X (C := RX10) (T := TX10) (N := 5) rfl (by decide) hiX10 hl24 dX10_expression_83 (fun r13 => ?_)
              refine s_callV (ci := 4) (C := RX4) (As := []) (st := []) X (fun a => c_X4_isFull l E a) gX10_expression_X4_isFull rfl hy_X4_isFull rfl rfl rfl rfl (Nat.le_of_ble_eq_true rfl) (by decide) dX10_expression_86 (fun x14 M => ?_)
              refine s_if_eq X 97 dX10_expression_89 (by decide) (fun h16 => ?_) (fun h16 => ?_)
              · refine s_aload_n X dX10_expression_97 0 rfl ?_
                refine s_ga X (C := RX10) (T := TX10) (N := 5) rfl (by decide) hiX10 hl24 dX10_expression_98 (fun r17 => ?_)
                refine s_callV (ci := 4) (C := RX4) (As := []) (st := []) X (fun a => c_X4_addNothing l E a) gX10_expression_X4_addNothing rfl hy_X4_addNothing rfl rfl rfl rfl (Nat.le_of_ble_eq_true rfl) (by decide) dX10_expression_101 (fun x18 M => ?_)
                refine s_lv [] [] rfl ?_
                exact J104 x18 _
              · refine s_bipush X (-2) dX10_expression_92 (by decide) ?_
                refine s_goto X 104 dX10_expression_94 (by decide) ?_
                refine s_lv [] [] rfl ?_
                exact J104 ((-2)) _
            · refine s_tabOut X 105 dX10_expression_1 (by have := lv_neT h1 (show (0 : Int32).toInt = 0 by decide); have := lv_neT h3 (show (1 : Int32).toInt = 1 by decide); have := lv_neT h5 (show (2 : Int32).toInt = 2 by decide); have := lv_neT h7 (show (3 : Int32).toInt = 3 by decide); have := lv_neT h9 (show (4 : Int32).toInt = 4 by decide); have := lv_neT h12 (show (5 : Int32).toInt = 5 by decide); omega) (by decide) ?_
              refine s_iconst X (-1) dX10_expression_105 (by decide) ?_
              exact s_ret X hr dX10_expression_106
theorem hy_X9_leads : yX9_leads.cls = RX9 ∧ yX9_leads.cls ≠ "java/lang/invoke/MethodHandle" ∧ yX9_leads.cls ≠ "java/lang/invoke/VarHandle" ∧ (parseMethodDescriptor yX9_leads.desc).map (fun d => d.parameters.length) = some 2 := by decide +kernel
set_option maxHeartbeats 4000000 in
set_option maxRecDepth 100000 in
theorem c_X9_leads (l : Launch) (E : zE) (a0 : Nat) (p0 : Int32) (p1 : Int32) : z_Met l E yX9_leads wsX9_leads 0 0 [za ((some a0)), zi p0, zi p1] z_ri (F_X9_leads a0 p0 p1) := by
  refine z_of (own := RX9) (cc := cX9_leads) (maxL := 3) (rt := (some .boolean)) rfl (by decide) rfl (Nat.le_of_ble_eq_true rfl) ?_
  intro p e R s0 m args below meth c M0 fin X hr hnm
  have hiX9 : ∀ w ∈ u_ws RX9 TX9 7, w ∈ wsX9_leads := by decide +kernel
  have hl9 : Cond.fieldLink RX9 9 (TX9 2).1 (TX9 2).2.1 (TX9 2).2.2.1 ∈ wsX9_leads := by decide +kernel
  have J18 : ∀ (s_0 : Int32) (M : zM), z_S p l e R s0 m args below meth c (z_Qm E below args s0 M0 z_ri fin) E 3 M0 fin M 18 [] [zi s_0] (F_X9_leads_18 a0 s_0) := by
    intro s_0 M
    exact s_retb X hr dX9_leads_18
  refine s_aload_n X dX9_leads_0 0 rfl ?_
  refine s_ga X (C := RX9) (T := TX9) (N := 7) rfl (by decide) hiX9 hl9 dX9_leads_1 (fun r1 => ?_)
  refine s_iload_n X dX9_leads_4 1 rfl ?_
  refine s_li X dX9_leads_5 (fun x2 => ?_)
  refine s_iload_n X dX9_leads_6 2 rfl ?_
  refine s_ishr X dX9_leads_7 ?_
  refine s_iconst X 1 dX9_leads_8 (by decide) ?_
  refine s_iand X dX9_leads_9 ?_
  refine s_if_eq X 17 dX9_leads_10 (by decide) (fun h3 => ?_) (fun h3 => ?_)
  · refine s_iconst X 0 dX9_leads_17 (by decide) ?_
    refine s_lv [] [] rfl ?_
    exact J18 0 _
  · refine s_iconst X 1 dX9_leads_13 (by decide) ?_
    refine s_goto X 18 dX9_leads_14 (by decide) ?_
    refine s_lv [] [] rfl ?_
    exact J18 1 _
theorem hy_X9_findLeastWrong : yX9_findLeastWrong.cls = RX9 ∧ yX9_findLeastWrong.cls ≠ "java/lang/invoke/MethodHandle" ∧ yX9_findLeastWrong.cls ≠ "java/lang/invoke/VarHandle" ∧ (parseMethodDescriptor yX9_findLeastWrong.desc).map (fun d => d.parameters.length) = some 0 := by decide +kernel
set_option maxHeartbeats 4000000 in
set_option maxRecDepth 100000 in
theorem c_X9_findLeastWrong (l : Launch) (E : zE) (a0 : Nat) : z_Met l E yX9_findLeastWrong wsX9_findLeastWrong 1 22 [za ((some a0))] z_ri (F_X9_findLeastWrong a0) := by
  refine z_of (own := RX9) (cc := cX9_findLeastWrong) (maxL := 3) (rt := (some .int)) rfl (by decide) rfl (Nat.le_of_ble_eq_true rfl) ?_
  intro p e R s0 m args below meth c M0 fin X hr hnm
  have hiX9 : ∀ w ∈ u_ws RX9 TX9 7, w ∈ wsX9_findLeastWrong := by decide +kernel
  have hiX8 : ∀ w ∈ u_ws RX8 TX8 7, w ∈ wsX9_findLeastWrong := by decide +kernel
  have hl22 : Cond.fieldLink RX9 22 (TX9 0).1 (TX9 0).2.1 (TX9 0).2.2.1 ∈ wsX9_findLeastWrong := by decide +kernel
  have hl53 : Cond.fieldLink RX9 53 (TX8 0).1 (TX8 0).2.1 (TX8 0).2.2.1 ∈ wsX9_findLeastWrong := by decide +kernel
  have L2 : ∀ (n : Nat) (s : Int32) (M : zM), z_S p l e R s0 m args below meth c (z_Qm E below args s0 M0 z_ri fin) E 3 M0 fin M 2 [(0, za (some a0)), (1, zi s)] [] (F_X9_findLeastWrong_2 a0 n s) := by
    refine s_fix ?_
    intro ih2_ hih2
    have L10 : ∀ (n : Nat) (s : Int32 × Int32) (M : zM), z_S p l e R s0 m args below meth c (z_Qm E below args s0 M0 z_ri fin) E 3 M0 fin M 10 [(0, za (some a0)), (1, zi s.1), (2, zi s.2)] [] (F_X9_findLeastWrong_10 a0 (fun y0 => ih2_ (y0)) n s) := by
      refine s_fix ?_
      intro ih10_ hih10
      have J49 : ∀ (x_1 : Int32) (x_2 : Int32) (M : zM), z_S p l e R s0 m args below meth c (z_Qm E below args s0 M0 z_ri fin) E 3 M0 fin M 49 [(0, za ((some a0))), (1, zi x_1), (2, zi x_2)] [] (F_X9_findLeastWrong_49 a0 (fun y0 => ih2_ (y0)) (fun y0 y1 => ih10_ (y0, y1)) x_1 x_2) := by
        intro x_1 x_2 M
        refine s_iinc X 1 dX9_findLeastWrong_49 2 rfl (by decide) (by decide) [(2, zi (x_2 + 1)), (0, za ((some a0))), (1, zi x_1)] rfl ?_
        refine s_goto X 10 dX9_findLeastWrong_52 (by decide) ?_
        refine s_lv [(0, za ((some a0))), (1, zi x_1), (2, zi (x_2 + 1))] [1, 2, 0] rfl ?_
        exact hih10 (x_1, x_2 + 1) _
      rintro ⟨x_1, x_2⟩ M
      refine s_iload_n X dX9_findLeastWrong_10 2 rfl ?_
      refine s_bipush X 16 dX9_findLeastWrong_11 (by decide) ?_
      refine s_icmp_ge X 55 dX9_findLeastWrong_13 (by decide) (fun h2 => ?_) (fun h2 => ?_)
      · refine s_iinc X 1 dX9_findLeastWrong_55 1 rfl (by decide) (by decide) [(1, zi (x_1 + 1)), (0, za ((some a0))), (2, zi x_2)] rfl ?_
        refine s_goto X 2 dX9_findLeastWrong_58 (by decide) ?_
        refine s_lv [(0, za ((some a0))), (1, zi (x_1 + 1))] [1, 0] rfl ?_
        exact hih2 (x_1 + 1) _
      · refine s_aload_n X dX9_findLeastWrong_16 0 rfl ?_
        refine s_ga X (C := RX9) (T := TX9) (N := 7) rfl (by decide) hiX9 hl22 dX9_findLeastWrong_17 (fun r3 => ?_)
        refine s_iload_n X dX9_findLeastWrong_20 2 rfl ?_
        refine s_la X dX9_findLeastWrong_21 (fun r4 => ?_)
        refine s_gi X (C := RX8) (T := TX8) (N := 7) rfl (by decide) hiX8 hl53 dX9_findLeastWrong_22 (fun x5 => ?_)
        refine s_iconst X 3 dX9_findLeastWrong_25 (by decide) ?_
        refine s_icmp_ne X 49 dX9_findLeastWrong_26 (by decide) (fun h6 => ?_) (fun h6 => ?_)
        · exact J49 x_1 x_2 _
        · refine s_aload_n X dX9_findLeastWrong_29 0 rfl ?_
          refine s_iload_n X dX9_findLeastWrong_30 1 rfl ?_
          refine s_iload_n X dX9_findLeastWrong_31 2 rfl ?_
          refine s_callV (ci := 9) (C := RX9) (As := [zi x_1, zi x_2]) (st := []) X (fun a => c_X9_leads l E a x_1 x_2) gX9_findLeastWrong_X9_leads rfl hy_X9_leads rfl rfl rfl rfl (Nat.le_of_ble_eq_true rfl) (by decide) dX9_findLeastWrong_32 (fun x7 M => ?_)
          refine s_if_eq X 49 dX9_findLeastWrong_35 (by decide) (fun h9 => ?_) (fun h9 => ?_)
          · exact J49 x_1 x_2 _
          · refine s_aload_n X dX9_findLeastWrong_38 0 rfl ?_
            refine s_iload_n X dX9_findLeastWrong_39 2 rfl ?_
            refine s_iload_n X dX9_findLeastWrong_40 1 rfl ?_
            refine s_callV (ci := 9) (C := RX9) (As := [zi x_2, zi x_1]) (st := []) X (fun a => c_X9_leads l E a x_2 x_1) gX9_findLeastWrong_X9_leads rfl hy_X9_leads rfl rfl rfl rfl (Nat.le_of_ble_eq_true rfl) (by decide) dX9_findLeastWrong_41 (fun x10 M => ?_)
            refine s_if_eq X 49 dX9_findLeastWrong_44 (by decide) (fun h12 => ?_) (fun h12 => ?_)
            · exact J49 x_1 x_2 _
            · refine s_iload_n X dX9_findLeastWrong_47 1 rfl ?_
              exact s_ret X hr dX9_findLeastWrong_48
    rintro x_1 M
    refine s_iload_n X dX9_findLeastWrong_2 1 rfl ?_
    refine s_bipush X 16 dX9_findLeastWrong_3 (by decide) ?_
    refine s_icmp_ge X 61 dX9_findLeastWrong_5 (by decide) (fun h1 => ?_) (fun h1 => ?_)
    · refine s_iconst X (-1) dX9_findLeastWrong_61 (by decide) ?_
      exact s_ret X hr dX9_findLeastWrong_62
    · refine s_iconst X 0 dX9_findLeastWrong_8 (by decide) ?_
      refine s_istore_n X dX9_findLeastWrong_9 (by decide) [(2, zi (0)), (0, za ((some a0))), (1, zi x_1)] rfl ?_
      refine s_lv [(0, za ((some a0))), (1, zi x_1), (2, zi (0))] [1, 2, 0] rfl ?_
      exact L10 z_N (x_1, 0) _
  refine s_iconst X 0 dX9_findLeastWrong_0 (by decide) ?_
  refine s_istore_n X dX9_findLeastWrong_1 (by decide) [(1, zi (0)), (0, za ((some a0)))] rfl ?_
  refine s_lv [(0, za ((some a0))), (1, zi (0))] [1, 0] rfl ?_
  exact L2 z_N (0) _
theorem hy_X9_findReach : yX9_findReach.cls = RX9 ∧ yX9_findReach.cls ≠ "java/lang/invoke/MethodHandle" ∧ yX9_findReach.cls ≠ "java/lang/invoke/VarHandle" ∧ (parseMethodDescriptor yX9_findReach.desc).map (fun d => d.parameters.length) = some 0 := by decide +kernel
set_option maxHeartbeats 4000000 in
set_option maxRecDepth 100000 in
theorem c_X9_findReach (l : Launch) (E : zE) (a0 : Nat) : z_Met l E yX9_findReach wsX9_findReach 1 22 [za ((some a0))] z_rv (F_X9_findReach a0) := by
  refine z_of (own := RX9) (cc := cX9_findReach) (maxL := 3) (rt := none) rfl (by decide) rfl (Nat.le_of_ble_eq_true rfl) ?_
  intro p e R s0 m args below meth c M0 fin X hr hnm
  have hiX9 : ∀ w ∈ u_ws RX9 TX9 7, w ∈ wsX9_findReach := by decide +kernel
  have hiX8 : ∀ w ∈ u_ws RX8 TX8 7, w ∈ wsX9_findReach := by decide +kernel
  have hl9 : Cond.fieldLink RX9 9 (TX9 2).1 (TX9 2).2.1 (TX9 2).2.2.1 ∈ wsX9_findReach := by decide +kernel
  have hl22 : Cond.fieldLink RX9 22 (TX9 0).1 (TX9 0).2.1 (TX9 0).2.2.1 ∈ wsX9_findReach := by decide +kernel
  have hl44 : Cond.fieldLink RX9 44 (TX8 6).1 (TX8 6).2.1 (TX8 6).2.2.1 ∈ wsX9_findReach := by decide +kernel
  have L31 : ∀ (n : Nat) (s : Int32) (M : zM), z_S p l e R s0 m args below meth c (z_Qm E below args s0 M0 z_rv fin) E 3 M0 fin M 31 [(0, za (some a0)), (1, zi s)] [] (F_X9_findReach_31 a0 n s) := by
    refine s_fix ?_
    intro ih31_ hih31
    have L39 : ∀ (n : Nat) (s : Int32 × Int32) (M : zM), z_S p l e R s0 m args below meth c (z_Qm E below args s0 M0 z_rv fin) E 3 M0 fin M 39 [(0, za (some a0)), (1, zi s.1), (2, zi s.2)] [] (F_X9_findReach_39 a0 (fun y0 => ih31_ (y0)) n s) := by
      refine s_fix ?_
      intro ih39_ hih39
      have J69 : ∀ (x_1 : Int32) (x_2 : Int32) (M : zM), z_S p l e R s0 m args below meth c (z_Qm E below args s0 M0 z_rv fin) E 3 M0 fin M 69 [(0, za ((some a0))), (1, zi x_1), (2, zi x_2)] [] (F_X9_findReach_69 a0 (fun y0 => ih31_ (y0)) (fun y0 y1 => ih39_ (y0, y1)) x_1 x_2) := by
        intro x_1 x_2 M
        refine s_iinc X 1 dX9_findReach_69 2 rfl (by decide) (by decide) [(2, zi (x_2 + 1)), (0, za ((some a0))), (1, zi x_1)] rfl ?_
        refine s_goto X 39 dX9_findReach_72 (by decide) ?_
        refine s_lv [(0, za ((some a0))), (1, zi x_1), (2, zi (x_2 + 1))] [1, 2, 0] rfl ?_
        exact hih39 (x_1, x_2 + 1) _
      rintro ⟨x_1, x_2⟩ M
      refine s_iload_n X dX9_findReach_39 2 rfl ?_
      refine s_bipush X 16 dX9_findReach_40 (by decide) ?_
      refine s_icmp_ge X 75 dX9_findReach_42 (by decide) (fun h7 => ?_) (fun h7 => ?_)
      · refine s_iinc X 1 dX9_findReach_75 1 rfl (by decide) (by decide) [(1, zi (x_1 + 1)), (0, za ((some a0))), (2, zi x_2)] rfl ?_
        refine s_goto X 31 dX9_findReach_78 (by decide) ?_
        refine s_lv [(0, za ((some a0))), (1, zi (x_1 + 1))] [1, 0] rfl ?_
        exact hih31 (x_1 + 1) _
      · refine s_aload_n X dX9_findReach_45 0 rfl ?_
        refine s_iload_n X dX9_findReach_46 2 rfl ?_
        refine s_iload_n X dX9_findReach_47 1 rfl ?_
        refine s_callV (ci := 9) (C := RX9) (As := [zi x_2, zi x_1]) (st := []) X (fun a => c_X9_leads l E a x_2 x_1) gX9_findReach_X9_leads rfl hy_X9_leads rfl rfl rfl rfl (Nat.le_of_ble_eq_true rfl) (by decide) dX9_findReach_48 (fun x8 M => ?_)
        refine s_if_eq X 69 dX9_findReach_51 (by decide) (fun h10 => ?_) (fun h10 => ?_)
        · exact J69 x_1 x_2 _
        · refine s_aload_n X dX9_findReach_54 0 rfl ?_
          refine s_ga X (C := RX9) (T := TX9) (N := 7) rfl (by decide) hiX9 hl9 dX9_findReach_55 (fun r11 => ?_)
          refine s_iload_n X dX9_findReach_58 2 rfl ?_
          refine s_dup2 X dX9_findReach_59 rfl rfl ?_
          refine s_li X dX9_findReach_60 (fun x12 => ?_)
          refine s_aload_n X dX9_findReach_61 0 rfl ?_
          refine s_ga X (C := RX9) (T := TX9) (N := 7) rfl (by decide) hiX9 hl9 dX9_findReach_62 (fun r13 => ?_)
          refine s_iload_n X dX9_findReach_65 1 rfl ?_
          refine s_li X dX9_findReach_66 (fun x14 => ?_)
          refine s_ior X dX9_findReach_67 ?_
          refine s_si X dX9_findReach_68 (fun M => ?_)
          exact J69 x_1 x_2 _
    rintro x_1 M
    refine s_iload_n X dX9_findReach_31 1 rfl ?_
    refine s_bipush X 16 dX9_findReach_32 (by decide) ?_
    refine s_icmp_ge X 81 dX9_findReach_34 (by decide) (fun h6 => ?_) (fun h6 => ?_)
    · exact s_retv X hr dX9_findReach_81
    · refine s_iconst X 0 dX9_findReach_37 (by decide) ?_
      refine s_istore_n X dX9_findReach_38 (by decide) [(2, zi (0)), (0, za ((some a0))), (1, zi x_1)] rfl ?_
      refine s_lv [(0, za ((some a0))), (1, zi x_1), (2, zi (0))] [1, 2, 0] rfl ?_
      exact L39 z_N (x_1, 0) _
  have L2 : ∀ (n : Nat) (s : Int32) (M : zM), z_S p l e R s0 m args below meth c (z_Qm E below args s0 M0 z_rv fin) E 3 M0 fin M 2 [(0, za (some a0)), (1, zi s)] [] (F_X9_findReach_2 a0 n s) := by
    refine s_fix ?_
    intro ih2_ hih2
    rintro x_1 M
    refine s_iload_n X dX9_findReach_2 1 rfl ?_
    refine s_bipush X 16 dX9_findReach_3 (by decide) ?_
    refine s_icmp_ge X 29 dX9_findReach_5 (by decide) (fun h1 => ?_) (fun h1 => ?_)
    · refine s_iconst X 0 dX9_findReach_29 (by decide) ?_
      refine s_istore_n X dX9_findReach_30 (by decide) [(1, zi (0)), (0, za ((some a0)))] rfl ?_
      refine s_lv [(0, za ((some a0))), (1, zi (0))] [1, 0] rfl ?_
      exact L31 z_N (0) _
    · refine s_aload_n X dX9_findReach_8 0 rfl ?_
      refine s_ga X (C := RX9) (T := TX9) (N := 7) rfl (by decide) hiX9 hl9 dX9_findReach_9 (fun r2 => ?_)
      refine s_iload_n X dX9_findReach_12 1 rfl ?_
      refine s_aload_n X dX9_findReach_13 0 rfl ?_
      refine s_ga X (C := RX9) (T := TX9) (N := 7) rfl (by decide) hiX9 hl22 dX9_findReach_14 (fun r3 => ?_)
      refine s_iload_n X dX9_findReach_17 1 rfl ?_
      refine s_la X dX9_findReach_18 (fun r4 => ?_)
      refine s_gi X (C := RX8) (T := TX8) (N := 7) rfl (by decide) hiX8 hl44 dX9_findReach_19 (fun x5 => ?_)
      refine s_si X dX9_findReach_22 (fun M => ?_)
      refine s_iinc X 1 dX9_findReach_23 1 rfl (by decide) (by decide) [(1, zi (x_1 + 1)), (0, za ((some a0)))] rfl ?_
      refine s_goto X 2 dX9_findReach_26 (by decide) ?_
      refine s_lv [(0, za ((some a0))), (1, zi (x_1 + 1))] [1, 0] rfl ?_
      exact hih2 (x_1 + 1) _
  refine s_iconst X 0 dX9_findReach_0 (by decide) ?_
  refine s_istore_n X dX9_findReach_1 (by decide) [(1, zi (0)), (0, za ((some a0)))] rfl ?_
  refine s_lv [(0, za ((some a0))), (1, zi (0))] [1, 0] rfl ?_
  exact L2 z_N (0) _
theorem hy_X9_leastWrong : yX9_leastWrong.cls = RX9 ∧ yX9_leastWrong.cls ≠ "java/lang/invoke/MethodHandle" ∧ yX9_leastWrong.cls ≠ "java/lang/invoke/VarHandle" ∧ (parseMethodDescriptor yX9_leastWrong.desc).map (fun d => d.parameters.length) = some 0 := by decide +kernel
set_option maxHeartbeats 4000000 in
set_option maxRecDepth 100000 in
theorem c_X9_leastWrong (l : Launch) (E : zE) (a0 : Nat) : z_Met l E yX9_leastWrong wsX9_leastWrong 2 44 [za ((some a0))] z_ri (F_X9_leastWrong a0) := by
  refine z_of (own := RX9) (cc := cX9_leastWrong) (maxL := 1) (rt := (some .int)) rfl (by decide) rfl (Nat.le_of_ble_eq_true rfl) ?_
  intro p e R s0 m args below meth c M0 fin X hr hnm
  have hiX9 : ∀ w ∈ u_ws RX9 TX9 7, w ∈ wsX9_leastWrong := by decide +kernel
  have hl30 : Cond.fieldLink RX9 30 (TX9 5).1 (TX9 5).2.1 (TX9 5).2.2.1 ∈ wsX9_leastWrong := by decide +kernel
  have hl18 : Cond.fieldLink RX9 18 (TX9 4).1 (TX9 4).2.1 (TX9 4).2.2.1 ∈ wsX9_leastWrong := by decide +kernel
  have J24 : ∀ (M : zM), z_S p l e R s0 m args below meth c (z_Qm E below args s0 M0 z_ri fin) E 1 M0 fin M 24 [(0, za ((some a0)))] [] (F_X9_leastWrong_24 a0) := by
    intro M
    refine s_aload_n X dX9_leastWrong_24 0 rfl ?_
    refine s_gi X (C := RX9) (T := TX9) (N := 7) rfl (by decide) hiX9 hl18 dX9_leastWrong_25 (fun x6 => ?_)
    exact s_ret X hr dX9_leastWrong_28
  refine s_aload_n X dX9_leastWrong_0 0 rfl ?_
  refine s_gi X (C := RX9) (T := TX9) (N := 7) rfl (by decide) hiX9 hl30 dX9_leastWrong_1 (fun x1 => ?_)
  refine s_if_eq X 24 dX9_leastWrong_4 (by decide) (fun h2 => ?_) (fun h2 => ?_)
  · exact J24 _
  · refine s_aload_n X dX9_leastWrong_7 0 rfl ?_
    refine s_iconst X 0 dX9_leastWrong_8 (by decide) ?_
    refine s_pf (x := zi (0)) X (C := RX9) (T := TX9) (N := 7) rfl (by decide) hiX9 tyX9 tyX9_ok nmX9 hl30 (Or.inl rfl) rfl (fun E => ⟨rfl, rfl⟩) dX9_leastWrong_9 (fun M => ?_)
    refine s_aload_n X dX9_leastWrong_12 0 rfl ?_
    refine s_callV (ci := 9) (C := RX9) (As := []) (st := []) X (fun a => c_X9_findReach l E a) gX9_leastWrong_X9_findReach rfl hy_X9_findReach rfl rfl rfl rfl (Nat.le_of_ble_eq_true rfl) (by decide) dX9_leastWrong_13 (fun _ M => ?_)
    refine s_aload_n X dX9_leastWrong_16 0 rfl ?_
    refine s_aload_n X dX9_leastWrong_17 0 rfl ?_
    refine s_callV (ci := 9) (C := RX9) (As := []) (st := [za ((some a0))]) X (fun a => c_X9_findLeastWrong l E a) gX9_leastWrong_X9_findLeastWrong rfl hy_X9_findLeastWrong rfl rfl rfl rfl (Nat.le_of_ble_eq_true rfl) (by decide) dX9_leastWrong_18 (fun x4 M => ?_)
    refine s_pf (x := zi x4) X (C := RX9) (T := TX9) (N := 7) rfl (by decide) hiX9 tyX9 tyX9_ok nmX9 hl18 (Or.inl rfl) rfl (fun E => ⟨rfl, rfl⟩) dX9_leastWrong_21 (fun M => ?_)
    exact J24 _
theorem hy_X2_addTo : yX2_addTo.cls = RX2 ∧ yX2_addTo.cls ≠ "java/lang/invoke/MethodHandle" ∧ yX2_addTo.cls ≠ "java/lang/invoke/VarHandle" ∧ (parseMethodDescriptor yX2_addTo.desc).map (fun d => d.parameters.length) = some 2 := by decide +kernel
set_option maxHeartbeats 4000000 in
set_option maxRecDepth 100000 in
theorem c_X2_addTo (l : Launch) (E : zE) (a0 : Nat) (p0 : Int32) (p1 : Int32) : z_Met l E yX2_addTo wsX2_addTo 1 22 [za ((some a0)), zi p0, zi p1] z_rv (F_X2_addTo a0 p0 p1) := by
  refine z_of (own := RX2) (cc := cX2_addTo) (maxL := 4) (rt := none) rfl (by decide) rfl (Nat.le_of_ble_eq_true rfl) ?_
  intro p e R s0 m args below meth c M0 fin X hr hnm
  have hiX2 : ∀ w ∈ u_ws RX2 TX2 4, w ∈ wsX2_addTo := by decide +kernel
  have hl18 : Cond.fieldLink RX2 18 (TX2 2).1 (TX2 2).2.1 (TX2 2).2.2.1 ∈ wsX2_addTo := by decide +kernel
  have J20 : ∀ (M : zM), z_S p l e R s0 m args below meth c (z_Qm E below args s0 M0 z_rv fin) E 4 M0 fin M 20 [] [] (F_X2_addTo_20 a0) := by
    intro M
    exact s_retv X hr dX2_addTo_20
  refine s_aload_n X dX2_addTo_0 0 rfl ?_
  refine s_iload_n X dX2_addTo_1 1 rfl ?_
  refine s_callV (ci := 2) (C := RX2) (As := [zi p0]) (st := []) X (fun a => c_X2_enter l E a p0) gX2_addTo_X2_enter rfl hy_X2_enter rfl rfl rfl rfl (Nat.le_of_ble_eq_true rfl) (by decide) dX2_addTo_2 (fun x1 M => ?_)
  refine s_istore_n X dX2_addTo_5 (by decide) [(3, zi x1), (0, za ((some a0))), (1, zi p0), (2, zi p1)] rfl ?_
  refine s_iload_n X dX2_addTo_6 0 rfl ?_
  refine s_if_lt X 20 dX2_addTo_7 (by decide) (fun h3 => ?_) (fun h3 => ?_)
  · refine s_lv [] [] rfl ?_
    exact J20 _
  · refine s_aload_n X dX2_addTo_10 1 rfl ?_
    refine s_ga X (C := RX2) (T := TX2) (N := 4) rfl (by decide) hiX2 hl18 dX2_addTo_11 (fun r4 => ?_)
    refine s_iload_n X dX2_addTo_14 0 rfl ?_
    refine s_dup2 X dX2_addTo_15 rfl rfl ?_
    refine s_li X dX2_addTo_16 (fun x5 => ?_)
    refine s_iload_n X dX2_addTo_17 3 rfl ?_
    refine s_iadd X dX2_addTo_18 ?_
    refine s_si X dX2_addTo_19 (fun M => ?_)
    refine s_lv [] [] rfl ?_
    exact J20 _
theorem hy_X0_count : yX0_count.cls = RX0 ∧ yX0_count.cls ≠ "java/lang/invoke/MethodHandle" ∧ yX0_count.cls ≠ "java/lang/invoke/VarHandle" ∧ (parseMethodDescriptor yX0_count.desc).map (fun d => d.parameters.length) = some 1 := by decide +kernel
set_option maxHeartbeats 4000000 in
set_option maxRecDepth 100000 in
theorem c_X0_count (l : Launch) (E : zE) (a0 : Nat) (p0 : Int32) : z_Met l E yX0_count wsX0_count 0 0 [za ((some a0)), zi p0] z_ri (F_X0_count a0 p0) := by
  refine z_of (own := RX0) (cc := cX0_count) (maxL := 2) (rt := (some .int)) rfl (by decide) rfl (Nat.le_of_ble_eq_true rfl) ?_
  intro p e R s0 m args below meth c M0 fin X hr hnm
  have hiX0 : ∀ w ∈ u_ws RX0 TX0 2, w ∈ wsX0_count := by decide +kernel
  have hl15 : Cond.fieldLink RX0 15 (TX0 1).1 (TX0 1).2.1 (TX0 1).2.2.1 ∈ wsX0_count := by decide +kernel
  refine s_aload_n X dX0_count_0 0 rfl ?_
  refine s_ga X (C := RX0) (T := TX0) (N := 2) rfl (by decide) hiX0 hl15 dX0_count_1 (fun r1 => ?_)
  refine s_iload_n X dX0_count_4 1 rfl ?_
  refine s_li X dX0_count_5 (fun x2 => ?_)
  exact s_ret X hr dX0_count_6
theorem hy_X5_labelOf : yX5_labelOf.cls ≠ "java/lang/invoke/MethodHandle" ∧ yX5_labelOf.cls ≠ "java/lang/invoke/VarHandle" ∧ (parseMethodDescriptor yX5_labelOf.desc).map (fun d => d.parameters.length) = some 1 := by decide +kernel
set_option maxHeartbeats 4000000 in
set_option maxRecDepth 100000 in
theorem c_X5_labelOf (l : Launch) (E : zE) (p0 : Int32) : z_Met l E yX5_labelOf wsX5_labelOf 0 0 [zi p0] z_ri (F_X5_labelOf p0) := by
  refine z_of (own := RX5) (cc := cX5_labelOf) (maxL := 1) (rt := (some .int)) rfl (by decide) rfl (Nat.le_of_ble_eq_true rfl) ?_
  intro p e R s0 m args below meth c M0 fin X hr hnm
  refine s_iload_n X dX5_labelOf_0 0 rfl ?_
  refine s_bipush X 16 dX5_labelOf_1 (by decide) ?_
  refine s_idiv X dX5_labelOf_3 (by decide) ?_
  exact s_ret X hr dX5_labelOf_4
theorem hy_X6_addConcerned : yX6_addConcerned.cls = RX6 ∧ yX6_addConcerned.cls ≠ "java/lang/invoke/MethodHandle" ∧ yX6_addConcerned.cls ≠ "java/lang/invoke/VarHandle" ∧ (parseMethodDescriptor yX6_addConcerned.desc).map (fun d => d.parameters.length) = some 1 := by decide +kernel
set_option maxHeartbeats 4000000 in
set_option maxRecDepth 100000 in
theorem c_X6_addConcerned (l : Launch) (E : zE) (a0 : Nat) (p0 : Int32) : z_Met l E yX6_addConcerned wsX6_addConcerned 0 0 [za ((some a0)), zi p0] z_rv (F_X6_addConcerned a0 p0) := by
  refine z_of (own := RX6) (cc := cX6_addConcerned) (maxL := 2) (rt := none) rfl (by decide) rfl (Nat.le_of_ble_eq_true rfl) ?_
  intro p e R s0 m args below meth c M0 fin X hr hnm
  have hiX6 : ∀ w ∈ u_ws RX6 TX6 5, w ∈ wsX6_addConcerned := by decide +kernel
  have hl34 : Cond.fieldLink RX6 34 (TX6 4).1 (TX6 4).2.1 (TX6 4).2.2.1 ∈ wsX6_addConcerned := by decide +kernel
  have hl9 : Cond.fieldLink RX6 9 (TX6 3).1 (TX6 3).2.1 (TX6 3).2.2.1 ∈ wsX6_addConcerned := by decide +kernel
  have J32 : ∀ (M : zM), z_S p l e R s0 m args below meth c (z_Qm E below args s0 M0 z_rv fin) E 2 M0 fin M 32 [] [] (F_X6_addConcerned_32 a0) := by
    intro M
    exact s_retv X hr dX6_addConcerned_32
  refine s_aload_n X dX6_addConcerned_0 0 rfl ?_
  refine s_gi X (C := RX6) (T := TX6) (N := 5) rfl (by decide) hiX6 hl34 dX6_addConcerned_1 (fun x1 => ?_)
  refine s_aload_n X dX6_addConcerned_4 0 rfl ?_
  refine s_ga X (C := RX6) (T := TX6) (N := 5) rfl (by decide) hiX6 hl9 dX6_addConcerned_5 (fun r2 => ?_)
  refine s_len X dX6_addConcerned_8 (fun n3 => ?_)
  refine s_icmp_ge X 32 dX6_addConcerned_9 (by decide) (fun h4 => ?_) (fun h4 => ?_)
  · refine s_lv [] [] rfl ?_
    exact J32 _
  · refine s_aload_n X dX6_addConcerned_12 0 rfl ?_
    refine s_ga X (C := RX6) (T := TX6) (N := 5) rfl (by decide) hiX6 hl9 dX6_addConcerned_13 (fun r5 => ?_)
    refine s_aload_n X dX6_addConcerned_16 0 rfl ?_
    refine s_gi X (C := RX6) (T := TX6) (N := 5) rfl (by decide) hiX6 hl34 dX6_addConcerned_17 (fun x6 => ?_)
    refine s_iload_n X dX6_addConcerned_20 1 rfl ?_
    refine s_si X dX6_addConcerned_21 (fun M => ?_)
    refine s_aload_n X dX6_addConcerned_22 0 rfl ?_
    refine s_dup X dX6_addConcerned_23 rfl ?_
    refine s_gi X (C := RX6) (T := TX6) (N := 5) rfl (by decide) hiX6 hl34 dX6_addConcerned_24 (fun x7 => ?_)
    refine s_iconst X 1 dX6_addConcerned_27 (by decide) ?_
    refine s_iadd X dX6_addConcerned_28 ?_
    refine s_pf (x := zi (x7 + 1)) X (C := RX6) (T := TX6) (N := 5) rfl (by decide) hiX6 tyX6 tyX6_ok nmX6 hl34 (Or.inl rfl) rfl (fun E => ⟨rfl, rfl⟩) dX6_addConcerned_29 (fun M => ?_)
    refine s_lv [] [] rfl ?_
    exact J32 _
theorem hy_X5_otherOf : yX5_otherOf.cls ≠ "java/lang/invoke/MethodHandle" ∧ yX5_otherOf.cls ≠ "java/lang/invoke/VarHandle" ∧ (parseMethodDescriptor yX5_otherOf.desc).map (fun d => d.parameters.length) = some 1 := by decide +kernel
set_option maxHeartbeats 4000000 in
set_option maxRecDepth 100000 in
theorem c_X5_otherOf (l : Launch) (E : zE) (p0 : Int32) : z_Met l E yX5_otherOf wsX5_otherOf 0 0 [zi p0] z_ri (F_X5_otherOf p0) := by
  refine z_of (own := RX5) (cc := cX5_otherOf) (maxL := 1) (rt := (some .int)) rfl (by decide) rfl (Nat.le_of_ble_eq_true rfl) ?_
  intro p e R s0 m args below meth c M0 fin X hr hnm
  refine s_iload_n X dX5_otherOf_0 0 rfl ?_
  refine s_bipush X 16 dX5_otherOf_1 (by decide) ?_
  refine s_irem X dX5_otherOf_3 (by decide) ?_
  exact s_ret X hr dX5_otherOf_4
theorem hy_X7_takes : yX7_takes.cls = RX7 ∧ yX7_takes.cls ≠ "java/lang/invoke/MethodHandle" ∧ yX7_takes.cls ≠ "java/lang/invoke/VarHandle" ∧ (parseMethodDescriptor yX7_takes.desc).map (fun d => d.parameters.length) = some 4 := by decide +kernel
set_option maxHeartbeats 4000000 in
set_option maxRecDepth 100000 in
theorem c_X7_takes (l : Launch) (E : zE) (a0 : Nat) (p0 : Int32) (p1 : Int32) (p2 : Int32) (q3 : Option Nat) : z_Met l E yX7_takes wsX7_takes 0 0 [za ((some a0)), zi p0, zi p1, zi p2, za q3] z_ri (F_X7_takes a0 p0 p1 p2 q3) := by
  refine z_of (own := RX7) (cc := cX7_takes) (maxL := 5) (rt := (some .boolean)) rfl (by decide) rfl (Nat.le_of_ble_eq_true rfl) ?_
  intro p e R s0 m args below meth c M0 fin X hr hnm
  have hiX7 : ∀ w ∈ u_ws RX7 TX7 4, w ∈ wsX7_takes := by decide +kernel
  have hl15 : Cond.fieldLink RX7 15 (TX7 1).1 (TX7 1).2.1 (TX7 1).2.2.1 ∈ wsX7_takes := by decide +kernel
  have hl19 : Cond.fieldLink RX7 19 (TX7 2).1 (TX7 2).2.1 (TX7 2).2.2.1 ∈ wsX7_takes := by decide +kernel
  have hl22 : Cond.fieldLink RX7 22 (TX7 3).1 (TX7 3).2.1 (TX7 3).2.2.1 ∈ wsX7_takes := by decide +kernel
  have J43 : ∀ (s_0 : Int32) (M : zM), z_S p l e R s0 m args below meth c (z_Qm E below args s0 M0 z_ri fin) E 5 M0 fin M 43 [] [zi s_0] (F_X7_takes_43 a0 s_0) := by
    intro s_0 M
    exact s_retb X hr dX7_takes_43
  have J42 : ∀ (M : zM), z_S p l e R s0 m args below meth c (z_Qm E below args s0 M0 z_ri fin) E 5 M0 fin M 42 [] [] (F_X7_takes_42 a0) := by
    intro M
    refine s_iconst X 0 dX7_takes_42 (by decide) ?_
    exact J43 0 _
  have J38 : ∀ (M : zM), z_S p l e R s0 m args below meth c (z_Qm E below args s0 M0 z_ri fin) E 5 M0 fin M 38 [] [] (F_X7_takes_38 a0) := by
    intro M
    refine s_iconst X 1 dX7_takes_38 (by decide) ?_
    refine s_goto X 43 dX7_takes_39 (by decide) ?_
    exact J43 1 _
  refine s_aload_n X dX7_takes_0 0 rfl ?_
  refine s_gi X (C := RX7) (T := TX7) (N := 4) rfl (by decide) hiX7 hl15 dX7_takes_1 (fun x1 => ?_)
  refine s_iload_n X dX7_takes_4 1 rfl ?_
  refine s_icmp_ne X 42 dX7_takes_5 (by decide) (fun h2 => ?_) (fun h2 => ?_)
  · refine s_lv [] [] rfl ?_
    exact J42 _
  · refine s_aload_n X dX7_takes_8 0 rfl ?_
    refine s_gi X (C := RX7) (T := TX7) (N := 4) rfl (by decide) hiX7 hl19 dX7_takes_9 (fun x3 => ?_)
    refine s_iload_n X dX7_takes_12 2 rfl ?_
    refine s_icmp_ne X 42 dX7_takes_13 (by decide) (fun h4 => ?_) (fun h4 => ?_)
    · refine s_lv [] [] rfl ?_
      exact J42 _
    · refine s_aload_n X dX7_takes_16 0 rfl ?_
      refine s_gi X (C := RX7) (T := TX7) (N := 4) rfl (by decide) hiX7 hl22 dX7_takes_17 (fun x5 => ?_)
      refine s_iconst X (-1) dX7_takes_20 (by decide) ?_
      refine s_icmp_eq X 38 dX7_takes_21 (by decide) (fun h6 => ?_) (fun h6 => ?_)
      · refine s_lv [] [] rfl ?_
        exact J38 _
      · refine s_aload X dX7_takes_24 4 rfl ?_
        refine s_aload_n X dX7_takes_26 0 rfl ?_
        refine s_gi X (C := RX7) (T := TX7) (N := 4) rfl (by decide) hiX7 hl22 dX7_takes_27 (fun x7 => ?_)
        refine s_li X dX7_takes_30 (fun x8 => ?_)
        refine s_iload_n X dX7_takes_31 3 rfl ?_
        refine s_ishr X dX7_takes_32 ?_
        refine s_iconst X 1 dX7_takes_33 (by decide) ?_
        refine s_iand X dX7_takes_34 ?_
        refine s_if_eq X 42 dX7_takes_35 (by decide) (fun h9 => ?_) (fun h9 => ?_)
        · refine s_lv [] [] rfl ?_
          exact J42 _
        · refine s_lv [] [] rfl ?_
          exact J38 _
theorem hy_X6_takers : yX6_takers.cls ≠ "java/lang/invoke/MethodHandle" ∧ yX6_takers.cls ≠ "java/lang/invoke/VarHandle" ∧ (parseMethodDescriptor yX6_takers.desc).map (fun d => d.parameters.length) = some 4 := by decide +kernel
set_option maxHeartbeats 4000000 in
set_option maxRecDepth 100000 in
theorem c_X6_takers (l : Launch) (E : zE) (q0 : Option Nat) (p1 : Int32) (p2 : Int32) (q3 : Option Nat) : z_Met l E yX6_takers wsX6_takers 1 24 [za q0, zi p1, zi p2, za q3] z_ri (F_X6_takers q0 p1 p2 q3) := by
  refine z_of (own := RX6) (cc := cX6_takers) (maxL := 6) (rt := (some .int)) rfl (by decide) rfl (Nat.le_of_ble_eq_true rfl) ?_
  intro p e R s0 m args below meth c M0 fin X hr hnm
  have L6 : ∀ (n : Nat) (s : (Option Nat) × Int32 × Int32 × (Option Nat) × Int32 × Int32) (M : zM), z_S p l e R s0 m args below meth c (z_Qm E below args s0 M0 z_ri fin) E 6 M0 fin M 6 [(0, za s.1), (1, zi s.2.1), (2, zi s.2.2.1), (3, za s.2.2.2.1), (4, zi s.2.2.2.2.1), (5, zi s.2.2.2.2.2)] [] (F_X6_takers_6 n s) := by
    refine s_fix ?_
    intro ih6_ hih6
    have J42 : ∀ (r_0 : Option Nat) (x_1 : Int32) (x_2 : Int32) (r_3 : Option Nat) (x_4 : Int32) (x_5 : Int32) (M : zM), z_S p l e R s0 m args below meth c (z_Qm E below args s0 M0 z_ri fin) E 6 M0 fin M 42 [(0, za r_0), (1, zi x_1), (2, zi x_2), (3, za r_3), (4, zi x_4), (5, zi x_5)] [] (F_X6_takers_42 (fun y0 y1 y2 y3 y4 y5 => ih6_ (y0, y1, y2, y3, y4, y5)) r_0 x_1 x_2 r_3 x_4 x_5) := by
      intro r_0 x_1 x_2 r_3 x_4 x_5 M
      refine s_iinc X 1 dX6_takers_42 5 rfl (by decide) (by decide) [(5, zi (x_5 + 1)), (0, za r_0), (1, zi x_1), (2, zi x_2), (3, za r_3), (4, zi x_4)] rfl ?_
      refine s_goto X 6 dX6_takers_45 (by decide) ?_
      refine s_lv [(0, za r_0), (1, zi x_1), (2, zi x_2), (3, za r_3), (4, zi x_4), (5, zi (x_5 + 1))] [1, 2, 3, 4, 5, 0] rfl ?_
      exact hih6 (r_0, x_1, x_2, r_3, x_4, x_5 + 1) _
    rintro ⟨r_0, x_1, x_2, r_3, x_4, x_5⟩ M
    refine s_iload X dX6_takers_6 5 rfl ?_
    refine s_aload_n X dX6_takers_8 0 rfl ?_
    refine s_len X dX6_takers_9 (fun n1 => ?_)
    refine s_icmp_ge X 48 dX6_takers_10 (by decide) (fun h2 => ?_) (fun h2 => ?_)
    · refine s_iload X dX6_takers_48 4 rfl ?_
      exact s_ret X hr dX6_takers_50
    · refine s_aload_n X dX6_takers_13 0 rfl ?_
      refine s_iload X dX6_takers_14 5 rfl ?_
      refine s_la X dX6_takers_16 (fun r3 => ?_)
      refine s_iload_n X dX6_takers_17 1 rfl ?_
      refine s_iload_n X dX6_takers_18 2 rfl ?_
      refine s_callS (As := [zi x_2]) (st := [zi x_1, za r3]) X (c_X5_labelOf l E x_2) gX6_takers_X5_labelOf rfl hy_X5_labelOf rfl rfl (Nat.le_of_ble_eq_true rfl) (by decide) dX6_takers_19 (fun x4 M => ?_)
      refine s_iload_n X dX6_takers_22 2 rfl ?_
      refine s_callS (As := [zi x_2]) (st := [zi x4, zi x_1, za r3]) X (c_X5_otherOf l E x_2) gX6_takers_X5_otherOf rfl hy_X5_otherOf rfl rfl (Nat.le_of_ble_eq_true rfl) (by decide) dX6_takers_23 (fun x5 M => ?_)
      refine s_aload_n X dX6_takers_26 3 rfl ?_
      refine s_callV (ci := 7) (C := RX7) (As := [zi x_1, zi x4, zi x5, za r_3]) (st := []) X (fun a => c_X7_takes l E a x_1 x4 x5 r_3) gX6_takers_X7_takes rfl hy_X7_takes rfl rfl rfl rfl (Nat.le_of_ble_eq_true rfl) (by decide) dX6_takers_27 (fun x6 M => ?_)
      refine s_if_eq X 42 dX6_takers_30 (by decide) (fun h8 => ?_) (fun h8 => ?_)
      · exact J42 r_0 x_1 x_2 r_3 x_4 x_5 _
      · refine s_iload X dX6_takers_33 4 rfl ?_
        refine s_iconst X 1 dX6_takers_35 (by decide) ?_
        refine s_iload X dX6_takers_36 5 rfl ?_
        refine s_ishl X dX6_takers_38 ?_
        refine s_ior X dX6_takers_39 ?_
        refine s_let (fun x9 => ?_)
        refine s_istore X dX6_takers_40 (by decide) [(4, zi x9), (0, za r_0), (1, zi x_1), (2, zi x_2), (3, za r_3), (5, zi x_5)] rfl ?_
        refine s_lv [(0, za r_0), (1, zi x_1), (2, zi x_2), (3, za r_3), (4, zi x9), (5, zi x_5)] [1, 2, 3, 4, 0, 5] rfl ?_
        exact J42 r_0 x_1 x_2 r_3 x9 x_5 _
  refine s_iconst X 0 dX6_takers_0 (by decide) ?_
  refine s_istore X dX6_takers_1 (by decide) [(4, zi (0)), (0, za q0), (1, zi p1), (2, zi p2), (3, za q3)] rfl ?_
  refine s_iconst X 0 dX6_takers_3 (by decide) ?_
  refine s_istore X dX6_takers_4 (by decide) [(5, zi (0)), (4, zi (0)), (0, za q0), (1, zi p1), (2, zi p2), (3, za q3)] rfl ?_
  refine s_lv [(0, za q0), (1, zi p1), (2, zi p2), (3, za q3), (4, zi (0)), (5, zi (0))] [2, 3, 4, 5, 1, 0] rfl ?_
  exact L6 z_N (q0, p1, p2, q3, 0, 0) _
theorem hy_X6_gather : yX6_gather.cls = RX6 ∧ yX6_gather.cls ≠ "java/lang/invoke/MethodHandle" ∧ yX6_gather.cls ≠ "java/lang/invoke/VarHandle" ∧ (parseMethodDescriptor yX6_gather.desc).map (fun d => d.parameters.length) = some 3 := by decide +kernel
set_option maxHeartbeats 4000000 in
set_option maxRecDepth 100000 in
theorem c_X6_gather (l : Launch) (E : zE) (a0 : Nat) (p0 : Int32) (q1 : Option Nat) (q2 : Option Nat) : z_Met l E yX6_gather wsX6_gather 2 49 [za ((some a0)), zi p0, za q1, za q2] z_rv (F_X6_gather a0 p0 q1 q2) := by
  refine z_of (own := RX6) (cc := cX6_gather) (maxL := 9) (rt := none) rfl (by decide) rfl (Nat.le_of_ble_eq_true rfl) ?_
  intro p e R s0 m args below meth c M0 fin X hr hnm
  have hiX6 : ∀ w ∈ u_ws RX6 TX6 5, w ∈ wsX6_gather := by decide +kernel
  have hiX8 : ∀ w ∈ u_ws RX8 TX8 7, w ∈ wsX6_gather := by decide +kernel
  have hiX5 : ∀ w ∈ u_ws RX5 TX5 3, w ∈ wsX6_gather := by decide +kernel
  have hiX3 : ∀ w ∈ u_ws RX3 TX3 6, w ∈ wsX6_gather := by decide +kernel
  have hl34 : Cond.fieldLink RX6 34 (TX6 4).1 (TX6 4).2.1 (TX6 4).2.2.1 ∈ wsX6_gather := by decide +kernel
  have hl38 : Cond.fieldLink RX6 38 (TX8 3).1 (TX8 3).2.1 (TX8 3).2.2.1 ∈ wsX6_gather := by decide +kernel
  have hl15 : Cond.fieldLink RX6 15 (TX6 0).1 (TX6 0).2.1 (TX6 0).2.2.1 ∈ wsX6_gather := by decide +kernel
  have hl100 : Cond.fieldLink RX6 100 (TX5 0).1 (TX5 0).2.1 (TX5 0).2.2.1 ∈ wsX6_gather := by decide +kernel
  have hl116 : Cond.fieldLink RX6 116 (TX8 5).1 (TX8 5).2.1 (TX8 5).2.2.1 ∈ wsX6_gather := by decide +kernel
  have hl119 : Cond.fieldLink RX6 119 (TX3 3).1 (TX3 3).2.1 (TX3 3).2.2.1 ∈ wsX6_gather := by decide +kernel
  have hl122 : Cond.fieldLink RX6 122 (TX8 4).1 (TX8 4).2.1 (TX8 4).2.2.1 ∈ wsX6_gather := by decide +kernel
  have hl58 : Cond.fieldLink RX6 58 (TX3 1).1 (TX3 1).2.1 (TX3 1).2.2.1 ∈ wsX6_gather := by decide +kernel
  have hl133 : Cond.fieldLink RX6 133 (TX5 1).1 (TX5 1).2.1 (TX5 1).2.2.1 ∈ wsX6_gather := by decide +kernel
  have hl136 : Cond.fieldLink RX6 136 (TX3 4).1 (TX3 4).2.1 (TX3 4).2.2.1 ∈ wsX6_gather := by decide +kernel
  have L124 : ∀ (n : Nat) (s : Int32 × (Option Nat) × (Option Nat) × Int32) (M : zM), z_S p l e R s0 m args below meth c (z_Qm E below args s0 M0 z_rv fin) E 9 M0 fin M 124 [(0, za (some a0)), (1, zi s.1), (3, za s.2.1), (4, za s.2.2.1), (5, zi s.2.2.2)] [] (F_X6_gather_124 a0 n s) := by
    refine s_fix ?_
    intro ih124_ hih124
    have J187 : ∀ (x_1 : Int32) (r_3 : Option Nat) (r_4 : Option Nat) (x_5 : Int32) (M : zM), z_S p l e R s0 m args below meth c (z_Qm E below args s0 M0 z_rv fin) E 9 M0 fin M 187 [(0, za ((some a0))), (1, zi x_1), (3, za r_3), (4, za r_4), (5, zi x_5)] [] (F_X6_gather_187 a0 (fun y0 y1 y2 y3 => ih124_ (y0, y1, y2, y3)) x_1 r_3 r_4 x_5) := by
      intro x_1 r_3 r_4 x_5 M
      refine s_iinc X 1 dX6_gather_187 4 rfl (by decide) (by decide) [(5, zi (x_5 + 1)), (0, za ((some a0))), (1, zi x_1), (3, za r_3), (4, za r_4)] rfl ?_
      refine s_goto X 124 dX6_gather_190 (by decide) ?_
      refine s_lv [(0, za ((some a0))), (1, zi x_1), (3, za r_3), (4, za r_4), (5, zi (x_5 + 1))] [1, 2, 3, 4, 0] rfl ?_
      exact hih124 (x_1, r_3, r_4, x_5 + 1) _
    rintro ⟨x_1, r_3, r_4, x_5⟩ M
    refine s_iload X dX6_gather_124 4 rfl ?_
    refine s_aload_n X dX6_gather_126 0 rfl ?_
    refine s_ga X (C := RX6) (T := TX6) (N := 5) rfl (by decide) hiX6 hl15 dX6_gather_127 (fun r23 => ?_)
    refine s_ga X (C := RX5) (T := TX5) (N := 3) rfl (by decide) hiX5 hl133 dX6_gather_130 (fun r24 => ?_)
    refine s_iload_n X dX6_gather_133 1 rfl ?_
    refine s_callV (ci := 1) (C := RX0) (As := [zi x_1]) (st := [zi x_5]) X (fun a => c_X0_count l E a x_1) gX6_gather_X0_count rfl hy_X0_count rfl rfl rfl rfl (Nat.le_of_ble_eq_true rfl) (by decide) dX6_gather_134 (fun x25 M => ?_)
    refine s_icmp_ge X 193 dX6_gather_137 (by decide) (fun h27 => ?_) (fun h27 => ?_)
    · exact s_retv X hr dX6_gather_193
    · refine s_aload_n X dX6_gather_140 0 rfl ?_
      refine s_ga X (C := RX6) (T := TX6) (N := 5) rfl (by decide) hiX6 hl15 dX6_gather_141 (fun r28 => ?_)
      refine s_ga X (C := RX5) (T := TX5) (N := 3) rfl (by decide) hiX5 hl133 dX6_gather_144 (fun r29 => ?_)
      refine s_iload_n X dX6_gather_147 1 rfl ?_
      refine s_iload X dX6_gather_148 4 rfl ?_
      refine s_callV (ci := 1) (C := RX0) (As := [zi x_1, zi x_5]) (st := []) X (fun a => c_X0_key l E a x_1 x_5) gX6_gather_X0_key rfl hy_X0_key rfl rfl rfl rfl (Nat.le_of_ble_eq_true rfl) (by decide) dX6_gather_150 (fun x30 M => ?_)
      refine s_istore X dX6_gather_153 (by decide) [(6, zi x30), (0, za ((some a0))), (1, zi x_1), (3, za r_3), (4, za r_4), (5, zi x_5)] rfl ?_
      refine s_aload X dX6_gather_155 4 rfl ?_
      refine s_gi X (C := RX3) (T := TX3) (N := 6) rfl (by decide) hiX3 hl136 dX6_gather_157 (fun x32 => ?_)
      refine s_iload X dX6_gather_160 0 rfl ?_
      refine s_callS (As := [zi x30]) (st := [zi x32]) X (c_X5_labelOf l E x30) gX6_gather_X5_labelOf rfl hy_X5_labelOf rfl rfl (Nat.le_of_ble_eq_true rfl) (by decide) dX6_gather_162 (fun x33 M => ?_)
      refine s_ishr X dX6_gather_165 ?_
      refine s_iconst X 1 dX6_gather_166 (by decide) ?_
      refine s_iand X dX6_gather_167 ?_
      refine s_if_eq X 187 dX6_gather_168 (by decide) (fun h34 => ?_) (fun h34 => ?_)
      · refine s_lv [(0, za ((some a0))), (1, zi x_1), (3, za r_3), (4, za r_4), (5, zi x_5)] [1, 2, 3, 4, 5] rfl ?_
        exact J187 x_1 r_3 r_4 x_5 _
      · refine s_aload_n X dX6_gather_171 1 rfl ?_
        refine s_aload X dX6_gather_172 4 rfl ?_
        refine s_ga X (C := RX3) (T := TX3) (N := 6) rfl (by decide) hiX3 hl58 dX6_gather_174 (fun r35 => ?_)
        refine s_iconst X 0 dX6_gather_177 (by decide) ?_
        refine s_iload X dX6_gather_178 0 rfl ?_
        refine s_aload_n X dX6_gather_180 3 rfl ?_
        refine s_callS (As := [za r35, zi (0), zi x30, za r_3]) (st := [za ((some a0))]) X (c_X6_takers l E r35 0 x30 r_3) gX6_gather_X6_takers rfl hy_X6_takers rfl rfl (Nat.le_of_ble_eq_true rfl) (by decide) dX6_gather_181 (fun x36 M => ?_)
        refine s_callV (ci := 6) (C := RX6) (As := [zi x36]) (st := []) X (fun a => c_X6_addConcerned l E a x36) gX6_gather_X6_addConcerned rfl hy_X6_addConcerned rfl rfl rfl rfl (Nat.le_of_ble_eq_true rfl) (by decide) dX6_gather_184 (fun _ M => ?_)
        refine s_lv [(0, za ((some a0))), (1, zi x_1), (3, za r_3), (4, za r_4), (5, zi x_5)] [1, 2, 3, 4, 5] rfl ?_
        exact J187 x_1 r_3 r_4 x_5 _
  have L20 : ∀ (n : Nat) (s : Int32 × (Option Nat) × (Option Nat) × (Option Nat) × Int32) (M : zM), z_S p l e R s0 m args below meth c (z_Qm E below args s0 M0 z_rv fin) E 9 M0 fin M 20 [(0, za (some a0)), (1, zi s.1), (2, za s.2.1), (3, za s.2.2.1), (4, za s.2.2.2.1), (5, zi s.2.2.2.2)] [] (F_X6_gather_20 a0 n s) := by
    refine s_fix ?_
    intro ih20_ hih20
    have J115 : ∀ (x_1 : Int32) (r_2 : Option Nat) (r_3 : Option Nat) (r_4 : Option Nat) (x_5 : Int32) (M : zM), z_S p l e R s0 m args below meth c (z_Qm E below args s0 M0 z_rv fin) E 9 M0 fin M 115 [(0, za ((some a0))), (1, zi x_1), (2, za r_2), (3, za r_3), (4, za r_4), (5, zi x_5)] [] (F_X6_gather_115 a0 (fun y0 y1 y2 y3 y4 => ih20_ (y0, y1, y2, y3, y4)) x_1 r_2 r_3 r_4 x_5) := by
      intro x_1 r_2 r_3 r_4 x_5 M
      refine s_iinc X 1 dX6_gather_115 5 rfl (by decide) (by decide) [(5, zi (x_5 + 1)), (0, za ((some a0))), (1, zi x_1), (2, za r_2), (3, za r_3), (4, za r_4)] rfl ?_
      refine s_goto X 20 dX6_gather_118 (by decide) ?_
      refine s_lv [(0, za ((some a0))), (1, zi x_1), (2, za r_2), (3, za r_3), (4, za r_4), (5, zi (x_5 + 1))] [1, 2, 3, 4, 5, 0] rfl ?_
      exact hih20 (x_1, r_2, r_3, r_4, x_5 + 1) _
    have J94 : ∀ (x_1 : Int32) (r_2 : Option Nat) (r_3 : Option Nat) (r_4 : Option Nat) (x_5 : Int32) (x_6 : Int32) (s_0 : Int32) (M : zM), z_S p l e R s0 m args below meth c (z_Qm E below args s0 M0 z_rv fin) E 9 M0 fin M 94 [(0, za ((some a0))), (1, zi x_1), (2, za r_2), (3, za r_3), (4, za r_4), (5, zi x_5), (6, zi x_6)] [zi s_0] (F_X6_gather_94 a0 (fun y0 y1 y2 y3 y4 => ih20_ (y0, y1, y2, y3, y4)) x_1 r_2 r_3 r_4 x_5 x_6 s_0) := by
      intro x_1 r_2 r_3 r_4 x_5 x_6 s_0 M
      refine s_istore X dX6_gather_94 (by decide) [(8, zi s_0), (0, za ((some a0))), (1, zi x_1), (2, za r_2), (3, za r_3), (4, za r_4), (5, zi x_5), (6, zi x_6)] rfl ?_
      refine s_aload_n X dX6_gather_96 1 rfl ?_
      refine s_iload X dX6_gather_97 0 rfl ?_
      refine s_aload X dX6_gather_99 5 rfl ?_
      refine s_ga X (C := RX3) (T := TX3) (N := 6) rfl (by decide) hiX3 hl58 dX6_gather_101 (fun r20 => ?_)
      refine s_iconst X 1 dX6_gather_104 (by decide) ?_
      refine s_iload X dX6_gather_105 7 rfl ?_
      refine s_aload_n X dX6_gather_107 4 rfl ?_
      refine s_callS (As := [za r20, zi (1), zi x_6, za r_3]) (st := [zi s_0, za ((some a0))]) X (c_X6_takers l E r20 1 x_6 r_3) gX6_gather_X6_takers rfl hy_X6_takers rfl rfl (Nat.le_of_ble_eq_true rfl) (by decide) dX6_gather_108 (fun x21 M => ?_)
      refine s_ior X dX6_gather_111 ?_
      refine s_callV (ci := 6) (C := RX6) (As := [zi (s_0 ||| x21)]) (st := []) X (fun a => c_X6_addConcerned l E a (s_0 ||| x21)) gX6_gather_X6_addConcerned rfl hy_X6_addConcerned rfl rfl rfl rfl (Nat.le_of_ble_eq_true rfl) (by decide) dX6_gather_112 (fun _ M => ?_)
      refine s_lv [(0, za ((some a0))), (1, zi x_1), (2, za r_2), (3, za r_3), (4, za r_4), (5, zi x_5)] [1, 2, 3, 4, 5, 6] rfl ?_
      exact J115 x_1 r_2 r_3 r_4 x_5 _
    have J78 : ∀ (x_1 : Int32) (r_2 : Option Nat) (r_3 : Option Nat) (r_4 : Option Nat) (x_5 : Int32) (x_6 : Int32) (x_7 : Int32) (M : zM), z_S p l e R s0 m args below meth c (z_Qm E below args s0 M0 z_rv fin) E 9 M0 fin M 78 [(0, za ((some a0))), (1, zi x_1), (2, za r_2), (3, za r_3), (4, za r_4), (5, zi x_5), (6, zi x_6), (7, zi x_7)] [] (F_X6_gather_78 a0 (fun y0 y1 y2 y3 y4 => ih20_ (y0, y1, y2, y3, y4)) x_1 r_2 r_3 r_4 x_5 x_6 x_7) := by
      intro x_1 r_2 r_3 r_4 x_5 x_6 x_7 M
      refine s_aload_n X dX6_gather_78 2 rfl ?_
      refine s_gi X (C := RX8) (T := TX8) (N := 7) rfl (by decide) hiX8 hl122 dX6_gather_79 (fun x18 => ?_)
      refine s_iload X dX6_gather_82 7 rfl ?_
      refine s_iand X dX6_gather_84 ?_
      refine s_if_eq X 93 dX6_gather_85 (by decide) (fun h19 => ?_) (fun h19 => ?_)
      · refine s_iconst X 0 dX6_gather_93 (by decide) ?_
        refine s_lv [(0, za ((some a0))), (1, zi x_1), (2, za r_2), (3, za r_3), (4, za r_4), (5, zi x_5), (6, zi x_6)] [0, 1, 2, 3, 4, 5, 6] rfl ?_
        exact J94 x_1 r_2 r_3 r_4 x_5 x_6 0 _
      · refine s_bipush X 32 dX6_gather_88 (by decide) ?_
        refine s_goto X 94 dX6_gather_90 (by decide) ?_
        refine s_lv [(0, za ((some a0))), (1, zi x_1), (2, za r_2), (3, za r_3), (4, za r_4), (5, zi x_5), (6, zi x_6)] [0, 1, 2, 3, 4, 5, 6] rfl ?_
        exact J94 x_1 r_2 r_3 r_4 x_5 x_6 32 _
    rintro ⟨x_1, r_2, r_3, r_4, x_5⟩ M
    refine s_iload X dX6_gather_20 5 rfl ?_
    refine s_aload_n X dX6_gather_22 0 rfl ?_
    refine s_ga X (C := RX6) (T := TX6) (N := 5) rfl (by decide) hiX6 hl15 dX6_gather_23 (fun r3 => ?_)
    refine s_ga X (C := RX5) (T := TX5) (N := 3) rfl (by decide) hiX5 hl100 dX6_gather_26 (fun r4 => ?_)
    refine s_iload_n X dX6_gather_29 1 rfl ?_
    refine s_callV (ci := 1) (C := RX0) (As := [zi x_1]) (st := [zi x_5]) X (fun a => c_X0_count l E a x_1) gX6_gather_X0_count rfl hy_X0_count rfl rfl rfl rfl (Nat.le_of_ble_eq_true rfl) (by decide) dX6_gather_30 (fun x5 M => ?_)
    refine s_icmp_ge X 121 dX6_gather_33 (by decide) (fun h7 => ?_) (fun h7 => ?_)
    · refine s_iconst X 0 dX6_gather_121 (by decide) ?_
      refine s_istore X dX6_gather_122 (by decide) [(5, zi (0)), (0, za ((some a0))), (1, zi x_1), (2, za r_2), (3, za r_3), (4, za r_4)] rfl ?_
      refine s_lv [(0, za ((some a0))), (1, zi x_1), (3, za r_3), (4, za r_4), (5, zi (0))] [1, 2, 4, 5, 0] rfl ?_
      exact L124 z_N (x_1, r_3, r_4, 0) _
    · refine s_aload_n X dX6_gather_36 0 rfl ?_
      refine s_ga X (C := RX6) (T := TX6) (N := 5) rfl (by decide) hiX6 hl15 dX6_gather_37 (fun r8 => ?_)
      refine s_ga X (C := RX5) (T := TX5) (N := 3) rfl (by decide) hiX5 hl100 dX6_gather_40 (fun r9 => ?_)
      refine s_iload_n X dX6_gather_43 1 rfl ?_
      refine s_iload X dX6_gather_44 5 rfl ?_
      refine s_callV (ci := 1) (C := RX0) (As := [zi x_1, zi x_5]) (st := []) X (fun a => c_X0_key l E a x_1 x_5) gX6_gather_X0_key rfl hy_X0_key rfl rfl rfl rfl (Nat.le_of_ble_eq_true rfl) (by decide) dX6_gather_46 (fun x10 M => ?_)
      refine s_istore X dX6_gather_49 (by decide) [(6, zi x10), (0, za ((some a0))), (1, zi x_1), (2, za r_2), (3, za r_3), (4, za r_4), (5, zi x_5)] rfl ?_
      refine s_iconst X 1 dX6_gather_51 (by decide) ?_
      refine s_iload X dX6_gather_52 0 rfl ?_
      refine s_callS (As := [zi x10]) (st := [zi (1)]) X (c_X5_labelOf l E x10) gX6_gather_X5_labelOf rfl hy_X5_labelOf rfl rfl (Nat.le_of_ble_eq_true rfl) (by decide) dX6_gather_54 (fun x12 M => ?_)
      refine s_ishl X dX6_gather_57 ?_
      refine s_let (fun x13 => ?_)
      refine s_istore X dX6_gather_58 (by decide) [(7, zi x13), (6, zi x10), (0, za ((some a0))), (1, zi x_1), (2, za r_2), (3, za r_3), (4, za r_4), (5, zi x_5)] rfl ?_
      refine s_aload_n X dX6_gather_60 4 rfl ?_
      refine s_gi X (C := RX8) (T := TX8) (N := 7) rfl (by decide) hiX8 hl116 dX6_gather_61 (fun x14 => ?_)
      refine s_if_ne X 78 dX6_gather_64 (by decide) (fun h15 => ?_) (fun h15 => ?_)
      · refine s_lv [(0, za ((some a0))), (1, zi x_1), (2, za r_2), (3, za r_3), (4, za r_4), (5, zi x_5), (6, zi x10), (7, zi x13)] [2, 3, 4, 5, 6, 7, 1, 0] rfl ?_
        exact J78 x_1 r_2 r_3 r_4 x_5 x10 x13 _
      · refine s_aload X dX6_gather_67 6 rfl ?_
        refine s_gi X (C := RX3) (T := TX3) (N := 6) rfl (by decide) hiX3 hl119 dX6_gather_69 (fun x16 => ?_)
        refine s_iload X dX6_gather_72 0 rfl ?_
        refine s_iand X dX6_gather_74 ?_
        refine s_if_eq X 115 dX6_gather_75 (by decide) (fun h17 => ?_) (fun h17 => ?_)
        · refine s_lv [(0, za ((some a0))), (1, zi x_1), (2, za r_2), (3, za r_3), (4, za r_4), (5, zi x_5)] [2, 3, 4, 5, 6, 7] rfl ?_
          exact J115 x_1 r_2 r_3 r_4 x_5 _
        · refine s_lv [(0, za ((some a0))), (1, zi x_1), (2, za r_2), (3, za r_3), (4, za r_4), (5, zi x_5), (6, zi x10), (7, zi x13)] [2, 3, 4, 5, 6, 7, 1, 0] rfl ?_
          exact J78 x_1 r_2 r_3 r_4 x_5 x10 x13 _
  refine s_aload_n X dX6_gather_0 0 rfl ?_
  refine s_iconst X 0 dX6_gather_1 (by decide) ?_
  refine s_pf (x := zi (0)) X (C := RX6) (T := TX6) (N := 5) rfl (by decide) hiX6 tyX6 tyX6_ok nmX6 hl34 (Or.inl rfl) rfl (fun E => ⟨rfl, rfl⟩) dX6_gather_2 (fun M => ?_)
  refine s_aload_n X dX6_gather_5 2 rfl ?_
  refine s_ga X (C := RX8) (T := TX8) (N := 7) rfl (by decide) hiX8 hl38 dX6_gather_6 (fun r1 => ?_)
  refine s_astore X dX6_gather_9 (by decide) [(4, za r1), (0, za ((some a0))), (1, zi p0), (2, za q1), (3, za q2)] rfl ?_
  refine s_aload X dX6_gather_11 0 rfl ?_
  refine s_ifnonnull X 17 dX6_gather_13 (by decide) (fun h2 => ?_) (fun h2 => ?_)
  · refine s_iconst X 0 dX6_gather_17 (by decide) ?_
    refine s_istore X dX6_gather_18 (by decide) [(5, zi (0)), (4, za r1), (0, za ((some a0))), (1, zi p0), (2, za q1), (3, za q2)] rfl ?_
    refine s_lv [(0, za ((some a0))), (1, zi p0), (2, za q1), (3, za q2), (4, za r1), (5, zi (0))] [2, 3, 4, 5, 1, 0] rfl ?_
    exact L20 z_N (p0, q1, q2, r1, 0) _
  · exact s_retv X hr dX6_gather_16
theorem hy_X6_giveArc : yX6_giveArc.cls = RX6 ∧ yX6_giveArc.cls ≠ "java/lang/invoke/MethodHandle" ∧ yX6_giveArc.cls ≠ "java/lang/invoke/VarHandle" ∧ (parseMethodDescriptor yX6_giveArc.desc).map (fun d => d.parameters.length) = some 4 := by decide +kernel
set_option maxHeartbeats 4000000 in
set_option maxRecDepth 100000 in
theorem c_X6_giveArc (l : Launch) (E : zE) (a0 : Nat) (p0 : Int32) (q1 : Option Nat) (q2 : Option Nat) (q3 : Option Nat) : z_Met l E yX6_giveArc wsX6_giveArc 2 45 [za ((some a0)), zi p0, za q1, za q2, za q3] z_rv (F_X6_giveArc a0 p0 q1 q2 q3) := by
  refine z_of (own := RX6) (cc := cX6_giveArc) (maxL := 7) (rt := none) rfl (by decide) rfl (Nat.le_of_ble_eq_true rfl) ?_
  intro p e R s0 m args below meth c M0 fin X hr hnm
  have hiX2 : ∀ w ∈ u_ws RX2 TX2 4, w ∈ wsX6_giveArc := by decide +kernel
  have hiX7 : ∀ w ∈ u_ws RX7 TX7 4, w ∈ wsX6_giveArc := by decide +kernel
  have hl55 : Cond.fieldLink RX6 55 (TX2 3).1 (TX2 3).2.1 (TX2 3).2.2.1 ∈ wsX6_giveArc := by decide +kernel
  have hl75 : Cond.fieldLink RX6 75 (TX2 1).1 (TX2 1).2.1 (TX2 1).2.2.1 ∈ wsX6_giveArc := by decide +kernel
  have hl76 : Cond.fieldLink RX6 76 (TX2 2).1 (TX2 2).2.1 (TX2 2).2.2.1 ∈ wsX6_giveArc := by decide +kernel
  have hl79 : Cond.fieldLink RX6 79 (TX7 1).1 (TX7 1).2.1 (TX7 1).2.2.1 ∈ wsX6_giveArc := by decide +kernel
  have L8 : ∀ (n : Nat) (s : Int32 × (Option Nat) × (Option Nat) × (Option Nat) × Int32) (M : zM), z_S p l e R s0 m args below meth c (z_Qm E below args s0 M0 z_rv fin) E 7 M0 fin M 8 [(1, zi s.1), (2, za s.2.1), (3, za s.2.2.1), (4, za s.2.2.2.1), (5, zi s.2.2.2.2)] [] (F_X6_giveArc_8 a0 n s) := by
    refine s_fix ?_
    intro ih8_ hih8
    have L46 : ∀ (n : Nat) (s : Int32 × (Option Nat) × (Option Nat) × (Option Nat) × Int32 × Int32) (M : zM), z_S p l e R s0 m args below meth c (z_Qm E below args s0 M0 z_rv fin) E 7 M0 fin M 46 [(1, zi s.1), (2, za s.2.1), (3, za s.2.2.1), (4, za s.2.2.2.1), (5, zi s.2.2.2.2.1), (6, zi s.2.2.2.2.2)] [] (F_X6_giveArc_46 a0 (fun y0 y1 y2 y3 y4 => ih8_ (y0, y1, y2, y3, y4)) n s) := by
      refine s_fix ?_
      intro ih46_ hih46
      have J94 : ∀ (x_1 : Int32) (r_2 : Option Nat) (r_3 : Option Nat) (r_4 : Option Nat) (x_5 : Int32) (x_6 : Int32) (M : zM), z_S p l e R s0 m args below meth c (z_Qm E below args s0 M0 z_rv fin) E 7 M0 fin M 94 [(1, zi x_1), (2, za r_2), (3, za r_3), (4, za r_4), (5, zi x_5), (6, zi x_6)] [] (F_X6_giveArc_94 a0 (fun y0 y1 y2 y3 y4 => ih8_ (y0, y1, y2, y3, y4)) (fun y0 y1 y2 y3 y4 y5 => ih46_ (y0, y1, y2, y3, y4, y5)) x_1 r_2 r_3 r_4 x_5 x_6) := by
        intro x_1 r_2 r_3 r_4 x_5 x_6 M
        refine s_iinc X 1 dX6_giveArc_94 5 rfl (by decide) (by decide) [(6, zi (x_6 + 1)), (1, zi x_1), (2, za r_2), (3, za r_3), (4, za r_4), (5, zi x_5)] rfl ?_
        refine s_goto X 46 dX6_giveArc_97 (by decide) ?_
        refine s_lv [(1, zi x_1), (2, za r_2), (3, za r_3), (4, za r_4), (5, zi x_5), (6, zi (x_6 + 1))] [1, 2, 3, 4, 5, 0] rfl ?_
        exact hih46 (x_1, r_2, r_3, r_4, x_5, x_6 + 1) _
      rintro ⟨x_1, r_2, r_3, r_4, x_5, x_6⟩ M
      refine s_iload X dX6_giveArc_46 5 rfl ?_
      refine s_aload_n X dX6_giveArc_48 1 rfl ?_
      refine s_len X dX6_giveArc_49 (fun n10 => ?_)
      refine s_icmp_ge X 100 dX6_giveArc_50 (by decide) (fun h11 => ?_) (fun h11 => ?_)
      · refine s_iinc X 1 dX6_giveArc_100 4 rfl (by decide) (by decide) [(5, zi (x_5 + 1)), (1, zi x_1), (2, za r_2), (3, za r_3), (4, za r_4), (6, zi x_6)] rfl ?_
        refine s_goto X 8 dX6_giveArc_103 (by decide) ?_
        refine s_lv [(1, zi x_1), (2, za r_2), (3, za r_3), (4, za r_4), (5, zi (x_5 + 1))] [1, 2, 3, 4, 0] rfl ?_
        exact hih8 (x_1, r_2, r_3, r_4, x_5 + 1) _
      · refine s_iload_n X dX6_giveArc_53 0 rfl ?_
        refine s_iload X dX6_giveArc_54 5 rfl ?_
        refine s_ishr X dX6_giveArc_56 ?_
        refine s_iconst X 1 dX6_giveArc_57 (by decide) ?_
        refine s_iand X dX6_giveArc_58 ?_
        refine s_if_eq X 94 dX6_giveArc_59 (by decide) (fun h12 => ?_) (fun h12 => ?_)
        · exact J94 x_1 r_2 r_3 r_4 x_5 x_6 _
        · refine s_aload X dX6_giveArc_62 3 rfl ?_
          refine s_aload_n X dX6_giveArc_64 2 rfl ?_
          refine s_ga X (C := RX2) (T := TX2) (N := 4) rfl (by decide) hiX2 hl75 dX6_giveArc_65 (fun r13 => ?_)
          refine s_iload X dX6_giveArc_68 4 rfl ?_
          refine s_li X dX6_giveArc_70 (fun x14 => ?_)
          refine s_iload X dX6_giveArc_71 5 rfl ?_
          refine s_aload_n X dX6_giveArc_73 1 rfl ?_
          refine s_iload X dX6_giveArc_74 5 rfl ?_
          refine s_la X dX6_giveArc_76 (fun r15 => ?_)
          refine s_gi X (C := RX7) (T := TX7) (N := 4) rfl (by decide) hiX7 hl79 dX6_giveArc_77 (fun x16 => ?_)
          refine s_callS (As := [zi x_6, zi x16]) (st := [zi x14, za r_4]) X (c_X1_ofOne l E x_6 x16) gX6_giveArc_X1_ofOne rfl hy_X1_ofOne rfl rfl (Nat.le_of_ble_eq_true rfl) (by decide) dX6_giveArc_80 (fun x17 M => ?_)
          refine s_iadd X dX6_giveArc_83 ?_
          refine s_aload_n X dX6_giveArc_84 2 rfl ?_
          refine s_ga X (C := RX2) (T := TX2) (N := 4) rfl (by decide) hiX2 hl76 dX6_giveArc_85 (fun r18 => ?_)
          refine s_iload X dX6_giveArc_88 4 rfl ?_
          refine s_li X dX6_giveArc_90 (fun x19 => ?_)
          refine s_callV (ci := 2) (C := RX2) (As := [zi (x14 + x17), zi x19]) (st := []) X (fun a => c_X2_addTo l E a (x14 + x17) x19) gX6_giveArc_X2_addTo rfl hy_X2_addTo rfl rfl rfl rfl (Nat.le_of_ble_eq_true rfl) (by decide) dX6_giveArc_91 (fun _ M => ?_)
          exact J94 x_1 r_2 r_3 r_4 x_5 x_6 _
    have J43 : ∀ (x_1 : Int32) (r_2 : Option Nat) (r_3 : Option Nat) (r_4 : Option Nat) (x_5 : Int32) (M : zM), z_S p l e R s0 m args below meth c (z_Qm E below args s0 M0 z_rv fin) E 7 M0 fin M 43 [(1, zi x_1), (2, za r_2), (3, za r_3), (4, za r_4), (5, zi x_5)] [] (F_X6_giveArc_43 a0 (fun y0 y1 y2 y3 y4 => ih8_ (y0, y1, y2, y3, y4)) x_1 r_2 r_3 r_4 x_5) := by
      intro x_1 r_2 r_3 r_4 x_5 M
      refine s_iconst X 0 dX6_giveArc_43 (by decide) ?_
      refine s_istore X dX6_giveArc_44 (by decide) [(6, zi (0)), (1, zi x_1), (2, za r_2), (3, za r_3), (4, za r_4), (5, zi x_5)] rfl ?_
      refine s_lv [(1, zi x_1), (2, za r_2), (3, za r_3), (4, za r_4), (5, zi x_5), (6, zi (0))] [1, 2, 3, 4, 5, 0] rfl ?_
      exact L46 z_N (x_1, r_2, r_3, r_4, x_5, 0) _
    rintro ⟨x_1, r_2, r_3, r_4, x_5⟩ M
    refine s_iload X dX6_giveArc_8 4 rfl ?_
    refine s_aload_n X dX6_giveArc_10 2 rfl ?_
    refine s_gi X (C := RX2) (T := TX2) (N := 4) rfl (by decide) hiX2 hl55 dX6_giveArc_11 (fun x2 => ?_)
    refine s_icmp_ge X 106 dX6_giveArc_14 (by decide) (fun h3 => ?_) (fun h3 => ?_)
    · exact s_retv X hr dX6_giveArc_106
    · refine s_iload_n X dX6_giveArc_17 0 rfl ?_
      refine s_bipush X 32 dX6_giveArc_18 (by decide) ?_
      refine s_iand X dX6_giveArc_20 ?_
      refine s_if_eq X 43 dX6_giveArc_21 (by decide) (fun h4 => ?_) (fun h4 => ?_)
      · exact J43 x_1 r_2 r_3 r_4 x_5 _
      · refine s_aload X dX6_giveArc_24 3 rfl ?_
        refine s_aload_n X dX6_giveArc_26 2 rfl ?_
        refine s_ga X (C := RX2) (T := TX2) (N := 4) rfl (by decide) hiX2 hl75 dX6_giveArc_27 (fun r5 => ?_)
        refine s_iload X dX6_giveArc_30 4 rfl ?_
        refine s_li X dX6_giveArc_32 (fun x6 => ?_)
        refine s_aload_n X dX6_giveArc_33 2 rfl ?_
        refine s_ga X (C := RX2) (T := TX2) (N := 4) rfl (by decide) hiX2 hl76 dX6_giveArc_34 (fun r7 => ?_)
        refine s_iload X dX6_giveArc_37 4 rfl ?_
        refine s_li X dX6_giveArc_39 (fun x8 => ?_)
        refine s_callV (ci := 2) (C := RX2) (As := [zi x6, zi x8]) (st := []) X (fun a => c_X2_addTo l E a x6 x8) gX6_giveArc_X2_addTo rfl hy_X2_addTo rfl rfl rfl rfl (Nat.le_of_ble_eq_true rfl) (by decide) dX6_giveArc_40 (fun _ M => ?_)
        exact J43 x_1 r_2 r_3 r_4 x_5 _
  refine s_aload X dX6_giveArc_0 4 rfl ?_
  refine s_callV (ci := 2) (C := RX2) (As := []) (st := []) X (fun a => c_X2_clear l E a) gX6_giveArc_X2_clear rfl hy_X2_clear rfl rfl rfl rfl (Nat.le_of_ble_eq_true rfl) (by decide) dX6_giveArc_2 (fun _ M => ?_)
  refine s_iconst X 0 dX6_giveArc_5 (by decide) ?_
  refine s_istore X dX6_giveArc_6 (by decide) [(5, zi (0)), (0, za ((some a0))), (1, zi p0), (2, za q1), (3, za q2), (4, za q3)] rfl ?_
  refine s_lv [(1, zi p0), (2, za q1), (3, za q2), (4, za q3), (5, zi (0))] [2, 3, 4, 5, 0] rfl ?_
  exact L8 z_N (p0, q1, q2, q3, 0) _
theorem hy_X6_sumAllowed : yX6_sumAllowed.cls ≠ "java/lang/invoke/MethodHandle" ∧ yX6_sumAllowed.cls ≠ "java/lang/invoke/VarHandle" ∧ (parseMethodDescriptor yX6_sumAllowed.desc).map (fun d => d.parameters.length) = some 2 := by decide +kernel
set_option maxHeartbeats 4000000 in
set_option maxRecDepth 100000 in
theorem c_X6_sumAllowed (l : Launch) (E : zE) (q0 : Option Nat) (q1 : Option Nat) : z_Met l E yX6_sumAllowed wsX6_sumAllowed 1 22 [za q0, za q1] z_ri (F_X6_sumAllowed q0 q1) := by
  refine z_of (own := RX6) (cc := cX6_sumAllowed) (maxL := 5) (rt := (some .int)) rfl (by decide) rfl (Nat.le_of_ble_eq_true rfl) ?_
  intro p e R s0 m args below meth c M0 fin X hr hnm
  have hiX2 : ∀ w ∈ u_ws RX2 TX2 4, w ∈ wsX6_sumAllowed := by decide +kernel
  have hl76 : Cond.fieldLink RX6 76 (TX2 2).1 (TX2 2).2.1 (TX2 2).2.2.1 ∈ wsX6_sumAllowed := by decide +kernel
  have L4 : ∀ (n : Nat) (s : (Option Nat) × (Option Nat) × Int32 × Int32) (M : zM), z_S p l e R s0 m args below meth c (z_Qm E below args s0 M0 z_ri fin) E 5 M0 fin M 4 [(0, za s.1), (1, za s.2.1), (2, zi s.2.2.1), (3, zi s.2.2.2)] [] (F_X6_sumAllowed_4 n s) := by
    refine s_fix ?_
    intro ih4_ hih4
    have J39 : ∀ (r_0 : Option Nat) (r_1 : Option Nat) (x_2 : Int32) (x_3 : Int32) (M : zM), z_S p l e R s0 m args below meth c (z_Qm E below args s0 M0 z_ri fin) E 5 M0 fin M 39 [(0, za r_0), (1, za r_1), (2, zi x_2), (3, zi x_3)] [] (F_X6_sumAllowed_39 (fun y0 y1 y2 y3 => ih4_ (y0, y1, y2, y3)) r_0 r_1 x_2 x_3) := by
      intro r_0 r_1 x_2 x_3 M
      refine s_iinc X 1 dX6_sumAllowed_39 3 rfl (by decide) (by decide) [(3, zi (x_3 + 1)), (0, za r_0), (1, za r_1), (2, zi x_2)] rfl ?_
      refine s_goto X 4 dX6_sumAllowed_42 (by decide) ?_
      refine s_lv [(0, za r_0), (1, za r_1), (2, zi x_2), (3, zi (x_3 + 1))] [1, 2, 3, 0] rfl ?_
      exact hih4 (r_0, r_1, x_2, x_3 + 1) _
    rintro ⟨r_0, r_1, x_2, x_3⟩ M
    refine s_iload_n X dX6_sumAllowed_4 3 rfl ?_
    refine s_aload_n X dX6_sumAllowed_5 0 rfl ?_
    refine s_len X dX6_sumAllowed_6 (fun n1 => ?_)
    refine s_icmp_ge X 45 dX6_sumAllowed_7 (by decide) (fun h2 => ?_) (fun h2 => ?_)
    · refine s_iload_n X dX6_sumAllowed_45 2 rfl ?_
      exact s_ret X hr dX6_sumAllowed_46
    · refine s_aload_n X dX6_sumAllowed_10 1 rfl ?_
      refine s_aload_n X dX6_sumAllowed_11 0 rfl ?_
      refine s_iload_n X dX6_sumAllowed_12 3 rfl ?_
      refine s_li X dX6_sumAllowed_13 (fun x3 => ?_)
      refine s_callV (ci := 2) (C := RX2) (As := [zi x3]) (st := []) X (fun a => c_X2_spotOf l E a x3) gX6_sumAllowed_X2_spotOf rfl hy_X2_spotOf rfl rfl rfl rfl (Nat.le_of_ble_eq_true rfl) (by decide) dX6_sumAllowed_14 (fun x4 M => ?_)
      refine s_istore X dX6_sumAllowed_17 (by decide) [(4, zi x4), (0, za r_0), (1, za r_1), (2, zi x_2), (3, zi x_3)] rfl ?_
      refine s_iload X dX6_sumAllowed_19 0 rfl ?_
      refine s_if_lt X 39 dX6_sumAllowed_21 (by decide) (fun h6 => ?_) (fun h6 => ?_)
      · refine s_lv [(0, za r_0), (1, za r_1), (2, zi x_2), (3, zi x_3)] [1, 2, 3, 4] rfl ?_
        exact J39 r_0 r_1 x_2 x_3 _
      · refine s_ldc X 1000000 dX6_sumAllowed_24 (by decide +kernel) ?_
        refine s_iload_n X dX6_sumAllowed_26 3 rfl ?_
        refine s_aload_n X dX6_sumAllowed_27 2 rfl ?_
        refine s_ga X (C := RX2) (T := TX2) (N := 4) rfl (by decide) hiX2 hl76 dX6_sumAllowed_28 (fun r7 => ?_)
        refine s_iload X dX6_sumAllowed_31 0 rfl ?_
        refine s_li X dX6_sumAllowed_33 (fun x8 => ?_)
        refine s_iadd X dX6_sumAllowed_34 ?_
        refine s_min X (by decide +kernel) (by decide +kernel) (by decide +kernel) (by decide +kernel) ⟨by decide, Nat.le_of_ble_eq_true rfl⟩ dX6_sumAllowed_35 ?_
        refine s_let (fun x9 => ?_)
        refine s_istore_n X dX6_sumAllowed_38 (by decide) [(2, zi x9), (4, zi x4), (0, za r_0), (1, za r_1), (3, zi x_3)] rfl ?_
        refine s_lv [(0, za r_0), (1, za r_1), (2, zi x9), (3, zi x_3)] [2, 3, 0, 4] rfl ?_
        exact J39 r_0 r_1 x9 x_3 _
  refine s_iconst X 0 dX6_sumAllowed_0 (by decide) ?_
  refine s_istore_n X dX6_sumAllowed_1 (by decide) [(2, zi (0)), (0, za q0), (1, za q1)] rfl ?_
  refine s_iconst X 0 dX6_sumAllowed_2 (by decide) ?_
  refine s_istore_n X dX6_sumAllowed_3 (by decide) [(3, zi (0)), (2, zi (0)), (0, za q0), (1, za q1)] rfl ?_
  refine s_lv [(0, za q0), (1, za q1), (2, zi (0)), (3, zi (0))] [2, 3, 1, 0] rfl ?_
  exact L4 z_N (q0, q1, 0, 0) _
