theorem hy_X6_countWays : yX6_countWays.cls = RX6 ∧ yX6_countWays.cls ≠ "java/lang/invoke/MethodHandle" ∧ yX6_countWays.cls ≠ "java/lang/invoke/VarHandle" ∧ (parseMethodDescriptor yX6_countWays.desc).map (fun d => d.parameters.length) = some 3 := by decide +kernel
set_option maxHeartbeats 4000000 in
set_option maxRecDepth 100000 in
theorem c_X6_countWays (l : Launch) (E : zE) (a0 : Nat) (p0 : Int32) (q1 : Option Nat) (q2 : Option Nat) : z_Met l E yX6_countWays wsX6_countWays 3 77 [za ((some a0)), zi p0, za q1, za q2] z_ri (F_X6_countWays a0 p0 q1 q2) := by
  refine z_of (own := RX6) (cc := cX6_countWays) (maxL := 9) (rt := (some .int)) rfl (by decide) rfl (Nat.le_of_ble_eq_true rfl) ?_
  intro p e R s0 m args below meth c M0 fin X hr hnm
  have hiX8 : ∀ w ∈ u_ws RX8 TX8 7, w ∈ wsX6_countWays := by decide +kernel
  have hiX6 : ∀ w ∈ u_ws RX6 TX6 5, w ∈ wsX6_countWays := by decide +kernel
  have hiX2 : ∀ w ∈ u_ws RX2 TX2 4, w ∈ wsX6_countWays := by decide +kernel
  have hiX3 : ∀ w ∈ u_ws RX3 TX3 6, w ∈ wsX6_countWays := by decide +kernel
  have hl38 : Cond.fieldLink RX6 38 (TX8 3).1 (TX8 3).2.1 (TX8 3).2.2.1 ∈ wsX6_countWays := by decide +kernel
  have hl19 : Cond.fieldLink RX6 19 (TX6 1).1 (TX6 1).2.1 (TX6 1).2.2.1 ∈ wsX6_countWays := by decide +kernel
  have hl23 : Cond.fieldLink RX6 23 (TX6 2).1 (TX6 2).2.1 (TX6 2).2.2.1 ∈ wsX6_countWays := by decide +kernel
  have hl34 : Cond.fieldLink RX6 34 (TX6 4).1 (TX6 4).2.1 (TX6 4).2.2.1 ∈ wsX6_countWays := by decide +kernel
  have hl55 : Cond.fieldLink RX6 55 (TX2 3).1 (TX2 3).2.1 (TX2 3).2.2.1 ∈ wsX6_countWays := by decide +kernel
  have hl9 : Cond.fieldLink RX6 9 (TX6 3).1 (TX6 3).2.1 (TX6 3).2.2.1 ∈ wsX6_countWays := by decide +kernel
  have hl58 : Cond.fieldLink RX6 58 (TX3 1).1 (TX3 1).2.1 (TX3 1).2.2.1 ∈ wsX6_countWays := by decide +kernel
  have hl68 : Cond.fieldLink RX6 68 (TX3 2).1 (TX3 2).2.1 (TX3 2).2.2.1 ∈ wsX6_countWays := by decide +kernel
  have J102 : ∀ (r_4 : Option Nat) (r_5 : Option Nat) (M : zM), z_S p l e R s0 m args below meth c (z_Qm E below args s0 M0 z_ri fin) E 9 M0 fin M 102 [(4, za r_4), (5, za r_5)] [] (F_X6_countWays_102 a0 r_4 r_5) := by
    intro r_4 r_5 M
    refine s_aload X dX6_countWays_102 0 rfl ?_
    refine s_ga X (C := RX3) (T := TX3) (N := 6) rfl (by decide) hiX3 hl68 dX6_countWays_104 (fun r16 => ?_)
    refine s_aload X dX6_countWays_107 1 rfl ?_
    refine s_callS (As := [za r16, za r_5]) (st := []) X (c_X6_sumAllowed l E r16 r_5) gX6_countWays_X6_sumAllowed rfl hy_X6_sumAllowed rfl rfl (Nat.le_of_ble_eq_true rfl) (by decide) dX6_countWays_109 (fun x17 M => ?_)
    exact s_ret X hr dX6_countWays_112
  have L47 : ∀ (n : Nat) (s : (Option Nat) × (Option Nat) × (Option Nat) × Int32) (M : zM), z_S p l e R s0 m args below meth c (z_Qm E below args s0 M0 z_ri fin) E 9 M0 fin M 47 [(0, za (some a0)), (4, za s.1), (5, za s.2.1), (6, za s.2.2.1), (7, zi s.2.2.2)] [] (F_X6_countWays_47 a0 n s) := by
    refine s_fix ?_
    intro ih47_ hih47
    rintro ⟨r_4, r_5, r_6, x_7⟩ M
    refine s_iload X dX6_countWays_47 4 rfl ?_
    refine s_aload_n X dX6_countWays_49 0 rfl ?_
    refine s_gi X (C := RX6) (T := TX6) (N := 5) rfl (by decide) hiX6 hl34 dX6_countWays_50 (fun x8 => ?_)
    refine s_icmp_ge X 102 dX6_countWays_53 (by decide) (fun h9 => ?_) (fun h9 => ?_)
    · refine s_lv [(4, za r_4), (5, za r_5)] [1, 2] rfl ?_
      exact J102 r_4 r_5 _
    · refine s_aload X dX6_countWays_56 2 rfl ?_
      refine s_gi X (C := RX2) (T := TX2) (N := 4) rfl (by decide) hiX2 hl55 dX6_countWays_58 (fun x10 => ?_)
      refine s_if_le X 102 dX6_countWays_61 (by decide) (fun h11 => ?_) (fun h11 => ?_)
      · refine s_lv [(4, za r_4), (5, za r_5)] [1, 2] rfl ?_
        exact J102 r_4 r_5 _
      · refine s_aload_n X dX6_countWays_64 0 rfl ?_
        refine s_aload_n X dX6_countWays_65 0 rfl ?_
        refine s_ga X (C := RX6) (T := TX6) (N := 5) rfl (by decide) hiX6 hl9 dX6_countWays_66 (fun r12 => ?_)
        refine s_iload X dX6_countWays_69 4 rfl ?_
        refine s_li X dX6_countWays_71 (fun x13 => ?_)
        refine s_aload X dX6_countWays_72 1 rfl ?_
        refine s_ga X (C := RX3) (T := TX3) (N := 6) rfl (by decide) hiX3 hl58 dX6_countWays_74 (fun r14 => ?_)
        refine s_aload X dX6_countWays_77 2 rfl ?_
        refine s_aload X dX6_countWays_79 3 rfl ?_
        refine s_callV (ci := 6) (C := RX6) (As := [zi x13, za r14, za r_5, za r_6]) (st := []) X (fun a => c_X6_giveArc l E a x13 r14 r_5 r_6) gX6_countWays_X6_giveArc rfl hy_X6_giveArc rfl rfl rfl rfl (Nat.le_of_ble_eq_true rfl) (by decide) dX6_countWays_81 (fun _ M => ?_)
        refine s_aload X dX6_countWays_84 2 rfl ?_
        refine s_astore X dX6_countWays_86 (by decide) [(8, za r_5), (0, za ((some a0))), (4, za r_4), (5, za r_5), (6, za r_6), (7, zi x_7)] rfl ?_
        refine s_aload X dX6_countWays_88 4 rfl ?_
        refine s_astore X dX6_countWays_90 (by decide) [(5, za r_6), (8, za r_5), (0, za ((some a0))), (4, za r_4), (6, za r_6), (7, zi x_7)] rfl ?_
        refine s_aload X dX6_countWays_92 1 rfl ?_
        refine s_astore X dX6_countWays_94 (by decide) [(6, za r_5), (5, za r_6), (8, za r_5), (0, za ((some a0))), (4, za r_4), (7, zi x_7)] rfl ?_
        refine s_iinc X 1 dX6_countWays_96 5 rfl (by decide) (by decide) [(7, zi (x_7 + 1)), (6, za r_5), (5, za r_6), (8, za r_5), (0, za ((some a0))), (4, za r_4)] rfl ?_
        refine s_goto X 47 dX6_countWays_99 (by decide) ?_
        refine s_lv [(0, za ((some a0))), (4, za r_4), (5, za r_6), (6, za r_5), (7, zi (x_7 + 1))] [4, 5, 2, 1, 0] rfl ?_
        exact hih47 (r_4, r_6, r_5, x_7 + 1) _
  refine s_aload_n X dX6_countWays_0 2 rfl ?_
  refine s_ga X (C := RX8) (T := TX8) (N := 7) rfl (by decide) hiX8 hl38 dX6_countWays_1 (fun r1 => ?_)
  refine s_astore X dX6_countWays_4 (by decide) [(4, za r1), (0, za ((some a0))), (1, zi p0), (2, za q1), (3, za q2)] rfl ?_
  refine s_aload X dX6_countWays_6 0 rfl ?_
  refine s_ifnonnull X 13 dX6_countWays_8 (by decide) (fun h2 => ?_) (fun h2 => ?_)
  · refine s_aload_n X dX6_countWays_13 1 rfl ?_
    refine s_iload_n X dX6_countWays_14 2 rfl ?_
    refine s_aload_n X dX6_countWays_15 3 rfl ?_
    refine s_aload_n X dX6_countWays_16 4 rfl ?_
    refine s_callV (ci := 6) (C := RX6) (As := [zi p0, za q1, za q2]) (st := []) X (fun a => c_X6_gather l E a p0 q1 q2) gX6_countWays_X6_gather rfl hy_X6_gather rfl rfl rfl rfl (Nat.le_of_ble_eq_true rfl) (by decide) dX6_countWays_17 (fun _ M => ?_)
    refine s_aload_n X dX6_countWays_20 1 rfl ?_
    refine s_ga X (C := RX6) (T := TX6) (N := 5) rfl (by decide) hiX6 hl19 dX6_countWays_21 (fun r4 => ?_)
    refine s_astore X dX6_countWays_24 (by decide) [(5, za r4), (4, za r1), (0, za ((some a0))), (1, zi p0), (2, za q1), (3, za q2)] rfl ?_
    refine s_aload_n X dX6_countWays_26 2 rfl ?_
    refine s_ga X (C := RX6) (T := TX6) (N := 5) rfl (by decide) hiX6 hl23 dX6_countWays_27 (fun r5 => ?_)
    refine s_astore X dX6_countWays_30 (by decide) [(6, za r5), (5, za r4), (4, za r1), (0, za ((some a0))), (1, zi p0), (2, za q1), (3, za q2)] rfl ?_
    refine s_aload X dX6_countWays_32 1 rfl ?_
    refine s_callV (ci := 2) (C := RX2) (As := []) (st := []) X (fun a => c_X2_clear l E a) gX6_countWays_X2_clear rfl hy_X2_clear rfl rfl rfl rfl (Nat.le_of_ble_eq_true rfl) (by decide) dX6_countWays_34 (fun _ M => ?_)
    refine s_aload X dX6_countWays_37 1 rfl ?_
    refine s_iconst X 0 dX6_countWays_39 (by decide) ?_
    refine s_iconst X 1 dX6_countWays_40 (by decide) ?_
    refine s_callV (ci := 2) (C := RX2) (As := [zi (0), zi (1)]) (st := []) X (fun a => c_X2_addTo l E a 0 1) gX6_countWays_X2_addTo rfl hy_X2_addTo rfl rfl rfl rfl (Nat.le_of_ble_eq_true rfl) (by decide) dX6_countWays_41 (fun _ M => ?_)
    refine s_iconst X 0 dX6_countWays_44 (by decide) ?_
    refine s_istore X dX6_countWays_45 (by decide) [(7, zi (0)), (6, za r5), (5, za r4), (4, za r1), (0, za ((some a0))), (1, zi p0), (2, za q1), (3, za q2)] rfl ?_
    refine s_lv [(0, za ((some a0))), (4, za r1), (5, za r4), (6, za r5), (7, zi (0))] [4, 3, 2, 1, 0] rfl ?_
    exact L47 z_N (r1, r4, r5, 0) _
  · refine s_iconst X 0 dX6_countWays_11 (by decide) ?_
    exact s_ret X hr dX6_countWays_12
theorem hy_X6_matching : yX6_matching.cls = RX6 ∧ yX6_matching.cls ≠ "java/lang/invoke/MethodHandle" ∧ yX6_matching.cls ≠ "java/lang/invoke/VarHandle" ∧ (parseMethodDescriptor yX6_matching.desc).map (fun d => d.parameters.length) = some 3 := by decide +kernel
set_option maxHeartbeats 4000000 in
set_option maxRecDepth 100000 in
theorem c_X6_matching (l : Launch) (E : zE) (a0 : Nat) (p0 : Int32) (q1 : Option Nat) (q2 : Option Nat) : z_Met l E yX6_matching wsX6_matching 4 105 [za ((some a0)), zi p0, za q1, za q2] z_ri (F_X6_matching a0 p0 q1 q2) := by
  refine z_of (own := RX6) (cc := cX6_matching) (maxL := 7) (rt := (some .int)) rfl (by decide) rfl (Nat.le_of_ble_eq_true rfl) ?_
  intro p e R s0 m args below meth c M0 fin X hr hnm
  have L6 : ∀ (n : Nat) (s : Int32 × (Option Nat) × (Option Nat) × Int32 × Int32) (M : zM), z_S p l e R s0 m args below meth c (z_Qm E below args s0 M0 z_ri fin) E 7 M0 fin M 6 [(0, za (some a0)), (1, zi s.1), (2, za s.2.1), (3, za s.2.2.1), (4, zi s.2.2.2.1), (5, zi s.2.2.2.2)] [] (F_X6_matching_6 a0 n s) := by
    refine s_fix ?_
    intro ih6_ hih6
    have J44 : ∀ (x_1 : Int32) (r_2 : Option Nat) (r_3 : Option Nat) (x_4 : Int32) (x_5 : Int32) (M : zM), z_S p l e R s0 m args below meth c (z_Qm E below args s0 M0 z_ri fin) E 7 M0 fin M 44 [(0, za ((some a0))), (1, zi x_1), (2, za r_2), (3, za r_3), (4, zi x_4), (5, zi x_5)] [] (F_X6_matching_44 a0 (fun y0 y1 y2 y3 y4 => ih6_ (y0, y1, y2, y3, y4)) x_1 r_2 r_3 x_4 x_5) := by
      intro x_1 r_2 r_3 x_4 x_5 M
      refine s_iinc X 1 dX6_matching_44 5 rfl (by decide) (by decide) [(5, zi (x_5 + 1)), (0, za ((some a0))), (1, zi x_1), (2, za r_2), (3, za r_3), (4, zi x_4)] rfl ?_
      refine s_goto X 6 dX6_matching_47 (by decide) ?_
      refine s_lv [(0, za ((some a0))), (1, zi x_1), (2, za r_2), (3, za r_3), (4, zi x_4), (5, zi (x_5 + 1))] [1, 2, 3, 4, 5, 0] rfl ?_
      exact hih6 (x_1, r_2, r_3, x_4, x_5 + 1) _
    rintro ⟨x_1, r_2, r_3, x_4, x_5⟩ M
    refine s_iload X dX6_matching_6 5 rfl ?_
    refine s_bipush X 16 dX6_matching_8 (by decide) ?_
    refine s_icmp_ge X 50 dX6_matching_10 (by decide) (fun h1 => ?_) (fun h1 => ?_)
    · refine s_iload X dX6_matching_50 4 rfl ?_
      exact s_ret X hr dX6_matching_52
    · refine s_iconst X 1 dX6_matching_13 (by decide) ?_
      refine s_iload X dX6_matching_14 5 rfl ?_
      refine s_ishl X dX6_matching_16 ?_
      refine s_let (fun x2 => ?_)
      refine s_istore X dX6_matching_17 (by decide) [(6, zi x2), (0, za ((some a0))), (1, zi x_1), (2, za r_2), (3, za r_3), (4, zi x_4), (5, zi x_5)] rfl ?_
      refine s_iload_n X dX6_matching_19 2 rfl ?_
      refine s_iload X dX6_matching_20 0 rfl ?_
      refine s_iand X dX6_matching_22 ?_
      refine s_if_eq X 44 dX6_matching_23 (by decide) (fun h3 => ?_) (fun h3 => ?_)
      · refine s_lv [(0, za ((some a0))), (1, zi x_1), (2, za r_2), (3, za r_3), (4, zi x_4), (5, zi x_5)] [1, 2, 3, 4, 5, 6] rfl ?_
        exact J44 x_1 r_2 r_3 x_4 x_5 _
      · refine s_aload_n X dX6_matching_26 1 rfl ?_
        refine s_iload X dX6_matching_27 6 rfl ?_
        refine s_aload_n X dX6_matching_29 3 rfl ?_
        refine s_aload_n X dX6_matching_30 4 rfl ?_
        refine s_callV (ci := 6) (C := RX6) (As := [zi x_5, za r_2, za r_3]) (st := []) X (fun a => c_X6_countWays l E a x_5 r_2 r_3) gX6_matching_X6_countWays rfl hy_X6_countWays rfl rfl rfl rfl (Nat.le_of_ble_eq_true rfl) (by decide) dX6_matching_31 (fun x4 M => ?_)
        refine s_if_le X 44 dX6_matching_34 (by decide) (fun h6 => ?_) (fun h6 => ?_)
        · refine s_lv [(0, za ((some a0))), (1, zi x_1), (2, za r_2), (3, za r_3), (4, zi x_4), (5, zi x_5)] [1, 2, 3, 4, 5, 6] rfl ?_
          exact J44 x_1 r_2 r_3 x_4 x_5 _
        · refine s_iload X dX6_matching_37 5 rfl ?_
          refine s_iload X dX6_matching_39 0 rfl ?_
          refine s_ior X dX6_matching_41 ?_
          refine s_let (fun x7 => ?_)
          refine s_istore X dX6_matching_42 (by decide) [(4, zi x7), (6, zi x2), (0, za ((some a0))), (1, zi x_1), (2, za r_2), (3, za r_3), (5, zi x_5)] rfl ?_
          refine s_lv [(0, za ((some a0))), (1, zi x_1), (2, za r_2), (3, za r_3), (4, zi x7), (5, zi x_5)] [2, 3, 4, 5, 0, 6] rfl ?_
          exact J44 x_1 r_2 r_3 x7 x_5 _
  refine s_iconst X 0 dX6_matching_0 (by decide) ?_
  refine s_istore X dX6_matching_1 (by decide) [(4, zi (0)), (0, za ((some a0))), (1, zi p0), (2, za q1), (3, za q2)] rfl ?_
  refine s_iconst X 0 dX6_matching_3 (by decide) ?_
  refine s_istore X dX6_matching_4 (by decide) [(5, zi (0)), (4, zi (0)), (0, za ((some a0))), (1, zi p0), (2, za q1), (3, za q2)] rfl ?_
  refine s_lv [(0, za ((some a0))), (1, zi p0), (2, za q1), (3, za q2), (4, zi (0)), (5, zi (0))] [2, 3, 4, 5, 1, 0] rfl ?_
  exact L6 z_N (p0, q1, q2, 0, 0) _
theorem hy_X9_combined : yX9_combined.cls = RX9 ∧ yX9_combined.cls ≠ "java/lang/invoke/MethodHandle" ∧ yX9_combined.cls ≠ "java/lang/invoke/VarHandle" ∧ (parseMethodDescriptor yX9_combined.desc).map (fun d => d.parameters.length) = some 1 := by decide +kernel
set_option maxHeartbeats 4000000 in
set_option maxRecDepth 100000 in
theorem c_X9_combined (l : Launch) (E : zE) (a0 : Nat) (q0 : Option Nat) : z_Met l E yX9_combined wsX9_combined 0 0 [za ((some a0)), za q0] z_ri (F_X9_combined a0 q0) := by
  refine z_of (own := RX9) (cc := cX9_combined) (maxL := 2) (rt := (some .int)) rfl (by decide) rfl (Nat.le_of_ble_eq_true rfl) ?_
  intro p e R s0 m args below meth c M0 fin X hr hnm
  have hiX8 : ∀ w ∈ u_ws RX8 TX8 7, w ∈ wsX9_combined := by decide +kernel
  have hiX9 : ∀ w ∈ u_ws RX9 TX9 7, w ∈ wsX9_combined := by decide +kernel
  have hl53 : Cond.fieldLink RX9 53 (TX8 0).1 (TX8 0).2.1 (TX8 0).2.2.1 ∈ wsX9_combined := by decide +kernel
  have hl15 : Cond.fieldLink RX9 15 (TX9 3).1 (TX9 3).2.1 (TX9 3).2.2.1 ∈ wsX9_combined := by decide +kernel
  have hl86 : Cond.fieldLink RX9 86 (TX8 1).1 (TX8 1).2.1 (TX8 1).2.2.1 ∈ wsX9_combined := by decide +kernel
  have hl89 : Cond.fieldLink RX9 89 (TX8 2).1 (TX8 2).2.1 (TX8 2).2.2.1 ∈ wsX9_combined := by decide +kernel
  refine s_aload_n X dX9_combined_0 1 rfl ?_
  refine s_gi X (C := RX8) (T := TX8) (N := 7) rfl (by decide) hiX8 hl53 dX9_combined_1 (fun x1 => ?_)
  refine s_by (fun h2 => ?_) (fun h2 => ?_)
  · refine s_tabIn X 1 36 h2 dX9_combined_4 (by decide) (by decide) (by decide) trivial ?_
    refine s_aload_n X dX9_combined_36 0 rfl ?_
    refine s_ga X (C := RX9) (T := TX9) (N := 7) rfl (by decide) hiX9 hl15 dX9_combined_37 (fun r3 => ?_)
    refine s_aload_n X dX9_combined_40 1 rfl ?_
    refine s_gi X (C := RX8) (T := TX8) (N := 7) rfl (by decide) hiX8 hl86 dX9_combined_41 (fun x4 => ?_)
    refine s_li X dX9_combined_44 (fun x5 => ?_)
    refine s_aload_n X dX9_combined_45 0 rfl ?_
    refine s_ga X (C := RX9) (T := TX9) (N := 7) rfl (by decide) hiX9 hl15 dX9_combined_46 (fun r6 => ?_)
    refine s_aload_n X dX9_combined_49 1 rfl ?_
    refine s_gi X (C := RX8) (T := TX8) (N := 7) rfl (by decide) hiX8 hl89 dX9_combined_50 (fun x7 => ?_)
    refine s_li X dX9_combined_53 (fun x8 => ?_)
    refine s_iand X dX9_combined_54 ?_
    exact s_ret X hr dX9_combined_55
  · refine s_by (fun h9 => ?_) (fun h9 => ?_)
    · refine s_tabIn X 2 56 h9 dX9_combined_4 (by decide) (by decide) (by decide) trivial ?_
      refine s_aload_n X dX9_combined_56 0 rfl ?_
      refine s_ga X (C := RX9) (T := TX9) (N := 7) rfl (by decide) hiX9 hl15 dX9_combined_57 (fun r10 => ?_)
      refine s_aload_n X dX9_combined_60 1 rfl ?_
      refine s_gi X (C := RX8) (T := TX8) (N := 7) rfl (by decide) hiX8 hl86 dX9_combined_61 (fun x11 => ?_)
      refine s_li X dX9_combined_64 (fun x12 => ?_)
      refine s_aload_n X dX9_combined_65 0 rfl ?_
      refine s_ga X (C := RX9) (T := TX9) (N := 7) rfl (by decide) hiX9 hl15 dX9_combined_66 (fun r13 => ?_)
      refine s_aload_n X dX9_combined_69 1 rfl ?_
      refine s_gi X (C := RX8) (T := TX8) (N := 7) rfl (by decide) hiX8 hl89 dX9_combined_70 (fun x14 => ?_)
      refine s_li X dX9_combined_73 (fun x15 => ?_)
      refine s_ior X dX9_combined_74 ?_
      exact s_ret X hr dX9_combined_75
    · refine s_by (fun h16 => ?_) (fun h16 => ?_)
      · refine s_tabIn X 3 76 h16 dX9_combined_4 (by decide) (by decide) (by decide) trivial ?_
        refine s_ldc X 65535 dX9_combined_76 (by decide +kernel) ?_
        refine s_aload_n X dX9_combined_78 0 rfl ?_
        refine s_ga X (C := RX9) (T := TX9) (N := 7) rfl (by decide) hiX9 hl15 dX9_combined_79 (fun r17 => ?_)
        refine s_aload_n X dX9_combined_82 1 rfl ?_
        refine s_gi X (C := RX8) (T := TX8) (N := 7) rfl (by decide) hiX8 hl86 dX9_combined_83 (fun x18 => ?_)
        refine s_li X dX9_combined_86 (fun x19 => ?_)
        refine s_iconst X (-1) dX9_combined_87 (by decide) ?_
        refine s_ixor X dX9_combined_88 ?_
        refine s_iand X dX9_combined_89 ?_
        exact s_ret X hr dX9_combined_90
      · refine s_by (fun h20 => ?_) (fun h20 => ?_)
        · refine s_tabIn X 4 91 h20 dX9_combined_4 (by decide) (by decide) (by decide) trivial ?_
          refine s_aload_n X dX9_combined_91 1 rfl ?_
          refine s_gi X (C := RX8) (T := TX8) (N := 7) rfl (by decide) hiX8 hl86 dX9_combined_92 (fun x21 => ?_)
          exact s_ret X hr dX9_combined_95
        · refine s_tabOut X 96 dX9_combined_4 (by have := lv_neT h2 (show (1 : Int32).toInt = 1 by decide); have := lv_neT h9 (show (2 : Int32).toInt = 2 by decide); have := lv_neT h16 (show (3 : Int32).toInt = 3 by decide); have := lv_neT h20 (show (4 : Int32).toInt = 4 by decide); omega) (by decide) ?_
          refine s_iconst X 0 dX9_combined_96 (by decide) ?_
          exact s_ret X hr dX9_combined_97
theorem hy_X9_thoseThatReferTo : yX9_thoseThatReferTo.cls = RX9 ∧ yX9_thoseThatReferTo.cls ≠ "java/lang/invoke/MethodHandle" ∧ yX9_thoseThatReferTo.cls ≠ "java/lang/invoke/VarHandle" ∧ (parseMethodDescriptor yX9_thoseThatReferTo.desc).map (fun d => d.parameters.length) = some 1 := by decide +kernel
set_option maxHeartbeats 4000000 in
set_option maxRecDepth 100000 in
theorem c_X9_thoseThatReferTo (l : Launch) (E : zE) (a0 : Nat) (p0 : Int32) : z_Met l E yX9_thoseThatReferTo wsX9_thoseThatReferTo 0 0 [za ((some a0)), zi p0] z_ri (F_X9_thoseThatReferTo a0 p0) := by
  refine z_of (own := RX9) (cc := cX9_thoseThatReferTo) (maxL := 4) (rt := (some .int)) rfl (by decide) rfl (Nat.le_of_ble_eq_true rfl) ?_
  intro p e R s0 m args below meth c M0 fin X hr hnm
  have hiX9 : ∀ w ∈ u_ws RX9 TX9 7, w ∈ wsX9_thoseThatReferTo := by decide +kernel
  have hiX8 : ∀ w ∈ u_ws RX8 TX8 7, w ∈ wsX9_thoseThatReferTo := by decide +kernel
  have hl22 : Cond.fieldLink RX9 22 (TX9 0).1 (TX9 0).2.1 (TX9 0).2.2.1 ∈ wsX9_thoseThatReferTo := by decide +kernel
  have hl44 : Cond.fieldLink RX9 44 (TX8 6).1 (TX8 6).2.1 (TX8 6).2.2.1 ∈ wsX9_thoseThatReferTo := by decide +kernel
  have L4 : ∀ (n : Nat) (s : Int32 × Int32 × Int32) (M : zM), z_S p l e R s0 m args below meth c (z_Qm E below args s0 M0 z_ri fin) E 4 M0 fin M 4 [(0, za (some a0)), (1, zi s.1), (2, zi s.2.1), (3, zi s.2.2)] [] (F_X9_thoseThatReferTo_4 a0 n s) := by
    refine s_fix ?_
    intro ih4_ hih4
    have J34 : ∀ (x_1 : Int32) (x_3 : Int32) (s_0 : Int32) (s_1 : Int32) (M : zM), z_S p l e R s0 m args below meth c (z_Qm E below args s0 M0 z_ri fin) E 4 M0 fin M 34 [(0, za ((some a0))), (1, zi x_1), (3, zi x_3)] [zi s_1, zi s_0] (F_X9_thoseThatReferTo_34 a0 (fun y0 y1 y2 => ih4_ (y0, y1, y2)) x_1 x_3 s_0 s_1) := by
      intro x_1 x_3 s_0 s_1 M
      refine s_ior X dX9_thoseThatReferTo_34 ?_
      refine s_let (fun x6 => ?_)
      refine s_istore_n X dX9_thoseThatReferTo_35 (by decide) [(2, zi x6), (0, za ((some a0))), (1, zi x_1), (3, zi x_3)] rfl ?_
      refine s_iinc X 1 dX9_thoseThatReferTo_36 3 rfl (by decide) (by decide) [(3, zi (x_3 + 1)), (2, zi x6), (0, za ((some a0))), (1, zi x_1)] rfl ?_
      refine s_goto X 4 dX9_thoseThatReferTo_39 (by decide) ?_
      refine s_lv [(0, za ((some a0))), (1, zi x_1), (2, zi x6), (3, zi (x_3 + 1))] [2, 3, 1, 0] rfl ?_
      exact hih4 (x_1, x6, x_3 + 1) _
    rintro ⟨x_1, x_2, x_3⟩ M
    refine s_iload_n X dX9_thoseThatReferTo_4 3 rfl ?_
    refine s_bipush X 16 dX9_thoseThatReferTo_5 (by decide) ?_
    refine s_icmp_ge X 42 dX9_thoseThatReferTo_7 (by decide) (fun h1 => ?_) (fun h1 => ?_)
    · refine s_iload_n X dX9_thoseThatReferTo_42 2 rfl ?_
      exact s_ret X hr dX9_thoseThatReferTo_43
    · refine s_iload_n X dX9_thoseThatReferTo_10 2 rfl ?_
      refine s_aload_n X dX9_thoseThatReferTo_11 0 rfl ?_
      refine s_ga X (C := RX9) (T := TX9) (N := 7) rfl (by decide) hiX9 hl22 dX9_thoseThatReferTo_12 (fun r2 => ?_)
      refine s_iload_n X dX9_thoseThatReferTo_15 3 rfl ?_
      refine s_la X dX9_thoseThatReferTo_16 (fun r3 => ?_)
      refine s_gi X (C := RX8) (T := TX8) (N := 7) rfl (by decide) hiX8 hl44 dX9_thoseThatReferTo_17 (fun x4 => ?_)
      refine s_iload_n X dX9_thoseThatReferTo_20 1 rfl ?_
      refine s_ishr X dX9_thoseThatReferTo_21 ?_
      refine s_iconst X 1 dX9_thoseThatReferTo_22 (by decide) ?_
      refine s_iand X dX9_thoseThatReferTo_23 ?_
      refine s_if_eq X 33 dX9_thoseThatReferTo_24 (by decide) (fun h5 => ?_) (fun h5 => ?_)
      · refine s_iconst X 0 dX9_thoseThatReferTo_33 (by decide) ?_
        refine s_lv [(0, za ((some a0))), (1, zi x_1), (3, zi x_3)] [0, 1, 3] rfl ?_
        exact J34 x_1 x_3 x_2 0 _
      · refine s_iconst X 1 dX9_thoseThatReferTo_27 (by decide) ?_
        refine s_iload_n X dX9_thoseThatReferTo_28 3 rfl ?_
        refine s_ishl X dX9_thoseThatReferTo_29 ?_
        refine s_goto X 34 dX9_thoseThatReferTo_30 (by decide) ?_
        refine s_lv [(0, za ((some a0))), (1, zi x_1), (3, zi x_3)] [0, 1, 3] rfl ?_
        exact J34 x_1 x_3 x_2 ((1 : Int32) <<< (x_3 &&& 31)) _
  refine s_iconst X 0 dX9_thoseThatReferTo_0 (by decide) ?_
  refine s_istore_n X dX9_thoseThatReferTo_1 (by decide) [(2, zi (0)), (0, za ((some a0))), (1, zi p0)] rfl ?_
  refine s_iconst X 0 dX9_thoseThatReferTo_2 (by decide) ?_
  refine s_istore_n X dX9_thoseThatReferTo_3 (by decide) [(3, zi (0)), (2, zi (0)), (0, za ((some a0))), (1, zi p0)] rfl ?_
  refine s_lv [(0, za ((some a0))), (1, zi p0), (2, zi (0)), (3, zi (0))] [2, 3, 1, 0] rfl ?_
  exact L4 z_N (p0, 0, 0) _
theorem hy_X9_settleGroup : yX9_settleGroup.cls = RX9 ∧ yX9_settleGroup.cls ≠ "java/lang/invoke/MethodHandle" ∧ yX9_settleGroup.cls ≠ "java/lang/invoke/VarHandle" ∧ (parseMethodDescriptor yX9_settleGroup.desc).map (fun d => d.parameters.length) = some 1 := by decide +kernel
set_option maxHeartbeats 4000000 in
set_option maxRecDepth 100000 in
theorem c_X9_settleGroup (l : Launch) (E : zE) (a0 : Nat) (p0 : Int32) : z_Met l E yX9_settleGroup wsX9_settleGroup 5 131 [za ((some a0)), zi p0] z_rv (F_X9_settleGroup a0 p0) := by
  refine z_of (own := RX9) (cc := cX9_settleGroup) (maxL := 7) (rt := none) rfl (by decide) rfl (Nat.le_of_ble_eq_true rfl) ?_
  intro p e R s0 m args below meth c M0 fin X hr hnm
  have hiX9 : ∀ w ∈ u_ws RX9 TX9 7, w ∈ wsX9_settleGroup := by decide +kernel
  have hiX8 : ∀ w ∈ u_ws RX8 TX8 7, w ∈ wsX9_settleGroup := by decide +kernel
  have hl15 : Cond.fieldLink RX9 15 (TX9 3).1 (TX9 3).2.1 (TX9 3).2.2.1 ∈ wsX9_settleGroup := by decide +kernel
  have hl22 : Cond.fieldLink RX9 22 (TX9 0).1 (TX9 0).2.1 (TX9 0).2.2.1 ∈ wsX9_settleGroup := by decide +kernel
  have hl53 : Cond.fieldLink RX9 53 (TX8 0).1 (TX8 0).2.1 (TX8 0).2.2.1 ∈ wsX9_settleGroup := by decide +kernel
  have hl26 : Cond.fieldLink RX9 26 (TX9 1).1 (TX9 1).2.1 (TX9 1).2.2.1 ∈ wsX9_settleGroup := by decide +kernel
  have J146 : ∀ (M : zM), z_S p l e R s0 m args below meth c (z_Qm E below args s0 M0 z_rv fin) E 7 M0 fin M 146 [] [] (F_X9_settleGroup_146 a0) := by
    intro M
    exact s_retv X hr dX9_settleGroup_146
  have L34 : ∀ (n : Nat) (s : Int32 × Int32 × Int32) (M : zM), z_S p l e R s0 m args below meth c (z_Qm E below args s0 M0 z_rv fin) E 7 M0 fin M 34 [(0, za (some a0)), (1, zi s.1), (2, zi s.2.1), (3, zi s.2.2)] [] (F_X9_settleGroup_34 a0 n s) := by
    refine s_fix ?_
    intro ih34_ hih34
    have J140 : ∀ (x_1 : Int32) (x_2 : Int32) (x_3 : Int32) (M : zM), z_S p l e R s0 m args below meth c (z_Qm E below args s0 M0 z_rv fin) E 7 M0 fin M 140 [(0, za ((some a0))), (1, zi x_1), (2, zi x_2), (3, zi x_3)] [] (F_X9_settleGroup_140 a0 (fun y0 y1 y2 => ih34_ (y0, y1, y2)) x_1 x_2 x_3) := by
      intro x_1 x_2 x_3 M
      refine s_iinc X 1 dX9_settleGroup_140 3 rfl (by decide) (by decide) [(3, zi (x_3 + 1)), (0, za ((some a0))), (1, zi x_1), (2, zi x_2)] rfl ?_
      refine s_goto X 34 dX9_settleGroup_143 (by decide) ?_
      refine s_lv [(0, za ((some a0))), (1, zi x_1), (2, zi x_2), (3, zi (x_3 + 1))] [1, 2, 3, 0] rfl ?_
      exact hih34 (x_1, x_2, x_3 + 1) _
    have J115 : ∀ (x_1 : Int32) (x_2 : Int32) (x_3 : Int32) (x_4 : Int32) (x_6 : Int32) (t_0 : Option Nat) (s_1 : Int32) (s_2 : Int32) (s_3 : Int32) (M : zM), z_S p l e R s0 m args below meth c (z_Qm E below args s0 M0 z_rv fin) E 7 M0 fin M 115 [(0, za ((some a0))), (1, zi x_1), (2, zi x_2), (3, zi x_3), (4, zi x_4), (6, zi x_6)] [zi s_3, zi s_2, zi s_1, za t_0] (F_X9_settleGroup_115 a0 (fun y0 y1 y2 => ih34_ (y0, y1, y2)) x_1 x_2 x_3 x_4 x_6 t_0 s_1 s_2 s_3) := by
      intro x_1 x_2 x_3 x_4 x_6 t_0 s_1 s_2 s_3 M
      refine s_iand X dX9_settleGroup_115 ?_
      refine s_si X dX9_settleGroup_116 (fun M => ?_)
      refine s_aload_n X dX9_settleGroup_117 0 rfl ?_
      refine s_ga X (C := RX9) (T := TX9) (N := 7) rfl (by decide) hiX9 hl15 dX9_settleGroup_118 (fun r22 => ?_)
      refine s_iload X dX9_settleGroup_121 4 rfl ?_
      refine s_li X dX9_settleGroup_123 (fun x23 => ?_)
      refine s_iload X dX9_settleGroup_124 5 rfl ?_
      refine s_icmp_eq X 140 dX9_settleGroup_126 (by decide) (fun h24 => ?_) (fun h24 => ?_)
      · refine s_lv [(0, za ((some a0))), (1, zi x_1), (2, zi x_2), (3, zi x_3)] [0, 1, 2, 3] rfl ?_
        exact J140 x_1 x_2 x_3 _
      · refine s_iload_n X dX9_settleGroup_129 2 rfl ?_
        refine s_iload_n X dX9_settleGroup_130 1 rfl ?_
        refine s_aload_n X dX9_settleGroup_131 0 rfl ?_
        refine s_iload X dX9_settleGroup_132 4 rfl ?_
        refine s_callV (ci := 9) (C := RX9) (As := [zi x_4]) (st := [zi x_1, zi x_2]) X (fun a => c_X9_thoseThatReferTo l E a x_4) gX9_settleGroup_X9_thoseThatReferTo rfl hy_X9_thoseThatReferTo rfl rfl rfl rfl (Nat.le_of_ble_eq_true rfl) (by decide) dX9_settleGroup_134 (fun x25 M => ?_)
        refine s_iand X dX9_settleGroup_137 ?_
        refine s_ior X dX9_settleGroup_138 ?_
        refine s_let (fun x27 => ?_)
        refine s_istore_n X dX9_settleGroup_139 (by decide) [(2, zi x27), (0, za ((some a0))), (1, zi x_1), (3, zi x_3), (4, zi x_4), (6, zi x_6)] rfl ?_
        refine s_lv [(0, za ((some a0))), (1, zi x_1), (2, zi x27), (3, zi x_3)] [1, 2, 0, 3] rfl ?_
        exact J140 x_1 x27 x_3 _
    rintro ⟨x_1, x_2, x_3⟩ M
    refine s_iload_n X dX9_settleGroup_34 3 rfl ?_
    refine s_sipush X 4112 dX9_settleGroup_35 (by decide) ?_
    refine s_icmp_ge X 146 dX9_settleGroup_38 (by decide) (fun h4 => ?_) (fun h4 => ?_)
    · refine s_lv [] [] rfl ?_
      exact J146 _
    · refine s_iload_n X dX9_settleGroup_41 2 rfl ?_
      refine s_if_eq X 146 dX9_settleGroup_42 (by decide) (fun h5 => ?_) (fun h5 => ?_)
      · refine s_lv [] [] rfl ?_
        exact J146 _
      · refine s_iload_n X dX9_settleGroup_45 2 rfl ?_
        refine s_callS (As := [zi x_2]) (st := []) X (c_J6_numberOfTrailingZeros_0f7a4 l E x_2) gX9_settleGroup_J6_numberOfTrailingZeros_0f7a4 rfl hy_J6_numberOfTrailingZeros_0f7a4 rfl rfl (Nat.le_of_ble_eq_true rfl) (by decide) dX9_settleGroup_46 (fun x6 M => ?_)
        refine s_istore X dX9_settleGroup_49 (by decide) [(4, zi x6), (0, za ((some a0))), (1, zi x_1), (2, zi x_2), (3, zi x_3)] rfl ?_
        refine s_iload_n X dX9_settleGroup_51 3 rfl ?_
        refine s_iload_n X dX9_settleGroup_52 3 rfl ?_
        refine s_iconst X 1 dX9_settleGroup_53 (by decide) ?_
        refine s_isub X dX9_settleGroup_54 ?_
        refine s_iand X dX9_settleGroup_55 ?_
        refine s_let (fun x7 => ?_)
        refine s_istore_n X dX9_settleGroup_56 (by decide) [(2, zi x7), (4, zi x6), (0, za ((some a0))), (1, zi x_1), (3, zi x_3)] rfl ?_
        refine s_aload_n X dX9_settleGroup_57 2 rfl ?_
        refine s_ga X (C := RX9) (T := TX9) (N := 7) rfl (by decide) hiX9 hl22 dX9_settleGroup_58 (fun r8 => ?_)
        refine s_iload X dX9_settleGroup_61 1 rfl ?_
        refine s_la X dX9_settleGroup_63 (fun r9 => ?_)
        refine s_astore X dX9_settleGroup_64 (by decide) [(5, za r9), (2, zi x7), (4, zi x6), (0, za ((some a0))), (1, zi x_1), (3, zi x_3)] rfl ?_
        refine s_aload_n X dX9_settleGroup_66 3 rfl ?_
        refine s_ga X (C := RX9) (T := TX9) (N := 7) rfl (by decide) hiX9 hl15 dX9_settleGroup_67 (fun r10 => ?_)
        refine s_iload X dX9_settleGroup_70 2 rfl ?_
        refine s_li X dX9_settleGroup_72 (fun x11 => ?_)
        refine s_istore X dX9_settleGroup_73 (by decide) [(6, zi x11), (5, za r9), (2, zi x7), (4, zi x6), (0, za ((some a0))), (1, zi x_1), (3, zi x_3)] rfl ?_
        refine s_aload_n X dX9_settleGroup_75 4 rfl ?_
        refine s_ga X (C := RX9) (T := TX9) (N := 7) rfl (by decide) hiX9 hl15 dX9_settleGroup_76 (fun r12 => ?_)
        refine s_iload X dX9_settleGroup_79 3 rfl ?_
        refine s_dup2 X dX9_settleGroup_81 rfl rfl ?_
        refine s_li X dX9_settleGroup_82 (fun x13 => ?_)
        refine s_aload X dX9_settleGroup_83 1 rfl ?_
        refine s_gi X (C := RX8) (T := TX8) (N := 7) rfl (by decide) hiX8 hl53 dX9_settleGroup_85 (fun x14 => ?_)
        refine s_if_ne X 109 dX9_settleGroup_88 (by decide) (fun h15 => ?_) (fun h15 => ?_)
        · refine s_aload_n X dX9_settleGroup_109 4 rfl ?_
          refine s_aload X dX9_settleGroup_110 1 rfl ?_
          refine s_callV (ci := 9) (C := RX9) (As := [za r9]) (st := [zi x13, zi x6, za r12]) X (fun a => c_X9_combined l E a r9) gX9_settleGroup_X9_combined rfl hy_X9_combined rfl rfl rfl rfl (Nat.le_of_ble_eq_true rfl) (by decide) dX9_settleGroup_112 (fun x16 M => ?_)
          refine s_lv [(0, za ((some a0))), (1, zi x_1), (2, zi x7), (3, zi x_3), (4, zi x6), (6, zi x11)] [4, 5, 2, 6, 3, 0] rfl ?_
          exact J115 x_1 x7 x_3 x6 x11 r12 x6 x13 x16 _
        · refine s_aload_n X dX9_settleGroup_91 4 rfl ?_
          refine s_ga X (C := RX9) (T := TX9) (N := 7) rfl (by decide) hiX9 hl26 dX9_settleGroup_92 (fun r18 => ?_)
          refine s_iload X dX9_settleGroup_95 0 rfl ?_
          refine s_aload X dX9_settleGroup_97 1 rfl ?_
          refine s_aload_n X dX9_settleGroup_99 4 rfl ?_
          refine s_ga X (C := RX9) (T := TX9) (N := 7) rfl (by decide) hiX9 hl15 dX9_settleGroup_100 (fun r19 => ?_)
          refine s_callV (ci := 6) (C := RX6) (As := [zi x11, za r9, za r19]) (st := [zi x13, zi x6, za r12]) X (fun a => c_X6_matching l E a x11 r9 r19) gX9_settleGroup_X6_matching rfl hy_X6_matching rfl rfl rfl rfl (Nat.le_of_ble_eq_true rfl) (by decide) dX9_settleGroup_103 (fun x20 M => ?_)
          refine s_goto X 115 dX9_settleGroup_106 (by decide) ?_
          refine s_lv [(0, za ((some a0))), (1, zi x_1), (2, zi x7), (3, zi x_3), (4, zi x6), (6, zi x11)] [4, 5, 2, 6, 3, 0] rfl ?_
          exact J115 x_1 x7 x_3 x6 x11 r12 x6 x13 x20 _
  have L2 : ∀ (n : Nat) (s : Int32 × Int32) (M : zM), z_S p l e R s0 m args below meth c (z_Qm E below args s0 M0 z_rv fin) E 7 M0 fin M 2 [(0, za (some a0)), (1, zi s.1), (2, zi s.2)] [] (F_X9_settleGroup_2 a0 n s) := by
    refine s_fix ?_
    intro ih2_ hih2
    have J24 : ∀ (x_1 : Int32) (x_2 : Int32) (M : zM), z_S p l e R s0 m args below meth c (z_Qm E below args s0 M0 z_rv fin) E 7 M0 fin M 24 [(0, za ((some a0))), (1, zi x_1), (2, zi x_2)] [] (F_X9_settleGroup_24 a0 (fun y0 y1 => ih2_ (y0, y1)) x_1 x_2) := by
      intro x_1 x_2 M
      refine s_iinc X 1 dX9_settleGroup_24 2 rfl (by decide) (by decide) [(2, zi (x_2 + 1)), (0, za ((some a0))), (1, zi x_1)] rfl ?_
      refine s_goto X 2 dX9_settleGroup_27 (by decide) ?_
      refine s_lv [(0, za ((some a0))), (1, zi x_1), (2, zi (x_2 + 1))] [1, 2, 0] rfl ?_
      exact hih2 (x_1, x_2 + 1) _
    rintro ⟨x_1, x_2⟩ M
    refine s_iload_n X dX9_settleGroup_2 2 rfl ?_
    refine s_bipush X 16 dX9_settleGroup_3 (by decide) ?_
    refine s_icmp_ge X 30 dX9_settleGroup_5 (by decide) (fun h1 => ?_) (fun h1 => ?_)
    · refine s_iload_n X dX9_settleGroup_30 1 rfl ?_
      refine s_istore_n X dX9_settleGroup_31 (by decide) [(2, zi x_1), (0, za ((some a0))), (1, zi x_1)] rfl ?_
      refine s_iconst X 0 dX9_settleGroup_32 (by decide) ?_
      refine s_istore_n X dX9_settleGroup_33 (by decide) [(3, zi (0)), (2, zi x_1), (0, za ((some a0))), (1, zi x_1)] rfl ?_
      refine s_lv [(0, za ((some a0))), (1, zi x_1), (2, zi x_1), (3, zi (0))] [2, 3, 1, 0] rfl ?_
      exact L34 z_N (x_1, x_1, 0) _
    · refine s_iload_n X dX9_settleGroup_8 1 rfl ?_
      refine s_iload_n X dX9_settleGroup_9 2 rfl ?_
      refine s_ishr X dX9_settleGroup_10 ?_
      refine s_iconst X 1 dX9_settleGroup_11 (by decide) ?_
      refine s_iand X dX9_settleGroup_12 ?_
      refine s_if_eq X 24 dX9_settleGroup_13 (by decide) (fun h2 => ?_) (fun h2 => ?_)
      · exact J24 x_1 x_2 _
      · refine s_aload_n X dX9_settleGroup_16 0 rfl ?_
        refine s_ga X (C := RX9) (T := TX9) (N := 7) rfl (by decide) hiX9 hl15 dX9_settleGroup_17 (fun r3 => ?_)
        refine s_iload_n X dX9_settleGroup_20 2 rfl ?_
        refine s_ldc X 65535 dX9_settleGroup_21 (by decide +kernel) ?_
        refine s_si X dX9_settleGroup_23 (fun M => ?_)
        exact J24 x_1 x_2 _
  refine s_iconst X 0 dX9_settleGroup_0 (by decide) ?_
  refine s_istore_n X dX9_settleGroup_1 (by decide) [(2, zi (0)), (0, za ((some a0))), (1, zi p0)] rfl ?_
  refine s_lv [(0, za ((some a0))), (1, zi p0), (2, zi (0))] [1, 2, 0] rfl ?_
  exact L2 z_N (p0, 0) _
theorem hy_X9_settled : yX9_settled.cls = RX9 ∧ yX9_settled.cls ≠ "java/lang/invoke/MethodHandle" ∧ yX9_settled.cls ≠ "java/lang/invoke/VarHandle" ∧ (parseMethodDescriptor yX9_settled.desc).map (fun d => d.parameters.length) = some 0 := by decide +kernel
set_option maxHeartbeats 4000000 in
set_option maxRecDepth 100000 in
theorem c_X9_settled (l : Launch) (E : zE) (a0 : Nat) : z_Met l E yX9_settled wsX9_settled 6 157 [za ((some a0))] z_ri (F_X9_settled a0) := by
  refine z_of (own := RX9) (cc := cX9_settled) (maxL := 4) (rt := (some .boolean)) rfl (by decide) rfl (Nat.le_of_ble_eq_true rfl) ?_
  intro p e R s0 m args below meth c M0 fin X hr hnm
  have hiX9 : ∀ w ∈ u_ws RX9 TX9 7, w ∈ wsX9_settled := by decide +kernel
  have hl34 : Cond.fieldLink RX9 34 (TX9 6).1 (TX9 6).2.1 (TX9 6).2.2.1 ∈ wsX9_settled := by decide +kernel
  have hl9 : Cond.fieldLink RX9 9 (TX9 2).1 (TX9 2).2.1 (TX9 2).2.2.1 ∈ wsX9_settled := by decide +kernel
  have L25 : ∀ (n : Nat) (s : Int32) (M : zM), z_S p l e R s0 m args below meth c (z_Qm E below args s0 M0 z_ri fin) E 4 M0 fin M 25 [(0, za (some a0)), (1, zi s)] [] (F_X9_settled_25 a0 n s) := by
    refine s_fix ?_
    intro ih25_ hih25
    have L35 : ∀ (n : Nat) (s : Int32 × Int32 × Int32) (M : zM), z_S p l e R s0 m args below meth c (z_Qm E below args s0 M0 z_ri fin) E 4 M0 fin M 35 [(0, za (some a0)), (1, zi s.1), (2, zi s.2.1), (3, zi s.2.2)] [] (F_X9_settled_35 a0 (fun y0 => ih25_ (y0)) n s) := by
      refine s_fix ?_
      intro ih35_ hih35
      have J66 : ∀ (x_1 : Int32) (x_3 : Int32) (s_0 : Int32) (s_1 : Int32) (M : zM), z_S p l e R s0 m args below meth c (z_Qm E below args s0 M0 z_ri fin) E 4 M0 fin M 66 [(0, za ((some a0))), (1, zi x_1), (3, zi x_3)] [zi s_1, zi s_0] (F_X9_settled_66 a0 (fun y0 => ih25_ (y0)) (fun y0 y1 y2 => ih35_ (y0, y1, y2)) x_1 x_3 s_0 s_1) := by
        intro x_1 x_3 s_0 s_1 M
        refine s_ior X dX9_settled_66 ?_
        refine s_let (fun x13 => ?_)
        refine s_istore_n X dX9_settled_67 (by decide) [(2, zi x13), (0, za ((some a0))), (1, zi x_1), (3, zi x_3)] rfl ?_
        refine s_iinc X 1 dX9_settled_68 3 rfl (by decide) (by decide) [(3, zi (x_3 + 1)), (2, zi x13), (0, za ((some a0))), (1, zi x_1)] rfl ?_
        refine s_goto X 35 dX9_settled_71 (by decide) ?_
        refine s_lv [(0, za ((some a0))), (1, zi x_1), (2, zi x13), (3, zi (x_3 + 1))] [2, 3, 1, 0] rfl ?_
        exact hih35 (x_1, x13, x_3 + 1) _
      rintro ⟨x_1, x_2, x_3⟩ M
      refine s_iload_n X dX9_settled_35 3 rfl ?_
      refine s_bipush X 16 dX9_settled_36 (by decide) ?_
      refine s_icmp_ge X 74 dX9_settled_38 (by decide) (fun h7 => ?_) (fun h7 => ?_)
      · refine s_aload_n X dX9_settled_74 0 rfl ?_
        refine s_iload_n X dX9_settled_75 2 rfl ?_
        refine s_callV (ci := 9) (C := RX9) (As := [zi x_2]) (st := []) X (fun a => c_X9_settleGroup l E a x_2) gX9_settled_X9_settleGroup rfl hy_X9_settleGroup rfl rfl rfl rfl (Nat.le_of_ble_eq_true rfl) (by decide) dX9_settled_76 (fun _ M => ?_)
        refine s_iinc X 1 dX9_settled_79 1 rfl (by decide) (by decide) [(1, zi (x_1 + 1)), (0, za ((some a0))), (2, zi x_2), (3, zi x_3)] rfl ?_
        refine s_goto X 25 dX9_settled_82 (by decide) ?_
        refine s_lv [(0, za ((some a0))), (1, zi (x_1 + 1))] [1, 0] rfl ?_
        exact hih25 (x_1 + 1) _
      · refine s_iload_n X dX9_settled_41 2 rfl ?_
        refine s_aload_n X dX9_settled_42 0 rfl ?_
        refine s_ga X (C := RX9) (T := TX9) (N := 7) rfl (by decide) hiX9 hl9 dX9_settled_43 (fun r9 => ?_)
        refine s_iload_n X dX9_settled_46 3 rfl ?_
        refine s_li X dX9_settled_47 (fun x10 => ?_)
        refine s_iconst X 1 dX9_settled_48 (by decide) ?_
        refine s_iload_n X dX9_settled_49 3 rfl ?_
        refine s_ishl X dX9_settled_50 ?_
        refine s_ior X dX9_settled_51 ?_
        refine s_callS (As := [zi (x10 ||| ((1 : Int32) <<< (x_3 &&& 31)))]) (st := [zi x_2]) X (c_J6_bitCount_0f7a4 l E (x10 ||| ((1 : Int32) <<< (x_3 &&& 31)))) gX9_settled_J6_bitCount_0f7a4 rfl hy_J6_bitCount_0f7a4 rfl rfl (Nat.le_of_ble_eq_true rfl) (by decide) dX9_settled_52 (fun x11 M => ?_)
        refine s_iload_n X dX9_settled_55 1 rfl ?_
        refine s_icmp_ne X 65 dX9_settled_56 (by decide) (fun h12 => ?_) (fun h12 => ?_)
        · refine s_iconst X 0 dX9_settled_65 (by decide) ?_
          refine s_lv [(0, za ((some a0))), (1, zi x_1), (3, zi x_3)] [0, 1, 3] rfl ?_
          exact J66 x_1 x_3 x_2 0 _
        · refine s_iconst X 1 dX9_settled_59 (by decide) ?_
          refine s_iload_n X dX9_settled_60 3 rfl ?_
          refine s_ishl X dX9_settled_61 ?_
          refine s_goto X 66 dX9_settled_62 (by decide) ?_
          refine s_lv [(0, za ((some a0))), (1, zi x_1), (3, zi x_3)] [0, 1, 3] rfl ?_
          exact J66 x_1 x_3 x_2 ((1 : Int32) <<< (x_3 &&& 31)) _
    rintro x_1 M
    refine s_iload_n X dX9_settled_25 1 rfl ?_
    refine s_bipush X 16 dX9_settled_26 (by decide) ?_
    refine s_icmp_gt X 85 dX9_settled_28 (by decide) (fun h6 => ?_) (fun h6 => ?_)
    · refine s_iconst X 1 dX9_settled_85 (by decide) ?_
      exact s_retb X hr dX9_settled_86
    · refine s_iconst X 0 dX9_settled_31 (by decide) ?_
      refine s_istore_n X dX9_settled_32 (by decide) [(2, zi (0)), (0, za ((some a0))), (1, zi x_1)] rfl ?_
      refine s_iconst X 0 dX9_settled_33 (by decide) ?_
      refine s_istore_n X dX9_settled_34 (by decide) [(3, zi (0)), (2, zi (0)), (0, za ((some a0))), (1, zi x_1)] rfl ?_
      refine s_lv [(0, za ((some a0))), (1, zi x_1), (2, zi (0)), (3, zi (0))] [2, 3, 1, 0] rfl ?_
      exact L35 z_N (x_1, 0, 0) _
  refine s_aload_n X dX9_settled_0 0 rfl ?_
  refine s_callV (ci := 9) (C := RX9) (As := []) (st := []) X (fun a => c_X9_leastWrong l E a) gX9_settled_X9_leastWrong rfl hy_X9_leastWrong rfl rfl rfl rfl (Nat.le_of_ble_eq_true rfl) (by decide) dX9_settled_1 (fun x1 M => ?_)
  refine s_if_lt X 9 dX9_settled_4 (by decide) (fun h3 => ?_) (fun h3 => ?_)
  · refine s_aload_n X dX9_settled_9 0 rfl ?_
    refine s_gi X (C := RX9) (T := TX9) (N := 7) rfl (by decide) hiX9 hl34 dX9_settled_10 (fun x4 => ?_)
    refine s_if_ne X 18 dX9_settled_13 (by decide) (fun h5 => ?_) (fun h5 => ?_)
    · refine s_aload_n X dX9_settled_18 0 rfl ?_
      refine s_iconst X 0 dX9_settled_19 (by decide) ?_
      refine s_pf (x := zi (0)) X (C := RX9) (T := TX9) (N := 7) rfl (by decide) hiX9 tyX9 tyX9_ok nmX9 hl34 (Or.inl rfl) rfl (fun E => ⟨rfl, rfl⟩) dX9_settled_20 (fun M => ?_)
      refine s_iconst X 1 dX9_settled_23 (by decide) ?_
      refine s_istore_n X dX9_settled_24 (by decide) [(1, zi (1)), (0, za ((some a0)))] rfl ?_
      refine s_lv [(0, za ((some a0))), (1, zi (1))] [1, 0] rfl ?_
      exact L25 z_N (1) _
    · refine s_iconst X 1 dX9_settled_16 (by decide) ?_
      exact s_retb X hr dX9_settled_17
  · refine s_iconst X 0 dX9_settled_7 (by decide) ?_
    exact s_retb X hr dX9_settled_8
theorem hy_X10_has : yX10_has.cls = RX10 ∧ yX10_has.cls ≠ "java/lang/invoke/MethodHandle" ∧ yX10_has.cls ≠ "java/lang/invoke/VarHandle" ∧ (parseMethodDescriptor yX10_has.desc).map (fun d => d.parameters.length) = some 2 := by decide +kernel
set_option maxHeartbeats 4000000 in
set_option maxRecDepth 100000 in
theorem c_X10_has (l : Launch) (E : zE) (a0 : Nat) (p0 : Int32) (p1 : Int32) : z_Met l E yX10_has wsX10_has 7 180 [za ((some a0)), zi p0, zi p1] z_ri (F_X10_has a0 p0 p1) := by
  refine z_of (own := RX10) (cc := cX10_has) (maxL := 3) (rt := (some .int)) rfl (by decide) rfl (Nat.le_of_ble_eq_true rfl) ?_
  intro p e R s0 m args below meth c M0 fin X hr hnm
  have hiX10 : ∀ w ∈ u_ws RX10 TX10 5, w ∈ wsX10_has := by decide +kernel
  have hiX9 : ∀ w ∈ u_ws RX9 TX9 7, w ∈ wsX10_has := by decide +kernel
  have hl49 : Cond.fieldLink RX10 49 (TX10 4).1 (TX10 4).2.1 (TX10 4).2.2.1 ∈ wsX10_has := by decide +kernel
  have hl101 : Cond.fieldLink RX10 101 (TX9 3).1 (TX9 3).2.1 (TX9 3).2.2.1 ∈ wsX10_has := by decide +kernel
  have J44 : ∀ (s_0 : Int32) (M : zM), z_S p l e R s0 m args below meth c (z_Qm E below args s0 M0 z_ri fin) E 3 M0 fin M 44 [] [zi s_0] (F_X10_has_44 a0 s_0) := by
    intro s_0 M
    exact s_ret X hr dX10_has_44
  have J14 : ∀ (M : zM), z_S p l e R s0 m args below meth c (z_Qm E below args s0 M0 z_ri fin) E 3 M0 fin M 14 [] [] (F_X10_has_14 a0) := by
    intro M
    refine s_iconst X (-1) dX10_has_14 (by decide) ?_
    exact s_ret X hr dX10_has_15
  refine s_iload_n X dX10_has_0 1 rfl ?_
  refine s_callS (As := [zi p0]) (st := []) X (c_X10_isNode l E p0) gX10_has_X10_isNode rfl hy_X10_isNode rfl rfl (Nat.le_of_ble_eq_true rfl) (by decide) dX10_has_1 (fun x1 M => ?_)
  refine s_if_eq X 14 dX10_has_4 (by decide) (fun h2 => ?_) (fun h2 => ?_)
  · refine s_lv [] [] rfl ?_
    exact J14 _
  · refine s_iload_n X dX10_has_7 2 rfl ?_
    refine s_callS (As := [zi p1]) (st := []) X (c_X10_isShape l E p1) gX10_has_X10_isShape rfl hy_X10_isShape rfl rfl (Nat.le_of_ble_eq_true rfl) (by decide) dX10_has_8 (fun x3 M => ?_)
    refine s_if_ne X 16 dX10_has_11 (by decide) (fun h4 => ?_) (fun h4 => ?_)
    · refine s_aload_n X dX10_has_16 0 rfl ?_
      refine s_ga X (C := RX10) (T := TX10) (N := 5) rfl (by decide) hiX10 hl49 dX10_has_17 (fun r5 => ?_)
      refine s_callV (ci := 9) (C := RX9) (As := []) (st := []) X (fun a => c_X9_settled l E a) gX10_has_X9_settled rfl hy_X9_settled rfl rfl rfl rfl (Nat.le_of_ble_eq_true rfl) (by decide) dX10_has_20 (fun x6 M => ?_)
      refine s_if_eq X 42 dX10_has_23 (by decide) (fun h8 => ?_) (fun h8 => ?_)
      · refine s_bipush X (-3) dX10_has_42 (by decide) ?_
        refine s_lv [] [] rfl ?_
        exact J44 ((-3)) _
      · refine s_aload_n X dX10_has_26 0 rfl ?_
        refine s_ga X (C := RX10) (T := TX10) (N := 5) rfl (by decide) hiX10 hl49 dX10_has_27 (fun r9 => ?_)
        refine s_ga X (C := RX9) (T := TX9) (N := 7) rfl (by decide) hiX9 hl101 dX10_has_30 (fun r10 => ?_)
        refine s_iload_n X dX10_has_33 2 rfl ?_
        refine s_li X dX10_has_34 (fun x11 => ?_)
        refine s_iload_n X dX10_has_35 1 rfl ?_
        refine s_ishr X dX10_has_36 ?_
        refine s_iconst X 1 dX10_has_37 (by decide) ?_
        refine s_iand X dX10_has_38 ?_
        refine s_goto X 44 dX10_has_39 (by decide) ?_
        refine s_lv [] [] rfl ?_
        exact J44 ((x11 >>> (p0 &&& 31)) &&& 1) _
    · refine s_lv [] [] rfl ?_
      exact J14 _
theorem hy_X2_init : yX2_init.cls ≠ "java/lang/invoke/MethodHandle" ∧ yX2_init.cls ≠ "java/lang/invoke/VarHandle" ∧ (parseMethodDescriptor yX2_init.desc).map (fun d => d.parameters.length) = some 0 := by decide +kernel
set_option maxHeartbeats 4000000 in
set_option maxRecDepth 100000 in
theorem c_X2_init (l : Launch) (E : zE) (a0 : Nat) : z_Met l E yX2_init wsX2_init 1 12 [za ((some a0))] z_rv (F_X2_init a0) := by
  refine z_of (own := RX2) (cc := cX2_init) (maxL := 1) (rt := none) rfl (by decide) rfl (Nat.le_of_ble_eq_true rfl) ?_
  intro p e R s0 m args below meth c M0 fin X hr hnm
  have hiX2 : ∀ w ∈ u_ws RX2 TX2 4, w ∈ wsX2_init := by decide +kernel
  have hl9 : Cond.fieldLink RX2 9 (TX2 0).1 (TX2 0).2.1 (TX2 0).2.2.1 ∈ wsX2_init := by decide +kernel
  have hl15 : Cond.fieldLink RX2 15 (TX2 1).1 (TX2 1).2.1 (TX2 1).2.2.1 ∈ wsX2_init := by decide +kernel
  have hl18 : Cond.fieldLink RX2 18 (TX2 2).1 (TX2 2).2.1 (TX2 2).2.2.1 ∈ wsX2_init := by decide +kernel
  refine s_aload_n X dX2_init_0 0 rfl ?_
  refine s_objInit X (by decide +kernel) (by decide +kernel) (by decide +kernel) dX2_init_1 ⟨by decide, fun E => by rw [z_wt_eq]; exact Nat.le_of_ble_eq_true rfl⟩ ?_
  refine s_aload_n X dX2_init_4 0 rfl ?_
  refine s_sipush X 3125 dX2_init_5 (by decide) ?_
  refine s_nwi X (by decide +kernel) dX2_init_8 (fun a1 M => ?_)
  refine s_pf (x := za ((some a1))) X (C := RX2) (T := TX2) (N := 4) rfl (by decide) hiX2 tyX2 tyX2_ok nmX2 hl9 (Or.inr ⟨rfl, hnm, rfl⟩) rfl (z_afit _ _) dX2_init_10 (fun M => ?_)
  refine s_aload_n X dX2_init_13 0 rfl ?_
  refine s_sipush X 525 dX2_init_14 (by decide) ?_
  refine s_nwi X (by decide +kernel) dX2_init_17 (fun a2 M => ?_)
  refine s_pf (x := za ((some a2))) X (C := RX2) (T := TX2) (N := 4) rfl (by decide) hiX2 tyX2 tyX2_ok nmX2 hl15 (Or.inr ⟨rfl, hnm, rfl⟩) rfl (z_afit _ _) dX2_init_19 (fun M => ?_)
  refine s_aload_n X dX2_init_22 0 rfl ?_
  refine s_sipush X 525 dX2_init_23 (by decide) ?_
  refine s_nwi X (by decide +kernel) dX2_init_26 (fun a3 M => ?_)
  refine s_pf (x := za ((some a3))) X (C := RX2) (T := TX2) (N := 4) rfl (by decide) hiX2 tyX2 tyX2_ok nmX2 hl18 (Or.inr ⟨rfl, hnm, rfl⟩) rfl (z_afit _ _) dX2_init_28 (fun M => ?_)
  exact s_retv X hr dX2_init_31
theorem hy_X4_init : yX4_init.cls ≠ "java/lang/invoke/MethodHandle" ∧ yX4_init.cls ≠ "java/lang/invoke/VarHandle" ∧ (parseMethodDescriptor yX4_init.desc).map (fun d => d.parameters.length) = some 1 := by decide +kernel
set_option maxHeartbeats 4000000 in
set_option maxRecDepth 100000 in
theorem c_X4_init (l : Launch) (E : zE) (a0 : Nat) (q0 : Option Nat) : z_Met l E yX4_init wsX4_init 1 12 [za ((some a0)), za q0] z_rv (F_X4_init a0 q0) := by
  refine z_of (own := RX4) (cc := cX4_init) (maxL := 2) (rt := none) rfl (by decide) rfl (Nat.le_of_ble_eq_true rfl) ?_
  intro p e R s0 m args below meth c M0 fin X hr hnm
  have hiX4 : ∀ w ∈ u_ws RX4 TX4 3, w ∈ wsX4_init := by decide +kernel
  have hl11 : Cond.fieldLink RX4 11 (TX4 0).1 (TX4 0).2.1 (TX4 0).2.2.1 ∈ wsX4_init := by decide +kernel
  have hl17 : Cond.fieldLink RX4 17 (TX4 1).1 (TX4 1).2.1 (TX4 1).2.2.1 ∈ wsX4_init := by decide +kernel
  refine s_aload_n X dX4_init_0 0 rfl ?_
  refine s_objInit X (by decide +kernel) (by decide +kernel) (by decide +kernel) dX4_init_1 ⟨by decide, fun E => by rw [z_wt_eq]; exact Nat.le_of_ble_eq_true rfl⟩ ?_
  refine s_aload_n X dX4_init_4 0 rfl ?_
  refine s_bipush X 60 dX4_init_5 (by decide) ?_
  refine s_nwq (k := 11) (q0 := (RX3, TX3, 6)) X (by decide) (by decide) rfl (by decide +kernel) (by decide) dX4_init_7 (fun a1 M => ?_)
  refine s_pf (x := za ((some a1))) X (C := RX4) (T := TX4) (N := 3) rfl (by decide) hiX4 tyX4 tyX4_ok nmX4 hl11 (Or.inr ⟨rfl, hnm, rfl⟩) rfl (z_afit _ _) dX4_init_10 (fun M => ?_)
  refine s_aload_n X dX4_init_13 0 rfl ?_
  refine s_aload_n X dX4_init_14 1 rfl ?_
  refine s_pf (x := za q0) X (C := RX4) (T := TX4) (N := 3) rfl (by decide) hiX4 tyX4 tyX4_ok nmX4 hl17 (Or.inr ⟨rfl, hnm, rfl⟩) rfl (z_ofit _ _) dX4_init_15 (fun M => ?_)
  exact s_retv X hr dX4_init_18
theorem hy_X0_init : yX0_init.cls ≠ "java/lang/invoke/MethodHandle" ∧ yX0_init.cls ≠ "java/lang/invoke/VarHandle" ∧ (parseMethodDescriptor yX0_init.desc).map (fun d => d.parameters.length) = some 0 := by decide +kernel
set_option maxHeartbeats 4000000 in
set_option maxRecDepth 100000 in
theorem c_X0_init (l : Launch) (E : zE) (a0 : Nat) : z_Met l E yX0_init wsX0_init 1 12 [za ((some a0))] z_rv (F_X0_init a0) := by
  refine z_of (own := RX0) (cc := cX0_init) (maxL := 1) (rt := none) rfl (by decide) rfl (Nat.le_of_ble_eq_true rfl) ?_
  intro p e R s0 m args below meth c M0 fin X hr hnm
  have hiX0 : ∀ w ∈ u_ws RX0 TX0 2, w ∈ wsX0_init := by decide +kernel
  have hl9 : Cond.fieldLink RX0 9 (TX0 0).1 (TX0 0).2.1 (TX0 0).2.2.1 ∈ wsX0_init := by decide +kernel
  have hl15 : Cond.fieldLink RX0 15 (TX0 1).1 (TX0 1).2.1 (TX0 1).2.2.1 ∈ wsX0_init := by decide +kernel
  refine s_aload_n X dX0_init_0 0 rfl ?_
  refine s_objInit X (by decide +kernel) (by decide +kernel) (by decide +kernel) dX0_init_1 ⟨by decide, fun E => by rw [z_wt_eq]; exact Nat.le_of_ble_eq_true rfl⟩ ?_
  refine s_aload_n X dX0_init_4 0 rfl ?_
  refine s_bipush X 64 dX0_init_5 (by decide) ?_
  refine s_nwi X (by decide +kernel) dX0_init_7 (fun a1 M => ?_)
  refine s_pf (x := za ((some a1))) X (C := RX0) (T := TX0) (N := 2) rfl (by decide) hiX0 tyX0 tyX0_ok nmX0 hl9 (Or.inr ⟨rfl, hnm, rfl⟩) rfl (z_afit _ _) dX0_init_9 (fun M => ?_)
  refine s_aload_n X dX0_init_12 0 rfl ?_
  refine s_bipush X 16 dX0_init_13 (by decide) ?_
  refine s_nwi X (by decide +kernel) dX0_init_15 (fun a2 M => ?_)
  refine s_pf (x := za ((some a2))) X (C := RX0) (T := TX0) (N := 2) rfl (by decide) hiX0 tyX0 tyX0_ok nmX0 hl15 (Or.inr ⟨rfl, hnm, rfl⟩) rfl (z_afit _ _) dX0_init_17 (fun M => ?_)
  exact s_retv X hr dX0_init_20
theorem hy_X5_init : yX5_init.cls ≠ "java/lang/invoke/MethodHandle" ∧ yX5_init.cls ≠ "java/lang/invoke/VarHandle" ∧ (parseMethodDescriptor yX5_init.desc).map (fun d => d.parameters.length) = some 0 := by decide +kernel
set_option maxHeartbeats 4000000 in
set_option maxRecDepth 100000 in
theorem c_X5_init (l : Launch) (E : zE) (a0 : Nat) : z_Met l E yX5_init wsX5_init 2 32 [za ((some a0))] z_rv (F_X5_init a0) := by
  refine z_of (own := RX5) (cc := cX5_init) (maxL := 1) (rt := none) rfl (by decide) rfl (Nat.le_of_ble_eq_true rfl) ?_
  intro p e R s0 m args below meth c M0 fin X hr hnm
  have hiX0 : ∀ w ∈ u_ws RX0 TX0 2, w ∈ wsX5_init := by decide +kernel
  have hiX5 : ∀ w ∈ u_ws RX5 TX5 3, w ∈ wsX5_init := by decide +kernel
  have hl12 : Cond.fieldLink RX5 12 (TX5 0).1 (TX5 0).2.1 (TX5 0).2.2.1 ∈ wsX5_init := by decide +kernel
  have hl18 : Cond.fieldLink RX5 18 (TX5 1).1 (TX5 1).2.1 (TX5 1).2.2.1 ∈ wsX5_init := by decide +kernel
  refine s_aload_n X dX5_init_0 0 rfl ?_
  refine s_objInit X (by decide +kernel) (by decide +kernel) (by decide +kernel) dX5_init_1 ⟨by decide, fun E => by rw [z_wt_eq]; exact Nat.le_of_ble_eq_true rfl⟩ ?_
  refine s_aload_n X dX5_init_4 0 rfl ?_
  refine s_nwo (C := RX0) (T := TX0) (N := 2) (fs := [.null, .null]) X rfl hiX0 tyX0 tyX0_ok (by decide +kernel) (by decide +kernel) (by decide +kernel) rfl (fun E j hj => by rcases z_lt2 hj with rfl | rfl <;> rfl) dX5_init_5 (fun a1 M => ?_)
  refine s_dup X dX5_init_8 rfl ?_
  refine s_callN (host := "ShexMatch") (a := a1) (As := []) (st := [za ((some a1)), za ((some a0))]) X (c_X0_init l E a1) gX5_init_X0_init_n11 rfl (by decide +kernel) (by decide +kernel) (by decide +kernel) rfl hy_X0_init rfl rfl (Nat.le_of_ble_eq_true rfl) (by decide) dX5_init_9 (fun M => ?_)
  refine s_pf (x := za ((some a1))) X (C := RX5) (T := TX5) (N := 3) rfl (by decide) hiX5 tyX5 tyX5_ok nmX5 hl12 (Or.inr ⟨rfl, hnm, rfl⟩) rfl (z_ofit _ _) dX5_init_12 (fun M => ?_)
  refine s_aload_n X dX5_init_15 0 rfl ?_
  refine s_nwo (C := RX0) (T := TX0) (N := 2) (fs := [.null, .null]) X rfl hiX0 tyX0 tyX0_ok (by decide +kernel) (by decide +kernel) (by decide +kernel) rfl (fun E j hj => by rcases z_lt2 hj with rfl | rfl <;> rfl) dX5_init_16 (fun a2 M => ?_)
  refine s_dup X dX5_init_19 rfl ?_
  refine s_callN (host := "ShexMatch") (a := a2) (As := []) (st := [za ((some a2)), za ((some a0))]) X (c_X0_init l E a2) gX5_init_X0_init_n11 rfl (by decide +kernel) (by decide +kernel) (by decide +kernel) rfl hy_X0_init rfl rfl (Nat.le_of_ble_eq_true rfl) (by decide) dX5_init_20 (fun M => ?_)
  refine s_pf (x := za ((some a2))) X (C := RX5) (T := TX5) (N := 3) rfl (by decide) hiX5 tyX5 tyX5_ok nmX5 hl18 (Or.inr ⟨rfl, hnm, rfl⟩) rfl (z_ofit _ _) dX5_init_23 (fun M => ?_)
  exact s_retv X hr dX5_init_26
theorem hy_X6_init : yX6_init.cls ≠ "java/lang/invoke/MethodHandle" ∧ yX6_init.cls ≠ "java/lang/invoke/VarHandle" ∧ (parseMethodDescriptor yX6_init.desc).map (fun d => d.parameters.length) = some 3 := by decide +kernel
set_option maxHeartbeats 4000000 in
set_option maxRecDepth 100000 in
theorem c_X6_init (l : Launch) (E : zE) (a0 : Nat) (q0 : Option Nat) (q1 : Option Nat) (q2 : Option Nat) : z_Met l E yX6_init wsX6_init 1 12 [za ((some a0)), za q0, za q1, za q2] z_rv (F_X6_init a0 q0 q1 q2) := by
  refine z_of (own := RX6) (cc := cX6_init) (maxL := 4) (rt := none) rfl (by decide) rfl (Nat.le_of_ble_eq_true rfl) ?_
  intro p e R s0 m args below meth c M0 fin X hr hnm
  have hiX6 : ∀ w ∈ u_ws RX6 TX6 5, w ∈ wsX6_init := by decide +kernel
  have hl9 : Cond.fieldLink RX6 9 (TX6 3).1 (TX6 3).2.1 (TX6 3).2.2.1 ∈ wsX6_init := by decide +kernel
  have hl15 : Cond.fieldLink RX6 15 (TX6 0).1 (TX6 0).2.1 (TX6 0).2.2.1 ∈ wsX6_init := by decide +kernel
  have hl19 : Cond.fieldLink RX6 19 (TX6 1).1 (TX6 1).2.1 (TX6 1).2.2.1 ∈ wsX6_init := by decide +kernel
  have hl23 : Cond.fieldLink RX6 23 (TX6 2).1 (TX6 2).2.1 (TX6 2).2.2.1 ∈ wsX6_init := by decide +kernel
  refine s_aload_n X dX6_init_0 0 rfl ?_
  refine s_objInit X (by decide +kernel) (by decide +kernel) (by decide +kernel) dX6_init_1 ⟨by decide, fun E => by rw [z_wt_eq]; exact Nat.le_of_ble_eq_true rfl⟩ ?_
  refine s_aload_n X dX6_init_4 0 rfl ?_
  refine s_bipush X 8 dX6_init_5 (by decide) ?_
  refine s_nwi X (by decide +kernel) dX6_init_7 (fun a1 M => ?_)
  refine s_pf (x := za ((some a1))) X (C := RX6) (T := TX6) (N := 5) rfl (by decide) hiX6 tyX6 tyX6_ok nmX6 hl9 (Or.inr ⟨rfl, hnm, rfl⟩) rfl (z_afit _ _) dX6_init_9 (fun M => ?_)
  refine s_aload_n X dX6_init_12 0 rfl ?_
  refine s_aload_n X dX6_init_13 1 rfl ?_
  refine s_pf (x := za q0) X (C := RX6) (T := TX6) (N := 5) rfl (by decide) hiX6 tyX6 tyX6_ok nmX6 hl15 (Or.inr ⟨rfl, hnm, rfl⟩) rfl (z_ofit _ _) dX6_init_14 (fun M => ?_)
  refine s_aload_n X dX6_init_17 0 rfl ?_
  refine s_aload_n X dX6_init_18 2 rfl ?_
  refine s_pf (x := za q1) X (C := RX6) (T := TX6) (N := 5) rfl (by decide) hiX6 tyX6 tyX6_ok nmX6 hl19 (Or.inr ⟨rfl, hnm, rfl⟩) rfl (z_ofit _ _) dX6_init_19 (fun M => ?_)
  refine s_aload_n X dX6_init_22 0 rfl ?_
  refine s_aload_n X dX6_init_23 3 rfl ?_
  refine s_pf (x := za q2) X (C := RX6) (T := TX6) (N := 5) rfl (by decide) hiX6 tyX6 tyX6_ok nmX6 hl23 (Or.inr ⟨rfl, hnm, rfl⟩) rfl (z_ofit _ _) dX6_init_24 (fun M => ?_)
  exact s_retv X hr dX6_init_27
theorem hy_X8_init : yX8_init.cls ≠ "java/lang/invoke/MethodHandle" ∧ yX8_init.cls ≠ "java/lang/invoke/VarHandle" ∧ (parseMethodDescriptor yX8_init.desc).map (fun d => d.parameters.length) = some 0 := by decide +kernel
set_option maxHeartbeats 4000000 in
set_option maxRecDepth 100000 in
theorem c_X8_init (l : Launch) (E : zE) (a0 : Nat) : z_Met l E yX8_init wsX8_init 1 12 [za ((some a0))] z_rv (F_X8_init a0) := by
  refine z_of (own := RX8) (cc := cX8_init) (maxL := 1) (rt := none) rfl (by decide) rfl (Nat.le_of_ble_eq_true rfl) ?_
  intro p e R s0 m args below meth c M0 fin X hr hnm
  have hiX8 : ∀ w ∈ u_ws RX8 TX8 7, w ∈ wsX8_init := by decide +kernel
  have hl9 : Cond.fieldLink RX8 9 (TX8 0).1 (TX8 0).2.1 (TX8 0).2.2.1 ∈ wsX8_init := by decide +kernel
  refine s_aload_n X dX8_init_0 0 rfl ?_
  refine s_objInit X (by decide +kernel) (by decide +kernel) (by decide +kernel) dX8_init_1 ⟨by decide, fun E => by rw [z_wt_eq]; exact Nat.le_of_ble_eq_true rfl⟩ ?_
  refine s_aload_n X dX8_init_4 0 rfl ?_
  refine s_iconst X (-1) dX8_init_5 (by decide) ?_
  refine s_pf (x := zi ((-1))) X (C := RX8) (T := TX8) (N := 7) rfl (by decide) hiX8 tyX8 tyX8_ok nmX8 hl9 (Or.inl rfl) rfl (fun E => ⟨rfl, rfl⟩) dX8_init_6 (fun M => ?_)
  exact s_retv X hr dX8_init_9
theorem hy_X9_init : yX9_init.cls ≠ "java/lang/invoke/MethodHandle" ∧ yX9_init.cls ≠ "java/lang/invoke/VarHandle" ∧ (parseMethodDescriptor yX9_init.desc).map (fun d => d.parameters.length) = some 2 := by decide +kernel
set_option maxHeartbeats 4000000 in
set_option maxRecDepth 100000 in
theorem c_X9_init (l : Launch) (E : zE) (a0 : Nat) (q0 : Option Nat) (q1 : Option Nat) : z_Met l E yX9_init wsX9_init 1 12 [za ((some a0)), za q0, za q1] z_rv (F_X9_init a0 q0 q1) := by
  refine z_of (own := RX9) (cc := cX9_init) (maxL := 3) (rt := none) rfl (by decide) rfl (Nat.le_of_ble_eq_true rfl) ?_
  intro p e R s0 m args below meth c M0 fin X hr hnm
  have hiX9 : ∀ w ∈ u_ws RX9 TX9 7, w ∈ wsX9_init := by decide +kernel
  have hl9 : Cond.fieldLink RX9 9 (TX9 2).1 (TX9 2).2.1 (TX9 2).2.2.1 ∈ wsX9_init := by decide +kernel
  have hl15 : Cond.fieldLink RX9 15 (TX9 3).1 (TX9 3).2.1 (TX9 3).2.2.1 ∈ wsX9_init := by decide +kernel
  have hl18 : Cond.fieldLink RX9 18 (TX9 4).1 (TX9 4).2.1 (TX9 4).2.2.1 ∈ wsX9_init := by decide +kernel
  have hl22 : Cond.fieldLink RX9 22 (TX9 0).1 (TX9 0).2.1 (TX9 0).2.2.1 ∈ wsX9_init := by decide +kernel
  have hl26 : Cond.fieldLink RX9 26 (TX9 1).1 (TX9 1).2.1 (TX9 1).2.2.1 ∈ wsX9_init := by decide +kernel
  have hl30 : Cond.fieldLink RX9 30 (TX9 5).1 (TX9 5).2.1 (TX9 5).2.2.1 ∈ wsX9_init := by decide +kernel
  have hl34 : Cond.fieldLink RX9 34 (TX9 6).1 (TX9 6).2.1 (TX9 6).2.2.1 ∈ wsX9_init := by decide +kernel
  refine s_aload_n X dX9_init_0 0 rfl ?_
  refine s_objInit X (by decide +kernel) (by decide +kernel) (by decide +kernel) dX9_init_1 ⟨by decide, fun E => by rw [z_wt_eq]; exact Nat.le_of_ble_eq_true rfl⟩ ?_
  refine s_aload_n X dX9_init_4 0 rfl ?_
  refine s_bipush X 16 dX9_init_5 (by decide) ?_
  refine s_nwi X (by decide +kernel) dX9_init_7 (fun a1 M => ?_)
  refine s_pf (x := za ((some a1))) X (C := RX9) (T := TX9) (N := 7) rfl (by decide) hiX9 tyX9 tyX9_ok nmX9 hl9 (Or.inr ⟨rfl, hnm, rfl⟩) rfl (z_afit _ _) dX9_init_9 (fun M => ?_)
  refine s_aload_n X dX9_init_12 0 rfl ?_
  refine s_bipush X 16 dX9_init_13 (by decide) ?_
  refine s_nwi X (by decide +kernel) dX9_init_15 (fun a2 M => ?_)
  refine s_pf (x := za ((some a2))) X (C := RX9) (T := TX9) (N := 7) rfl (by decide) hiX9 tyX9 tyX9_ok nmX9 hl15 (Or.inr ⟨rfl, hnm, rfl⟩) rfl (z_afit _ _) dX9_init_17 (fun M => ?_)
  refine s_aload_n X dX9_init_20 0 rfl ?_
  refine s_iconst X (-1) dX9_init_21 (by decide) ?_
  refine s_pf (x := zi ((-1))) X (C := RX9) (T := TX9) (N := 7) rfl (by decide) hiX9 tyX9 tyX9_ok nmX9 hl18 (Or.inl rfl) rfl (fun E => ⟨rfl, rfl⟩) dX9_init_22 (fun M => ?_)
  refine s_aload_n X dX9_init_25 0 rfl ?_
  refine s_aload_n X dX9_init_26 1 rfl ?_
  refine s_pf (x := za q0) X (C := RX9) (T := TX9) (N := 7) rfl (by decide) hiX9 tyX9 tyX9_ok nmX9 hl22 (Or.inr ⟨rfl, hnm, rfl⟩) rfl (z_afit _ _) dX9_init_27 (fun M => ?_)
  refine s_aload_n X dX9_init_30 0 rfl ?_
  refine s_aload_n X dX9_init_31 2 rfl ?_
  refine s_pf (x := za q1) X (C := RX9) (T := TX9) (N := 7) rfl (by decide) hiX9 tyX9 tyX9_ok nmX9 hl26 (Or.inr ⟨rfl, hnm, rfl⟩) rfl (z_ofit _ _) dX9_init_32 (fun M => ?_)
  refine s_aload_n X dX9_init_35 0 rfl ?_
  refine s_iconst X 1 dX9_init_36 (by decide) ?_
  refine s_pf (x := zi (1)) X (C := RX9) (T := TX9) (N := 7) rfl (by decide) hiX9 tyX9 tyX9_ok nmX9 hl30 (Or.inl rfl) rfl (fun E => ⟨rfl, rfl⟩) dX9_init_37 (fun M => ?_)
  refine s_aload_n X dX9_init_40 0 rfl ?_
  refine s_iconst X 1 dX9_init_41 (by decide) ?_
  refine s_pf (x := zi (1)) X (C := RX9) (T := TX9) (N := 7) rfl (by decide) hiX9 tyX9 tyX9_ok nmX9 hl34 (Or.inl rfl) rfl (fun E => ⟨rfl, rfl⟩) dX9_init_42 (fun M => ?_)
  exact s_retv X hr dX9_init_45
theorem hy_X10_init : yX10_init.cls ≠ "java/lang/invoke/MethodHandle" ∧ yX10_init.cls ≠ "java/lang/invoke/VarHandle" ∧ (parseMethodDescriptor yX10_init.desc).map (fun d => d.parameters.length) = some 0 := by decide +kernel
set_option maxHeartbeats 4000000 in
set_option maxRecDepth 100000 in
theorem c_X10_init (l : Launch) (E : zE) (a0 : Nat) : z_Met l E yX10_init wsX10_init 3 52 [za ((some a0))] z_rv (F_X10_init a0) := by
  refine z_of (own := RX10) (cc := cX10_init) (maxL := 3) (rt := none) rfl (by decide) rfl (Nat.le_of_ble_eq_true rfl) ?_
  intro p e R s0 m args below meth c M0 fin X hr hnm
  have hiX2 : ∀ w ∈ u_ws RX2 TX2 4, w ∈ wsX10_init := by decide +kernel
  have hiX5 : ∀ w ∈ u_ws RX5 TX5 3, w ∈ wsX10_init := by decide +kernel
  have hiX10 : ∀ w ∈ u_ws RX10 TX10 5, w ∈ wsX10_init := by decide +kernel
  have hiX4 : ∀ w ∈ u_ws RX4 TX4 3, w ∈ wsX10_init := by decide +kernel
  have hiX6 : ∀ w ∈ u_ws RX6 TX6 5, w ∈ wsX10_init := by decide +kernel
  have hiX9 : ∀ w ∈ u_ws RX9 TX9 7, w ∈ wsX10_init := by decide +kernel
  have hiX8 : ∀ w ∈ u_ws RX8 TX8 7, w ∈ wsX10_init := by decide +kernel
  have hl13 : Cond.fieldLink RX10 13 (TX10 0).1 (TX10 0).2.1 (TX10 0).2.2.1 ∈ wsX10_init := by decide +kernel
  have hl24 : Cond.fieldLink RX10 24 (TX10 1).1 (TX10 1).2.1 (TX10 1).2.2.1 ∈ wsX10_init := by decide +kernel
  have hl30 : Cond.fieldLink RX10 30 (TX10 2).1 (TX10 2).2.1 (TX10 2).2.2.1 ∈ wsX10_init := by decide +kernel
  have hl40 : Cond.fieldLink RX10 40 (TX10 3).1 (TX10 3).2.1 (TX10 3).2.2.1 ∈ wsX10_init := by decide +kernel
  have hl49 : Cond.fieldLink RX10 49 (TX10 4).1 (TX10 4).2.1 (TX10 4).2.2.1 ∈ wsX10_init := by decide +kernel
  have L46 : ∀ (n : Nat) (s : (Option Nat) × Int32) (M : zM), z_S p l e R s0 m args below meth c (z_Qm E below args s0 M0 z_rv fin) E 3 M0 fin M 46 [(0, za (some a0)), (1, za s.1), (2, zi s.2)] [] (F_X10_init_46 a0 n s) := by
    refine s_fix ?_
    intro ih46_ hih46
    rintro ⟨r_1, x_2⟩ M
    refine s_iload_n X dX10_init_46 2 rfl ?_
    refine s_bipush X 16 dX10_init_47 (by decide) ?_
    refine s_icmp_ge X 71 dX10_init_49 (by decide) (fun h5 => ?_) (fun h5 => ?_)
    · refine s_aload_n X dX10_init_71 0 rfl ?_
      refine s_nwo (C := RX6) (T := TX6) (N := 5) (fs := [.null, .null, .null, .null, .int 0]) X rfl hiX6 tyX6 tyX6_ok (by decide +kernel) (by decide +kernel) (by decide +kernel) rfl (fun E j hj => by rcases z_lt5 hj with rfl | rfl | rfl | rfl | rfl <;> rfl) dX10_init_72 (fun a6 M => ?_)
      refine s_dup X dX10_init_75 rfl ?_
      refine s_aload_n X dX10_init_76 0 rfl ?_
      refine s_ga X (C := RX10) (T := TX10) (N := 5) rfl (by decide) hiX10 hl13 dX10_init_77 (fun r7 => ?_)
      refine s_aload_n X dX10_init_80 1 rfl ?_
      refine s_nwo (C := RX2) (T := TX2) (N := 4) (fs := [.null, .null, .null, .int 0]) X rfl hiX2 tyX2 tyX2_ok (by decide +kernel) (by decide +kernel) (by decide +kernel) rfl (fun E j hj => by rcases z_lt4 hj with rfl | rfl | rfl | rfl <;> rfl) dX10_init_81 (fun a8 M => ?_)
      refine s_dup X dX10_init_84 rfl ?_
      refine s_callN (host := "ShexMatch") (a := a8) (As := []) (st := [za ((some a8)), za r_1, za r7, za ((some a6)), za ((some a6)), za ((some a0))]) X (c_X2_init l E a8) gX10_init_X2_init_n9 rfl (by decide +kernel) (by decide +kernel) (by decide +kernel) rfl hy_X2_init rfl rfl (Nat.le_of_ble_eq_true rfl) (by decide) dX10_init_85 (fun M => ?_)
      refine s_callI (a := a6) (As := [za r7, za r_1, za ((some a8))]) (st := [za ((some a6)), za ((some a0))]) X (c_X6_init l E a6 r7 r_1 ((some a8))) gX10_init_X6_init rfl (by decide +kernel) (by decide +kernel) (by decide +kernel) rfl hy_X6_init rfl rfl (Nat.le_of_ble_eq_true rfl) (by decide) dX10_init_88 (fun M => ?_)
      refine s_pf (x := za ((some a6))) X (C := RX10) (T := TX10) (N := 5) rfl (by decide) hiX10 tyX10 tyX10_ok nmX10 hl40 (Or.inr ⟨rfl, hnm, rfl⟩) rfl (z_ofit _ _) dX10_init_91 (fun M => ?_)
      refine s_aload_n X dX10_init_94 0 rfl ?_
      refine s_nwo (C := RX9) (T := TX9) (N := 7) (fs := [.null, .null, .null, .null, .int 0, .int 0, .int 0]) X rfl hiX9 tyX9 tyX9_ok (by decide +kernel) (by decide +kernel) (by decide +kernel) rfl (fun E j hj => by rcases z_lt7 hj with rfl | rfl | rfl | rfl | rfl | rfl | rfl <;> rfl) dX10_init_95 (fun a9 M => ?_)
      refine s_dup X dX10_init_98 rfl ?_
      refine s_aload_n X dX10_init_99 0 rfl ?_
      refine s_ga X (C := RX10) (T := TX10) (N := 5) rfl (by decide) hiX10 hl30 dX10_init_100 (fun r10 => ?_)
      refine s_aload_n X dX10_init_103 0 rfl ?_
      refine s_ga X (C := RX10) (T := TX10) (N := 5) rfl (by decide) hiX10 hl40 dX10_init_104 (fun r11 => ?_)
      refine s_callI (a := a9) (As := [za r10, za r11]) (st := [za ((some a9)), za ((some a0))]) X (c_X9_init l E a9 r10 r11) gX10_init_X9_init rfl (by decide +kernel) (by decide +kernel) (by decide +kernel) rfl hy_X9_init rfl rfl (Nat.le_of_ble_eq_true rfl) (by decide) dX10_init_107 (fun M => ?_)
      refine s_pf (x := za ((some a9))) X (C := RX10) (T := TX10) (N := 5) rfl (by decide) hiX10 tyX10 tyX10_ok nmX10 hl49 (Or.inr ⟨rfl, hnm, rfl⟩) rfl (z_ofit _ _) dX10_init_110 (fun M => ?_)
      exact s_retv X hr dX10_init_113
    · refine s_aload_n X dX10_init_52 0 rfl ?_
      refine s_ga X (C := RX10) (T := TX10) (N := 5) rfl (by decide) hiX10 hl30 dX10_init_53 (fun r12 => ?_)
      refine s_iload_n X dX10_init_56 2 rfl ?_
      refine s_nwo (C := RX8) (T := TX8) (N := 7) (fs := [.int 0, .int 0, .int 0, .null, .int 0, .int 0, .int 0]) X rfl hiX8 tyX8 tyX8_ok (by decide +kernel) (by decide +kernel) (by decide +kernel) rfl (fun E j hj => by rcases z_lt7 hj with rfl | rfl | rfl | rfl | rfl | rfl | rfl <;> rfl) dX10_init_57 (fun a13 M => ?_)
      refine s_dup X dX10_init_60 rfl ?_
      refine s_callN (host := "ShexMatch") (a := a13) (As := []) (st := [za ((some a13)), zi x_2, za r12]) X (c_X8_init l E a13) gX10_init_X8_init_n34 rfl (by decide +kernel) (by decide +kernel) (by decide +kernel) rfl hy_X8_init rfl rfl (Nat.le_of_ble_eq_true rfl) (by decide) dX10_init_61 (fun M => ?_)
      refine s_sa X dX10_init_64 (fun M => ?_)
      refine s_iinc X 1 dX10_init_65 2 rfl (by decide) (by decide) [(2, zi (x_2 + 1)), (0, za ((some a0))), (1, za r_1)] rfl ?_
      refine s_goto X 46 dX10_init_68 (by decide) ?_
      refine s_lv [(0, za ((some a0))), (1, za r_1), (2, zi (x_2 + 1))] [1, 2, 0] rfl ?_
      exact hih46 (r_1, x_2 + 1) _
  refine s_aload_n X dX10_init_0 0 rfl ?_
  refine s_objInit X (by decide +kernel) (by decide +kernel) (by decide +kernel) dX10_init_1 ⟨by decide, fun E => by rw [z_wt_eq]; exact Nat.le_of_ble_eq_true rfl⟩ ?_
  refine s_nwo (C := RX2) (T := TX2) (N := 4) (fs := [.null, .null, .null, .int 0]) X rfl hiX2 tyX2 tyX2_ok (by decide +kernel) (by decide +kernel) (by decide +kernel) rfl (fun E j hj => by rcases z_lt4 hj with rfl | rfl | rfl | rfl <;> rfl) dX10_init_4 (fun a1 M => ?_)
  refine s_dup X dX10_init_7 rfl ?_
  refine s_callN (host := "ShexMatch") (a := a1) (As := []) (st := [za ((some a1))]) X (c_X2_init l E a1) gX10_init_X2_init_n9 rfl (by decide +kernel) (by decide +kernel) (by decide +kernel) rfl hy_X2_init rfl rfl (Nat.le_of_ble_eq_true rfl) (by decide) dX10_init_8 (fun M => ?_)
  refine s_astore_n X dX10_init_11 (by decide) [(1, za ((some a1))), (0, za ((some a0)))] rfl ?_
  refine s_aload_n X dX10_init_12 1 rfl ?_
  refine s_nwo (C := RX5) (T := TX5) (N := 3) (fs := [.null, .null, .int 0]) X rfl hiX5 tyX5 tyX5_ok (by decide +kernel) (by decide +kernel) (by decide +kernel) rfl (fun E j hj => by rcases z_lt3 hj with rfl | rfl | rfl <;> rfl) dX10_init_13 (fun a2 M => ?_)
  refine s_dup X dX10_init_16 rfl ?_
  refine s_callN (host := "ShexMatch") (a := a2) (As := []) (st := [za ((some a2)), za ((some a0))]) X (c_X5_init l E a2) gX10_init_X5_init_n12 rfl (by decide +kernel) (by decide +kernel) (by decide +kernel) rfl hy_X5_init rfl rfl (Nat.le_of_ble_eq_true rfl) (by decide) dX10_init_17 (fun M => ?_)
  refine s_pf (x := za ((some a2))) X (C := RX10) (T := TX10) (N := 5) rfl (by decide) hiX10 tyX10 tyX10_ok nmX10 hl13 (Or.inr ⟨rfl, hnm, rfl⟩) rfl (z_ofit _ _) dX10_init_20 (fun M => ?_)
  refine s_aload_n X dX10_init_23 1 rfl ?_
  refine s_nwo (C := RX4) (T := TX4) (N := 3) (fs := [.null, .null, .int 0]) X rfl hiX4 tyX4 tyX4_ok (by decide +kernel) (by decide +kernel) (by decide +kernel) rfl (fun E j hj => by rcases z_lt3 hj with rfl | rfl | rfl <;> rfl) dX10_init_24 (fun a3 M => ?_)
  refine s_dup X dX10_init_27 rfl ?_
  refine s_aload_n X dX10_init_28 0 rfl ?_
  refine s_callI (a := a3) (As := [za ((some a1))]) (st := [za ((some a3)), za ((some a0))]) X (c_X4_init l E a3 ((some a1))) gX10_init_X4_init rfl (by decide +kernel) (by decide +kernel) (by decide +kernel) rfl hy_X4_init rfl rfl (Nat.le_of_ble_eq_true rfl) (by decide) dX10_init_29 (fun M => ?_)
  refine s_pf (x := za ((some a3))) X (C := RX10) (T := TX10) (N := 5) rfl (by decide) hiX10 tyX10 tyX10_ok nmX10 hl24 (Or.inr ⟨rfl, hnm, rfl⟩) rfl (z_ofit _ _) dX10_init_32 (fun M => ?_)
  refine s_aload_n X dX10_init_35 1 rfl ?_
  refine s_bipush X 16 dX10_init_36 (by decide) ?_
  refine s_nwq (k := 16) (q0 := (RX8, TX8, 7)) X (by decide) (by decide) rfl (by decide +kernel) (by decide) dX10_init_38 (fun a4 M => ?_)
  refine s_pf (x := za ((some a4))) X (C := RX10) (T := TX10) (N := 5) rfl (by decide) hiX10 tyX10 tyX10_ok nmX10 hl30 (Or.inr ⟨rfl, hnm, rfl⟩) rfl (z_afit _ _) dX10_init_41 (fun M => ?_)
  refine s_iconst X 0 dX10_init_44 (by decide) ?_
  refine s_istore_n X dX10_init_45 (by decide) [(2, zi (0)), (1, za ((some a1))), (0, za ((some a0)))] rfl ?_
  refine s_lv [(0, za ((some a0))), (1, za ((some a1))), (2, zi (0))] [2, 1, 0] rfl ?_
  exact L46 z_N ((some a1), 0) _
theorem hy_X10_isBare : yX10_isBare.cls = RX10 ∧ yX10_isBare.cls ≠ "java/lang/invoke/MethodHandle" ∧ yX10_isBare.cls ≠ "java/lang/invoke/VarHandle" ∧ (parseMethodDescriptor yX10_isBare.desc).map (fun d => d.parameters.length) = some 1 := by decide +kernel
set_option maxHeartbeats 4000000 in
set_option maxRecDepth 100000 in
theorem c_X10_isBare (l : Launch) (E : zE) (a0 : Nat) (p0 : Int32) : z_Met l E yX10_isBare wsX10_isBare 1 20 [za ((some a0)), zi p0] z_ri (F_X10_isBare a0 p0) := by
  refine z_of (own := RX10) (cc := cX10_isBare) (maxL := 2) (rt := (some .boolean)) rfl (by decide) rfl (Nat.le_of_ble_eq_true rfl) ?_
  intro p e R s0 m args below meth c M0 fin X hr hnm
  have hiX10 : ∀ w ∈ u_ws RX10 TX10 5, w ∈ wsX10_isBare := by decide +kernel
  have hiX8 : ∀ w ∈ u_ws RX8 TX8 7, w ∈ wsX10_isBare := by decide +kernel
  have hl30 : Cond.fieldLink RX10 30 (TX10 2).1 (TX10 2).2.1 (TX10 2).2.2.1 ∈ wsX10_isBare := by decide +kernel
  have hl151 : Cond.fieldLink RX10 151 (TX8 0).1 (TX8 0).2.1 (TX8 0).2.2.1 ∈ wsX10_isBare := by decide +kernel
  have J24 : ∀ (s_0 : Int32) (M : zM), z_S p l e R s0 m args below meth c (z_Qm E below args s0 M0 z_ri fin) E 2 M0 fin M 24 [] [zi s_0] (F_X10_isBare_24 a0 s_0) := by
    intro s_0 M
    exact s_retb X hr dX10_isBare_24
  have J23 : ∀ (M : zM), z_S p l e R s0 m args below meth c (z_Qm E below args s0 M0 z_ri fin) E 2 M0 fin M 23 [] [] (F_X10_isBare_23 a0) := by
    intro M
    refine s_iconst X 0 dX10_isBare_23 (by decide) ?_
    exact J24 0 _
  refine s_iload_n X dX10_isBare_0 1 rfl ?_
  refine s_callS (As := [zi p0]) (st := []) X (c_X10_isShape l E p0) gX10_isBare_X10_isShape rfl hy_X10_isShape rfl rfl (Nat.le_of_ble_eq_true rfl) (by decide) dX10_isBare_1 (fun x1 M => ?_)
  refine s_if_eq X 23 dX10_isBare_4 (by decide) (fun h2 => ?_) (fun h2 => ?_)
  · refine s_lv [] [] rfl ?_
    exact J23 _
  · refine s_aload_n X dX10_isBare_7 0 rfl ?_
    refine s_ga X (C := RX10) (T := TX10) (N := 5) rfl (by decide) hiX10 hl30 dX10_isBare_8 (fun r3 => ?_)
    refine s_iload_n X dX10_isBare_11 1 rfl ?_
    refine s_la X dX10_isBare_12 (fun r4 => ?_)
    refine s_gi X (C := RX8) (T := TX8) (N := 7) rfl (by decide) hiX8 hl151 dX10_isBare_13 (fun x5 => ?_)
    refine s_if_ne X 23 dX10_isBare_16 (by decide) (fun h6 => ?_) (fun h6 => ?_)
    · refine s_lv [] [] rfl ?_
      exact J23 _
    · refine s_iconst X 1 dX10_isBare_19 (by decide) ?_
      refine s_goto X 24 dX10_isBare_20 (by decide) ?_
      refine s_lv [] [] rfl ?_
      exact J24 1 _
theorem hy_X6_countLoose : yX6_countLoose.cls = RX6 ∧ yX6_countLoose.cls ≠ "java/lang/invoke/MethodHandle" ∧ yX6_countLoose.cls ≠ "java/lang/invoke/VarHandle" ∧ (parseMethodDescriptor yX6_countLoose.desc).map (fun d => d.parameters.length) = some 3 := by decide +kernel
set_option maxHeartbeats 4000000 in
set_option maxRecDepth 100000 in
theorem c_X6_countLoose (l : Launch) (E : zE) (a0 : Nat) (p0 : Int32) (q1 : Option Nat) (q2 : Option Nat) : z_Met l E yX6_countLoose wsX6_countLoose 3 77 [za ((some a0)), zi p0, za q1, za q2] z_ri (F_X6_countLoose a0 p0 q1 q2) := by
  refine z_of (own := RX6) (cc := cX6_countLoose) (maxL := 6) (rt := (some .int)) rfl (by decide) rfl (Nat.le_of_ble_eq_true rfl) ?_
  intro p e R s0 m args below meth c M0 fin X hr hnm
  have hiX6 : ∀ w ∈ u_ws RX6 TX6 5, w ∈ wsX6_countLoose := by decide +kernel
  have hl34 : Cond.fieldLink RX6 34 (TX6 4).1 (TX6 4).2.1 (TX6 4).2.2.1 ∈ wsX6_countLoose := by decide +kernel
  have hl9 : Cond.fieldLink RX6 9 (TX6 3).1 (TX6 3).2.1 (TX6 3).2.2.1 ∈ wsX6_countLoose := by decide +kernel
  have L13 : ∀ (n : Nat) (s : Int32 × Int32) (M : zM), z_S p l e R s0 m args below meth c (z_Qm E below args s0 M0 z_ri fin) E 6 M0 fin M 13 [(0, za (some a0)), (4, zi s.1), (5, zi s.2)] [] (F_X6_countLoose_13 a0 n s) := by
    refine s_fix ?_
    intro ih13_ hih13
    have J39 : ∀ (x_5 : Int32) (s_0 : Int32) (s_1 : Int32) (M : zM), z_S p l e R s0 m args below meth c (z_Qm E below args s0 M0 z_ri fin) E 6 M0 fin M 39 [(0, za ((some a0))), (5, zi x_5)] [zi s_1, zi s_0] (F_X6_countLoose_39 a0 (fun y0 y1 => ih13_ (y0, y1)) x_5 s_0 s_1) := by
      intro x_5 s_0 s_1 M
      refine s_iadd X dX6_countLoose_39 ?_
      refine s_let (fun x7 => ?_)
      refine s_istore X dX6_countLoose_40 (by decide) [(4, zi x7), (0, za ((some a0))), (5, zi x_5)] rfl ?_
      refine s_iinc X 1 dX6_countLoose_42 2 rfl (by decide) (by decide) [(5, zi (x_5 + 1)), (4, zi x7), (0, za ((some a0)))] rfl ?_
      refine s_goto X 13 dX6_countLoose_45 (by decide) ?_
      refine s_lv [(0, za ((some a0))), (4, zi x7), (5, zi (x_5 + 1))] [2, 1, 0] rfl ?_
      exact hih13 (x7, x_5 + 1) _
    rintro ⟨x_4, x_5⟩ M
    refine s_iload X dX6_countLoose_13 2 rfl ?_
    refine s_aload_n X dX6_countLoose_15 0 rfl ?_
    refine s_gi X (C := RX6) (T := TX6) (N := 5) rfl (by decide) hiX6 hl34 dX6_countLoose_16 (fun x2 => ?_)
    refine s_icmp_ge X 48 dX6_countLoose_19 (by decide) (fun h3 => ?_) (fun h3 => ?_)
    · refine s_iload X dX6_countLoose_48 1 rfl ?_
      exact s_ret X hr dX6_countLoose_50
    · refine s_iload X dX6_countLoose_22 1 rfl ?_
      refine s_aload_n X dX6_countLoose_24 0 rfl ?_
      refine s_ga X (C := RX6) (T := TX6) (N := 5) rfl (by decide) hiX6 hl9 dX6_countLoose_25 (fun r4 => ?_)
      refine s_iload X dX6_countLoose_28 2 rfl ?_
      refine s_li X dX6_countLoose_30 (fun x5 => ?_)
      refine s_if_ne X 38 dX6_countLoose_31 (by decide) (fun h6 => ?_) (fun h6 => ?_)
      · refine s_iconst X 0 dX6_countLoose_38 (by decide) ?_
        refine s_lv [(0, za ((some a0))), (5, zi x_5)] [0, 2] rfl ?_
        exact J39 x_5 x_4 0 _
      · refine s_iconst X 1 dX6_countLoose_34 (by decide) ?_
        refine s_goto X 39 dX6_countLoose_35 (by decide) ?_
        refine s_lv [(0, za ((some a0))), (5, zi x_5)] [0, 2] rfl ?_
        exact J39 x_5 x_4 1 _
  refine s_aload_n X dX6_countLoose_0 0 rfl ?_
  refine s_iload_n X dX6_countLoose_1 1 rfl ?_
  refine s_aload_n X dX6_countLoose_2 2 rfl ?_
  refine s_aload_n X dX6_countLoose_3 3 rfl ?_
  refine s_callV (ci := 6) (C := RX6) (As := [zi p0, za q1, za q2]) (st := []) X (fun a => c_X6_gather l E a p0 q1 q2) gX6_countLoose_X6_gather rfl hy_X6_gather rfl rfl rfl rfl (Nat.le_of_ble_eq_true rfl) (by decide) dX6_countLoose_4 (fun _ M => ?_)
  refine s_iconst X 0 dX6_countLoose_7 (by decide) ?_
  refine s_istore X dX6_countLoose_8 (by decide) [(4, zi (0)), (0, za ((some a0))), (1, zi p0), (2, za q1), (3, za q2)] rfl ?_
  refine s_iconst X 0 dX6_countLoose_10 (by decide) ?_
  refine s_istore X dX6_countLoose_11 (by decide) [(5, zi (0)), (4, zi (0)), (0, za ((some a0))), (1, zi p0), (2, za q1), (3, za q2)] rfl ?_
  refine s_lv [(0, za ((some a0))), (4, zi (0)), (5, zi (0))] [2, 1, 0] rfl ?_
  exact L13 z_N (0, 0) _
theorem hy_X10_loose : yX10_loose.cls = RX10 ∧ yX10_loose.cls ≠ "java/lang/invoke/MethodHandle" ∧ yX10_loose.cls ≠ "java/lang/invoke/VarHandle" ∧ (parseMethodDescriptor yX10_loose.desc).map (fun d => d.parameters.length) = some 2 := by decide +kernel
set_option maxHeartbeats 4000000 in
set_option maxRecDepth 100000 in
theorem c_X10_loose (l : Launch) (E : zE) (a0 : Nat) (p0 : Int32) (p1 : Int32) : z_Met l E yX10_loose wsX10_loose 7 180 [za ((some a0)), zi p0, zi p1] z_ri (F_X10_loose a0 p0 p1) := by
  refine z_of (own := RX10) (cc := cX10_loose) (maxL := 3) (rt := (some .int)) rfl (by decide) rfl (Nat.le_of_ble_eq_true rfl) ?_
  intro p e R s0 m args below meth c M0 fin X hr hnm
  have hiX10 : ∀ w ∈ u_ws RX10 TX10 5, w ∈ wsX10_loose := by decide +kernel
  have hiX9 : ∀ w ∈ u_ws RX9 TX9 7, w ∈ wsX10_loose := by decide +kernel
  have hl49 : Cond.fieldLink RX10 49 (TX10 4).1 (TX10 4).2.1 (TX10 4).2.2.1 ∈ wsX10_loose := by decide +kernel
  have hl40 : Cond.fieldLink RX10 40 (TX10 3).1 (TX10 3).2.1 (TX10 3).2.2.1 ∈ wsX10_loose := by decide +kernel
  have hl30 : Cond.fieldLink RX10 30 (TX10 2).1 (TX10 2).2.1 (TX10 2).2.2.1 ∈ wsX10_loose := by decide +kernel
  have hl101 : Cond.fieldLink RX10 101 (TX9 3).1 (TX9 3).2.1 (TX9 3).2.2.1 ∈ wsX10_loose := by decide +kernel
  have J53 : ∀ (s_0 : Int32) (M : zM), z_S p l e R s0 m args below meth c (z_Qm E below args s0 M0 z_ri fin) E 3 M0 fin M 53 [] [zi s_0] (F_X10_loose_53 a0 s_0) := by
    intro s_0 M
    exact s_ret X hr dX10_loose_53
  have J15 : ∀ (M : zM), z_S p l e R s0 m args below meth c (z_Qm E below args s0 M0 z_ri fin) E 3 M0 fin M 15 [] [] (F_X10_loose_15 a0) := by
    intro M
    refine s_iconst X (-1) dX10_loose_15 (by decide) ?_
    exact s_ret X hr dX10_loose_16
  refine s_iload_n X dX10_loose_0 1 rfl ?_
  refine s_callS (As := [zi p0]) (st := []) X (c_X10_isNode l E p0) gX10_loose_X10_isNode rfl hy_X10_isNode rfl rfl (Nat.le_of_ble_eq_true rfl) (by decide) dX10_loose_1 (fun x1 M => ?_)
  refine s_if_eq X 15 dX10_loose_4 (by decide) (fun h2 => ?_) (fun h2 => ?_)
  · refine s_lv [] [] rfl ?_
    exact J15 _
  · refine s_aload_n X dX10_loose_7 0 rfl ?_
    refine s_iload_n X dX10_loose_8 2 rfl ?_
    refine s_callV (ci := 10) (C := RX10) (As := [zi p1]) (st := []) X (fun a => c_X10_isBare l E a p1) gX10_loose_X10_isBare rfl hy_X10_isBare rfl rfl rfl rfl (Nat.le_of_ble_eq_true rfl) (by decide) dX10_loose_9 (fun x3 M => ?_)
    refine s_if_ne X 17 dX10_loose_12 (by decide) (fun h5 => ?_) (fun h5 => ?_)
    · refine s_aload_n X dX10_loose_17 0 rfl ?_
      refine s_ga X (C := RX10) (T := TX10) (N := 5) rfl (by decide) hiX10 hl49 dX10_loose_18 (fun r6 => ?_)
      refine s_callV (ci := 9) (C := RX9) (As := []) (st := []) X (fun a => c_X9_settled l E a) gX10_loose_X9_settled rfl hy_X9_settled rfl rfl rfl rfl (Nat.le_of_ble_eq_true rfl) (by decide) dX10_loose_21 (fun x7 M => ?_)
      refine s_if_eq X 51 dX10_loose_24 (by decide) (fun h9 => ?_) (fun h9 => ?_)
      · refine s_bipush X (-3) dX10_loose_51 (by decide) ?_
        refine s_lv [] [] rfl ?_
        exact J53 ((-3)) _
      · refine s_aload_n X dX10_loose_27 0 rfl ?_
        refine s_ga X (C := RX10) (T := TX10) (N := 5) rfl (by decide) hiX10 hl40 dX10_loose_28 (fun r10 => ?_)
        refine s_iload_n X dX10_loose_31 1 rfl ?_
        refine s_aload_n X dX10_loose_32 0 rfl ?_
        refine s_ga X (C := RX10) (T := TX10) (N := 5) rfl (by decide) hiX10 hl30 dX10_loose_33 (fun r11 => ?_)
        refine s_iload_n X dX10_loose_36 2 rfl ?_
        refine s_la X dX10_loose_37 (fun r12 => ?_)
        refine s_aload_n X dX10_loose_38 0 rfl ?_
        refine s_ga X (C := RX10) (T := TX10) (N := 5) rfl (by decide) hiX10 hl49 dX10_loose_39 (fun r13 => ?_)
        refine s_ga X (C := RX9) (T := TX9) (N := 7) rfl (by decide) hiX9 hl101 dX10_loose_42 (fun r14 => ?_)
        refine s_callV (ci := 6) (C := RX6) (As := [zi p0, za r12, za r14]) (st := []) X (fun a => c_X6_countLoose l E a p0 r12 r14) gX10_loose_X6_countLoose rfl hy_X6_countLoose rfl rfl rfl rfl (Nat.le_of_ble_eq_true rfl) (by decide) dX10_loose_45 (fun x15 M => ?_)
        refine s_goto X 53 dX10_loose_48 (by decide) ?_
        refine s_lv [] [] rfl ?_
        exact J53 x15 _
    · refine s_lv [] [] rfl ?_
      exact J15 _
theorem hy_X10_nodes : yX10_nodes.cls = RX10 ∧ yX10_nodes.cls ≠ "java/lang/invoke/MethodHandle" ∧ yX10_nodes.cls ≠ "java/lang/invoke/VarHandle" ∧ (parseMethodDescriptor yX10_nodes.desc).map (fun d => d.parameters.length) = some 1 := by decide +kernel
set_option maxHeartbeats 4000000 in
set_option maxRecDepth 100000 in
theorem c_X10_nodes (l : Launch) (E : zE) (a0 : Nat) (p0 : Int32) : z_Met l E yX10_nodes wsX10_nodes 7 180 [za ((some a0)), zi p0] z_ri (F_X10_nodes a0 p0) := by
  refine z_of (own := RX10) (cc := cX10_nodes) (maxL := 2) (rt := (some .int)) rfl (by decide) rfl (Nat.le_of_ble_eq_true rfl) ?_
  intro p e R s0 m args below meth c M0 fin X hr hnm
  have hiX10 : ∀ w ∈ u_ws RX10 TX10 5, w ∈ wsX10_nodes := by decide +kernel
  have hiX9 : ∀ w ∈ u_ws RX9 TX9 7, w ∈ wsX10_nodes := by decide +kernel
  have hl49 : Cond.fieldLink RX10 49 (TX10 4).1 (TX10 4).2.1 (TX10 4).2.2.1 ∈ wsX10_nodes := by decide +kernel
  have hl101 : Cond.fieldLink RX10 101 (TX9 3).1 (TX9 3).2.1 (TX9 3).2.2.1 ∈ wsX10_nodes := by decide +kernel
  have J33 : ∀ (s_0 : Int32) (M : zM), z_S p l e R s0 m args below meth c (z_Qm E below args s0 M0 z_ri fin) E 2 M0 fin M 33 [] [zi s_0] (F_X10_nodes_33 a0 s_0) := by
    intro s_0 M
    exact s_ret X hr dX10_nodes_33
  refine s_iload_n X dX10_nodes_0 1 rfl ?_
  refine s_callS (As := [zi p0]) (st := []) X (c_X10_isShape l E p0) gX10_nodes_X10_isShape rfl hy_X10_isShape rfl rfl (Nat.le_of_ble_eq_true rfl) (by decide) dX10_nodes_1 (fun x1 M => ?_)
  refine s_if_ne X 9 dX10_nodes_4 (by decide) (fun h2 => ?_) (fun h2 => ?_)
  · refine s_aload_n X dX10_nodes_9 0 rfl ?_
    refine s_ga X (C := RX10) (T := TX10) (N := 5) rfl (by decide) hiX10 hl49 dX10_nodes_10 (fun r3 => ?_)
    refine s_callV (ci := 9) (C := RX9) (As := []) (st := []) X (fun a => c_X9_settled l E a) gX10_nodes_X9_settled rfl hy_X9_settled rfl rfl rfl rfl (Nat.le_of_ble_eq_true rfl) (by decide) dX10_nodes_13 (fun x4 M => ?_)
    refine s_if_eq X 31 dX10_nodes_16 (by decide) (fun h6 => ?_) (fun h6 => ?_)
    · refine s_bipush X (-3) dX10_nodes_31 (by decide) ?_
      refine s_lv [] [] rfl ?_
      exact J33 ((-3)) _
    · refine s_aload_n X dX10_nodes_19 0 rfl ?_
      refine s_ga X (C := RX10) (T := TX10) (N := 5) rfl (by decide) hiX10 hl49 dX10_nodes_20 (fun r7 => ?_)
      refine s_ga X (C := RX9) (T := TX9) (N := 7) rfl (by decide) hiX9 hl101 dX10_nodes_23 (fun r8 => ?_)
      refine s_iload_n X dX10_nodes_26 1 rfl ?_
      refine s_li X dX10_nodes_27 (fun x9 => ?_)
      refine s_goto X 33 dX10_nodes_28 (by decide) ?_
      refine s_lv [] [] rfl ?_
      exact J33 x9 _
  · refine s_iconst X (-1) dX10_nodes_7 (by decide) ?_
    exact s_ret X hr dX10_nodes_8
theorem hy_X8_becomeNone : yX8_becomeNone.cls = RX8 ∧ yX8_becomeNone.cls ≠ "java/lang/invoke/MethodHandle" ∧ yX8_becomeNone.cls ≠ "java/lang/invoke/VarHandle" ∧ (parseMethodDescriptor yX8_becomeNone.desc).map (fun d => d.parameters.length) = some 0 := by decide +kernel
set_option maxHeartbeats 4000000 in
set_option maxRecDepth 100000 in
theorem c_X8_becomeNone (l : Launch) (E : zE) (a0 : Nat) : z_Met l E yX8_becomeNone wsX8_becomeNone 0 0 [za ((some a0))] z_rv (F_X8_becomeNone a0) := by
  refine z_of (own := RX8) (cc := cX8_becomeNone) (maxL := 1) (rt := none) rfl (by decide) rfl (Nat.le_of_ble_eq_true rfl) ?_
  intro p e R s0 m args below meth c M0 fin X hr hnm
  have hiX8 : ∀ w ∈ u_ws RX8 TX8 7, w ∈ wsX8_becomeNone := by decide +kernel
  have hl9 : Cond.fieldLink RX8 9 (TX8 0).1 (TX8 0).2.1 (TX8 0).2.2.1 ∈ wsX8_becomeNone := by decide +kernel
  have hl15 : Cond.fieldLink RX8 15 (TX8 1).1 (TX8 1).2.1 (TX8 1).2.2.1 ∈ wsX8_becomeNone := by decide +kernel
  have hl18 : Cond.fieldLink RX8 18 (TX8 2).1 (TX8 2).2.1 (TX8 2).2.2.1 ∈ wsX8_becomeNone := by decide +kernel
  have hl21 : Cond.fieldLink RX8 21 (TX8 3).1 (TX8 3).2.1 (TX8 3).2.2.1 ∈ wsX8_becomeNone := by decide +kernel
  have hl25 : Cond.fieldLink RX8 25 (TX8 4).1 (TX8 4).2.1 (TX8 4).2.2.1 ∈ wsX8_becomeNone := by decide +kernel
  have hl28 : Cond.fieldLink RX8 28 (TX8 5).1 (TX8 5).2.1 (TX8 5).2.2.1 ∈ wsX8_becomeNone := by decide +kernel
  have hl32 : Cond.fieldLink RX8 32 (TX8 6).1 (TX8 6).2.1 (TX8 6).2.2.1 ∈ wsX8_becomeNone := by decide +kernel
  refine s_aload_n X dX8_becomeNone_0 0 rfl ?_
  refine s_iconst X (-1) dX8_becomeNone_1 (by decide) ?_
  refine s_pf (x := zi ((-1))) X (C := RX8) (T := TX8) (N := 7) rfl (by decide) hiX8 tyX8 tyX8_ok nmX8 hl9 (Or.inl rfl) rfl (fun E => ⟨rfl, rfl⟩) dX8_becomeNone_2 (fun M => ?_)
  refine s_aload_n X dX8_becomeNone_5 0 rfl ?_
  refine s_iconst X 0 dX8_becomeNone_6 (by decide) ?_
  refine s_pf (x := zi (0)) X (C := RX8) (T := TX8) (N := 7) rfl (by decide) hiX8 tyX8 tyX8_ok nmX8 hl15 (Or.inl rfl) rfl (fun E => ⟨rfl, rfl⟩) dX8_becomeNone_7 (fun M => ?_)
  refine s_aload_n X dX8_becomeNone_10 0 rfl ?_
  refine s_iconst X 0 dX8_becomeNone_11 (by decide) ?_
  refine s_pf (x := zi (0)) X (C := RX8) (T := TX8) (N := 7) rfl (by decide) hiX8 tyX8 tyX8_ok nmX8 hl18 (Or.inl rfl) rfl (fun E => ⟨rfl, rfl⟩) dX8_becomeNone_12 (fun M => ?_)
  refine s_aload_n X dX8_becomeNone_15 0 rfl ?_
  refine s_null X dX8_becomeNone_16 ?_
  refine s_pf (x := za none) X (C := RX8) (T := TX8) (N := 7) rfl (by decide) hiX8 tyX8 tyX8_ok nmX8 hl21 (Or.inl rfl) rfl (z_ofit _ _) dX8_becomeNone_17 (fun M => ?_)
  refine s_aload_n X dX8_becomeNone_20 0 rfl ?_
  refine s_iconst X 0 dX8_becomeNone_21 (by decide) ?_
  refine s_pf (x := zi (0)) X (C := RX8) (T := TX8) (N := 7) rfl (by decide) hiX8 tyX8 tyX8_ok nmX8 hl25 (Or.inl rfl) rfl (fun E => ⟨rfl, rfl⟩) dX8_becomeNone_22 (fun M => ?_)
  refine s_aload_n X dX8_becomeNone_25 0 rfl ?_
  refine s_iconst X 0 dX8_becomeNone_26 (by decide) ?_
  refine s_pf (x := zi (0)) X (C := RX8) (T := TX8) (N := 7) rfl (by decide) hiX8 tyX8 tyX8_ok nmX8 hl28 (Or.inl rfl) rfl (fun E => ⟨rfl, rfl⟩) dX8_becomeNone_27 (fun M => ?_)
  refine s_aload_n X dX8_becomeNone_30 0 rfl ?_
  refine s_iconst X 0 dX8_becomeNone_31 (by decide) ?_
  refine s_pf (x := zi (0)) X (C := RX8) (T := TX8) (N := 7) rfl (by decide) hiX8 tyX8 tyX8_ok nmX8 hl32 (Or.inl rfl) rfl (fun E => ⟨rfl, rfl⟩) dX8_becomeNone_32 (fun M => ?_)
  exact s_retv X hr dX8_becomeNone_35
theorem hy_X8_becomeBare : yX8_becomeBare.cls = RX8 ∧ yX8_becomeBare.cls ≠ "java/lang/invoke/MethodHandle" ∧ yX8_becomeBare.cls ≠ "java/lang/invoke/VarHandle" ∧ (parseMethodDescriptor yX8_becomeBare.desc).map (fun d => d.parameters.length) = some 3 := by decide +kernel
set_option maxHeartbeats 4000000 in
set_option maxRecDepth 100000 in
theorem c_X8_becomeBare (l : Launch) (E : zE) (a0 : Nat) (q0 : Option Nat) (p1 : Int32) (p2 : Int32) : z_Met l E yX8_becomeBare wsX8_becomeBare 1 20 [za ((some a0)), za q0, zi p1, zi p2] z_rv (F_X8_becomeBare a0 q0 p1 p2) := by
  refine z_of (own := RX8) (cc := cX8_becomeBare) (maxL := 4) (rt := none) rfl (by decide) rfl (Nat.le_of_ble_eq_true rfl) ?_
  intro p e R s0 m args below meth c M0 fin X hr hnm
  have hiX8 : ∀ w ∈ u_ws RX8 TX8 7, w ∈ wsX8_becomeBare := by decide +kernel
  have hiX3 : ∀ w ∈ u_ws RX3 TX3 6, w ∈ wsX8_becomeBare := by decide +kernel
  have hl9 : Cond.fieldLink RX8 9 (TX8 0).1 (TX8 0).2.1 (TX8 0).2.2.1 ∈ wsX8_becomeBare := by decide +kernel
  have hl21 : Cond.fieldLink RX8 21 (TX8 3).1 (TX8 3).2.1 (TX8 3).2.2.1 ∈ wsX8_becomeBare := by decide +kernel
  have hl25 : Cond.fieldLink RX8 25 (TX8 4).1 (TX8 4).2.1 (TX8 4).2.2.1 ∈ wsX8_becomeBare := by decide +kernel
  have hl28 : Cond.fieldLink RX8 28 (TX8 5).1 (TX8 5).2.1 (TX8 5).2.2.1 ∈ wsX8_becomeBare := by decide +kernel
  have hl38 : Cond.fieldLink RX8 38 (TX3 5).1 (TX3 5).2.1 (TX3 5).2.2.1 ∈ wsX8_becomeBare := by decide +kernel
  have hl32 : Cond.fieldLink RX8 32 (TX8 6).1 (TX8 6).2.1 (TX8 6).2.2.1 ∈ wsX8_becomeBare := by decide +kernel
  refine s_aload_n X dX8_becomeBare_0 0 rfl ?_
  refine s_callV (ci := 8) (C := RX8) (As := []) (st := []) X (fun a => c_X8_becomeNone l E a) gX8_becomeBare_X8_becomeNone rfl hy_X8_becomeNone rfl rfl rfl rfl (Nat.le_of_ble_eq_true rfl) (by decide) dX8_becomeBare_1 (fun _ M => ?_)
  refine s_aload_n X dX8_becomeBare_4 0 rfl ?_
  refine s_iconst X 0 dX8_becomeBare_5 (by decide) ?_
  refine s_pf (x := zi (0)) X (C := RX8) (T := TX8) (N := 7) rfl (by decide) hiX8 tyX8 tyX8_ok nmX8 hl9 (Or.inl rfl) rfl (fun E => ⟨rfl, rfl⟩) dX8_becomeBare_6 (fun M => ?_)
  refine s_aload_n X dX8_becomeBare_9 0 rfl ?_
  refine s_aload_n X dX8_becomeBare_10 1 rfl ?_
  refine s_pf (x := za q0) X (C := RX8) (T := TX8) (N := 7) rfl (by decide) hiX8 tyX8 tyX8_ok nmX8 hl21 (Or.inl rfl) rfl (z_ofit _ _) dX8_becomeBare_11 (fun M => ?_)
  refine s_aload_n X dX8_becomeBare_14 0 rfl ?_
  refine s_iload_n X dX8_becomeBare_15 2 rfl ?_
  refine s_pf (x := zi p1) X (C := RX8) (T := TX8) (N := 7) rfl (by decide) hiX8 tyX8 tyX8_ok nmX8 hl25 (Or.inl rfl) rfl (fun E => ⟨rfl, rfl⟩) dX8_becomeBare_16 (fun M => ?_)
  refine s_aload_n X dX8_becomeBare_19 0 rfl ?_
  refine s_iload_n X dX8_becomeBare_20 3 rfl ?_
  refine s_ck (fun h2 => ?_)
  refine s_pf (x := zi p2) X (C := RX8) (T := TX8) (N := 7) rfl (by decide) hiX8 tyX8 tyX8_ok nmX8 hl28 (Or.inl rfl) rfl (z_bfit h2) dX8_becomeBare_21 (fun M => ?_)
  refine s_aload_n X dX8_becomeBare_24 0 rfl ?_
  refine s_aload_n X dX8_becomeBare_25 1 rfl ?_
  refine s_gi X (C := RX3) (T := TX3) (N := 6) rfl (by decide) hiX3 hl38 dX8_becomeBare_26 (fun x3 => ?_)
  refine s_pf (x := zi x3) X (C := RX8) (T := TX8) (N := 7) rfl (by decide) hiX8 tyX8 tyX8_ok nmX8 hl32 (Or.inl rfl) rfl (fun E => ⟨rfl, rfl⟩) dX8_becomeBare_29 (fun M => ?_)
  exact s_retv X hr dX8_becomeBare_32
theorem hy_X10_setBare : yX10_setBare.cls = RX10 ∧ yX10_setBare.cls ≠ "java/lang/invoke/MethodHandle" ∧ yX10_setBare.cls ≠ "java/lang/invoke/VarHandle" ∧ (parseMethodDescriptor yX10_setBare.desc).map (fun d => d.parameters.length) = some 4 := by decide +kernel
set_option maxHeartbeats 4000000 in
set_option maxRecDepth 100000 in
theorem c_X10_setBare (l : Launch) (E : zE) (a0 : Nat) (q0 : Option Nat) (p1 : Int32) (p2 : Int32) (p3 : Int32) : z_Met l E yX10_setBare wsX10_setBare 2 43 [za ((some a0)), za q0, zi p1, zi p2, zi p3] z_ri (F_X10_setBare a0 q0 p1 p2 p3) := by
  refine z_of (own := RX10) (cc := cX10_setBare) (maxL := 6) (rt := (some .boolean)) rfl (by decide) rfl (Nat.le_of_ble_eq_true rfl) ?_
  intro p e R s0 m args below meth c M0 fin X hr hnm
  have hiX10 : ∀ w ∈ u_ws RX10 TX10 5, w ∈ wsX10_setBare := by decide +kernel
  have hiX3 : ∀ w ∈ u_ws RX3 TX3 6, w ∈ wsX10_setBare := by decide +kernel
  have hl24 : Cond.fieldLink RX10 24 (TX10 1).1 (TX10 1).2.1 (TX10 1).2.2.1 ∈ wsX10_setBare := by decide +kernel
  have hl184 : Cond.fieldLink RX10 184 (TX3 0).1 (TX3 0).2.1 (TX3 0).2.2.1 ∈ wsX10_setBare := by decide +kernel
  have J23 : ∀ (M : zM), z_S p l e R s0 m args below meth c (z_Qm E below args s0 M0 z_ri fin) E 6 M0 fin M 23 [] [] (F_X10_setBare_23 a0) := by
    intro M
    refine s_iconst X 0 dX10_setBare_23 (by decide) ?_
    exact s_retb X hr dX10_setBare_24
  refine s_aload_n X dX10_setBare_0 0 rfl ?_
  refine s_ga X (C := RX10) (T := TX10) (N := 5) rfl (by decide) hiX10 hl24 dX10_setBare_1 (fun r1 => ?_)
  refine s_iload_n X dX10_setBare_4 2 rfl ?_
  refine s_callV (ci := 4) (C := RX4) (As := [zi p1]) (st := []) X (fun a => c_X4_find l E a p1) gX10_setBare_X4_find rfl hy_X4_find rfl rfl rfl rfl (Nat.le_of_ble_eq_true rfl) (by decide) dX10_setBare_5 (fun r2 M => ?_)
  refine s_astore X dX10_setBare_8 (by decide) [(5, za r2), (0, za ((some a0))), (1, za q0), (2, zi p1), (3, zi p2), (4, zi p3)] rfl ?_
  refine s_aload X dX10_setBare_10 0 rfl ?_
  refine s_ifnull X 23 dX10_setBare_12 (by decide) (fun h4 => ?_) (fun h4 => ?_)
  · refine s_lv [] [] rfl ?_
    exact J23 _
  · refine s_aload X dX10_setBare_15 0 rfl ?_
    refine s_gi X (C := RX3) (T := TX3) (N := 6) rfl (by decide) hiX3 hl184 dX10_setBare_17 (fun x5 => ?_)
    refine s_if_eq X 25 dX10_setBare_20 (by decide) (fun h6 => ?_) (fun h6 => ?_)
    · refine s_aload_n X dX10_setBare_25 2 rfl ?_
      refine s_aload X dX10_setBare_26 0 rfl ?_
      refine s_iload_n X dX10_setBare_28 4 rfl ?_
      refine s_iload X dX10_setBare_29 5 rfl ?_
      refine s_callV (ci := 8) (C := RX8) (As := [za r2, zi p2, zi p3]) (st := []) X (fun a => c_X8_becomeBare l E a r2 p2 p3) gX10_setBare_X8_becomeBare rfl hy_X8_becomeBare rfl rfl rfl rfl (Nat.le_of_ble_eq_true rfl) (by decide) dX10_setBare_31 (fun _ M => ?_)
      refine s_iconst X 1 dX10_setBare_34 (by decide) ?_
      exact s_retb X hr dX10_setBare_35
    · refine s_lv [] [] rfl ?_
      exact J23 _
theorem hy_X8_becomeAmong : yX8_becomeAmong.cls = RX8 ∧ yX8_becomeAmong.cls ≠ "java/lang/invoke/MethodHandle" ∧ yX8_becomeAmong.cls ≠ "java/lang/invoke/VarHandle" ∧ (parseMethodDescriptor yX8_becomeAmong.desc).map (fun d => d.parameters.length) = some 1 := by decide +kernel
set_option maxHeartbeats 4000000 in
set_option maxRecDepth 100000 in
theorem c_X8_becomeAmong (l : Launch) (E : zE) (a0 : Nat) (p0 : Int32) : z_Met l E yX8_becomeAmong wsX8_becomeAmong 1 20 [za ((some a0)), zi p0] z_rv (F_X8_becomeAmong a0 p0) := by
  refine z_of (own := RX8) (cc := cX8_becomeAmong) (maxL := 2) (rt := none) rfl (by decide) rfl (Nat.le_of_ble_eq_true rfl) ?_
  intro p e R s0 m args below meth c M0 fin X hr hnm
  have hiX8 : ∀ w ∈ u_ws RX8 TX8 7, w ∈ wsX8_becomeAmong := by decide +kernel
  have hl9 : Cond.fieldLink RX8 9 (TX8 0).1 (TX8 0).2.1 (TX8 0).2.2.1 ∈ wsX8_becomeAmong := by decide +kernel
  have hl15 : Cond.fieldLink RX8 15 (TX8 1).1 (TX8 1).2.1 (TX8 1).2.2.1 ∈ wsX8_becomeAmong := by decide +kernel
  refine s_aload_n X dX8_becomeAmong_0 0 rfl ?_
  refine s_callV (ci := 8) (C := RX8) (As := []) (st := []) X (fun a => c_X8_becomeNone l E a) gX8_becomeAmong_X8_becomeNone rfl hy_X8_becomeNone rfl rfl rfl rfl (Nat.le_of_ble_eq_true rfl) (by decide) dX8_becomeAmong_1 (fun _ M => ?_)
  refine s_aload_n X dX8_becomeAmong_4 0 rfl ?_
  refine s_iconst X 4 dX8_becomeAmong_5 (by decide) ?_
  refine s_pf (x := zi (4)) X (C := RX8) (T := TX8) (N := 7) rfl (by decide) hiX8 tyX8 tyX8_ok nmX8 hl9 (Or.inl rfl) rfl (fun E => ⟨rfl, rfl⟩) dX8_becomeAmong_6 (fun M => ?_)
  refine s_aload_n X dX8_becomeAmong_9 0 rfl ?_
  refine s_iload_n X dX8_becomeAmong_10 1 rfl ?_
  refine s_pf (x := zi p0) X (C := RX8) (T := TX8) (N := 7) rfl (by decide) hiX8 tyX8 tyX8_ok nmX8 hl15 (Or.inl rfl) rfl (fun E => ⟨rfl, rfl⟩) dX8_becomeAmong_11 (fun M => ?_)
  exact s_retv X hr dX8_becomeAmong_14
theorem hy_X8_becomeNot : yX8_becomeNot.cls = RX8 ∧ yX8_becomeNot.cls ≠ "java/lang/invoke/MethodHandle" ∧ yX8_becomeNot.cls ≠ "java/lang/invoke/VarHandle" ∧ (parseMethodDescriptor yX8_becomeNot.desc).map (fun d => d.parameters.length) = some 1 := by decide +kernel
set_option maxHeartbeats 4000000 in
set_option maxRecDepth 100000 in
theorem c_X8_becomeNot (l : Launch) (E : zE) (a0 : Nat) (p0 : Int32) : z_Met l E yX8_becomeNot wsX8_becomeNot 1 20 [za ((some a0)), zi p0] z_rv (F_X8_becomeNot a0 p0) := by
  refine z_of (own := RX8) (cc := cX8_becomeNot) (maxL := 2) (rt := none) rfl (by decide) rfl (Nat.le_of_ble_eq_true rfl) ?_
  intro p e R s0 m args below meth c M0 fin X hr hnm
  have hiX8 : ∀ w ∈ u_ws RX8 TX8 7, w ∈ wsX8_becomeNot := by decide +kernel
  have hl9 : Cond.fieldLink RX8 9 (TX8 0).1 (TX8 0).2.1 (TX8 0).2.2.1 ∈ wsX8_becomeNot := by decide +kernel
  have hl15 : Cond.fieldLink RX8 15 (TX8 1).1 (TX8 1).2.1 (TX8 1).2.2.1 ∈ wsX8_becomeNot := by decide +kernel
  have hl32 : Cond.fieldLink RX8 32 (TX8 6).1 (TX8 6).2.1 (TX8 6).2.2.1 ∈ wsX8_becomeNot := by decide +kernel
  refine s_aload_n X dX8_becomeNot_0 0 rfl ?_
  refine s_callV (ci := 8) (C := RX8) (As := []) (st := []) X (fun a => c_X8_becomeNone l E a) gX8_becomeNot_X8_becomeNone rfl hy_X8_becomeNone rfl rfl rfl rfl (Nat.le_of_ble_eq_true rfl) (by decide) dX8_becomeNot_1 (fun _ M => ?_)
  refine s_aload_n X dX8_becomeNot_4 0 rfl ?_
  refine s_iconst X 3 dX8_becomeNot_5 (by decide) ?_
  refine s_pf (x := zi (3)) X (C := RX8) (T := TX8) (N := 7) rfl (by decide) hiX8 tyX8 tyX8_ok nmX8 hl9 (Or.inl rfl) rfl (fun E => ⟨rfl, rfl⟩) dX8_becomeNot_6 (fun M => ?_)
  refine s_aload_n X dX8_becomeNot_9 0 rfl ?_
  refine s_iload_n X dX8_becomeNot_10 1 rfl ?_
  refine s_pf (x := zi p0) X (C := RX8) (T := TX8) (N := 7) rfl (by decide) hiX8 tyX8 tyX8_ok nmX8 hl15 (Or.inl rfl) rfl (fun E => ⟨rfl, rfl⟩) dX8_becomeNot_11 (fun M => ?_)
  refine s_aload_n X dX8_becomeNot_14 0 rfl ?_
  refine s_iconst X 1 dX8_becomeNot_15 (by decide) ?_
  refine s_iload_n X dX8_becomeNot_16 1 rfl ?_
  refine s_ishl X dX8_becomeNot_17 ?_
  refine s_pf (x := zi ((1 : Int32) <<< (p0 &&& 31))) X (C := RX8) (T := TX8) (N := 7) rfl (by decide) hiX8 tyX8 tyX8_ok nmX8 hl32 (Or.inl rfl) rfl (fun E => ⟨rfl, rfl⟩) dX8_becomeNot_18 (fun M => ?_)
  exact s_retv X hr dX8_becomeNot_21
theorem hy_X8_becomePair : yX8_becomePair.cls = RX8 ∧ yX8_becomePair.cls ≠ "java/lang/invoke/MethodHandle" ∧ yX8_becomePair.cls ≠ "java/lang/invoke/VarHandle" ∧ (parseMethodDescriptor yX8_becomePair.desc).map (fun d => d.parameters.length) = some 3 := by decide +kernel
set_option maxHeartbeats 4000000 in
set_option maxRecDepth 100000 in
theorem c_X8_becomePair (l : Launch) (E : zE) (a0 : Nat) (p0 : Int32) (p1 : Int32) (p2 : Int32) : z_Met l E yX8_becomePair wsX8_becomePair 1 20 [za ((some a0)), zi p0, zi p1, zi p2] z_rv (F_X8_becomePair a0 p0 p1 p2) := by
  refine z_of (own := RX8) (cc := cX8_becomePair) (maxL := 4) (rt := none) rfl (by decide) rfl (Nat.le_of_ble_eq_true rfl) ?_
  intro p e R s0 m args below meth c M0 fin X hr hnm
  have hiX8 : ∀ w ∈ u_ws RX8 TX8 7, w ∈ wsX8_becomePair := by decide +kernel
  have hl9 : Cond.fieldLink RX8 9 (TX8 0).1 (TX8 0).2.1 (TX8 0).2.2.1 ∈ wsX8_becomePair := by decide +kernel
  have hl15 : Cond.fieldLink RX8 15 (TX8 1).1 (TX8 1).2.1 (TX8 1).2.2.1 ∈ wsX8_becomePair := by decide +kernel
  have hl18 : Cond.fieldLink RX8 18 (TX8 2).1 (TX8 2).2.1 (TX8 2).2.2.1 ∈ wsX8_becomePair := by decide +kernel
  have hl32 : Cond.fieldLink RX8 32 (TX8 6).1 (TX8 6).2.1 (TX8 6).2.2.1 ∈ wsX8_becomePair := by decide +kernel
  refine s_aload_n X dX8_becomePair_0 0 rfl ?_
  refine s_callV (ci := 8) (C := RX8) (As := []) (st := []) X (fun a => c_X8_becomeNone l E a) gX8_becomePair_X8_becomeNone rfl hy_X8_becomeNone rfl rfl rfl rfl (Nat.le_of_ble_eq_true rfl) (by decide) dX8_becomePair_1 (fun _ M => ?_)
  refine s_aload_n X dX8_becomePair_4 0 rfl ?_
  refine s_iload_n X dX8_becomePair_5 1 rfl ?_
  refine s_pf (x := zi p0) X (C := RX8) (T := TX8) (N := 7) rfl (by decide) hiX8 tyX8 tyX8_ok nmX8 hl9 (Or.inl rfl) rfl (fun E => ⟨rfl, rfl⟩) dX8_becomePair_6 (fun M => ?_)
  refine s_aload_n X dX8_becomePair_9 0 rfl ?_
  refine s_iload_n X dX8_becomePair_10 2 rfl ?_
  refine s_pf (x := zi p1) X (C := RX8) (T := TX8) (N := 7) rfl (by decide) hiX8 tyX8 tyX8_ok nmX8 hl15 (Or.inl rfl) rfl (fun E => ⟨rfl, rfl⟩) dX8_becomePair_11 (fun M => ?_)
  refine s_aload_n X dX8_becomePair_14 0 rfl ?_
  refine s_iload_n X dX8_becomePair_15 3 rfl ?_
  refine s_pf (x := zi p2) X (C := RX8) (T := TX8) (N := 7) rfl (by decide) hiX8 tyX8 tyX8_ok nmX8 hl18 (Or.inl rfl) rfl (fun E => ⟨rfl, rfl⟩) dX8_becomePair_16 (fun M => ?_)
  refine s_aload_n X dX8_becomePair_19 0 rfl ?_
  refine s_iconst X 1 dX8_becomePair_20 (by decide) ?_
  refine s_iload_n X dX8_becomePair_21 2 rfl ?_
  refine s_ishl X dX8_becomePair_22 ?_
  refine s_iconst X 1 dX8_becomePair_23 (by decide) ?_
  refine s_iload_n X dX8_becomePair_24 3 rfl ?_
  refine s_ishl X dX8_becomePair_25 ?_
  refine s_ior X dX8_becomePair_26 ?_
  refine s_pf (x := zi (((1 : Int32) <<< (p1 &&& 31)) ||| ((1 : Int32) <<< (p2 &&& 31)))) X (C := RX8) (T := TX8) (N := 7) rfl (by decide) hiX8 tyX8 tyX8_ok nmX8 hl32 (Or.inl rfl) rfl (fun E => ⟨rfl, rfl⟩) dX8_becomePair_27 (fun M => ?_)
  exact s_retv X hr dX8_becomePair_30
theorem hy_X10_setShape : yX10_setShape.cls = RX10 ∧ yX10_setShape.cls ≠ "java/lang/invoke/MethodHandle" ∧ yX10_setShape.cls ≠ "java/lang/invoke/VarHandle" ∧ (parseMethodDescriptor yX10_setShape.desc).map (fun d => d.parameters.length) = some 5 := by decide +kernel
set_option maxHeartbeats 4000000 in
set_option maxRecDepth 100000 in
theorem c_X10_setShape (l : Launch) (E : zE) (a0 : Nat) (q0 : Option Nat) (p1 : Int32) (p2 : Int32) (p3 : Int32) (p4 : Int32) : z_Met l E yX10_setShape wsX10_setShape 3 68 [za ((some a0)), za q0, zi p1, zi p2, zi p3, zi p4] z_ri (F_X10_setShape a0 q0 p1 p2 p3 p4) := by
  refine z_of (own := RX10) (cc := cX10_setShape) (maxL := 6) (rt := (some .boolean)) rfl (by decide) rfl (Nat.le_of_ble_eq_true rfl) ?_
  intro p e R s0 m args below meth c M0 fin X hr hnm
  have J85 : ∀ (M : zM), z_S p l e R s0 m args below meth c (z_Qm E below args s0 M0 z_ri fin) E 6 M0 fin M 85 [] [] (F_X10_setShape_85 a0) := by
    intro M
    refine s_iconst X 0 dX10_setShape_85 (by decide) ?_
    exact s_retb X hr dX10_setShape_86
  have J66 : ∀ (t_0 : Option Nat) (t_1 : Option Nat) (s_2 : Int32) (s_3 : Int32) (s_4 : Int32) (M : zM), z_S p l e R s0 m args below meth c (z_Qm E below args s0 M0 z_ri fin) E 6 M0 fin M 66 [] [zi s_4, zi s_3, zi s_2, za t_1, za t_0] (F_X10_setShape_66 a0 t_0 t_1 s_2 s_3 s_4) := by
    intro t_0 t_1 s_2 s_3 s_4 M
    refine s_callV (ci := 10) (C := RX10) (As := [za t_1, zi s_2, zi s_3, zi s_4]) (st := []) X (fun a => c_X10_setBare l E a t_1 s_2 s_3 s_4) gX10_setShape_X10_setBare rfl hy_X10_setBare rfl rfl rfl rfl (Nat.le_of_ble_eq_true rfl) (by decide) dX10_setShape_66 (fun x23 M => ?_)
    exact s_retb X hr dX10_setShape_69
  refine s_iload_n X dX10_setShape_0 2 rfl ?_
  refine s_by (fun h1 => ?_) (fun h1 => ?_)
  · refine s_tabIn X (-1) 40 h1 dX10_setShape_1 (by decide) (by decide) (by decide) trivial ?_
    refine s_aload_n X dX10_setShape_40 1 rfl ?_
    refine s_callV (ci := 8) (C := RX8) (As := []) (st := []) X (fun a => c_X8_becomeNone l E a) gX10_setShape_X8_becomeNone rfl hy_X8_becomeNone rfl rfl rfl rfl (Nat.le_of_ble_eq_true rfl) (by decide) dX10_setShape_41 (fun _ M => ?_)
    refine s_iconst X 1 dX10_setShape_44 (by decide) ?_
    exact s_retb X hr dX10_setShape_45
  · refine s_by (fun h3 => ?_) (fun h3 => ?_)
    · refine s_tabIn X 0 46 h3 dX10_setShape_1 (by decide) (by decide) (by decide) trivial ?_
      refine s_aload_n X dX10_setShape_46 0 rfl ?_
      refine s_aload_n X dX10_setShape_47 1 rfl ?_
      refine s_iload_n X dX10_setShape_48 3 rfl ?_
      refine s_iload X dX10_setShape_49 4 rfl ?_
      refine s_sipush X 255 dX10_setShape_51 (by decide) ?_
      refine s_iand X dX10_setShape_54 ?_
      refine s_iload X dX10_setShape_55 5 rfl ?_
      refine s_iconst X 1 dX10_setShape_57 (by decide) ?_
      refine s_icmp_ne X 65 dX10_setShape_58 (by decide) (fun h4 => ?_) (fun h4 => ?_)
      · refine s_iconst X 0 dX10_setShape_65 (by decide) ?_
        refine s_lv [] [] rfl ?_
        exact J66 ((some a0)) q0 p2 (p3 &&& 255) 0 _
      · refine s_iconst X 1 dX10_setShape_61 (by decide) ?_
        refine s_goto X 66 dX10_setShape_62 (by decide) ?_
        refine s_lv [] [] rfl ?_
        exact J66 ((some a0)) q0 p2 (p3 &&& 255) 1 _
    · refine s_by (fun h5 => ?_) (fun h5 => ?_)
      · refine s_tabIn X 1 70 h5 dX10_setShape_1 (by decide) (by decide) (by decide) trivial ?_
        refine s_iload_n X dX10_setShape_70 3 rfl ?_
        refine s_callS (As := [zi p2]) (st := []) X (c_X10_isShape l E p2) gX10_setShape_X10_isShape rfl hy_X10_isShape rfl rfl (Nat.le_of_ble_eq_true rfl) (by decide) dX10_setShape_71 (fun x6 M => ?_)
        refine s_if_eq X 85 dX10_setShape_74 (by decide) (fun h7 => ?_) (fun h7 => ?_)
        · refine s_lv [] [] rfl ?_
          exact J85 _
        · refine s_iload X dX10_setShape_77 4 rfl ?_
          refine s_callS (As := [zi p3]) (st := []) X (c_X10_isShape l E p3) gX10_setShape_X10_isShape rfl hy_X10_isShape rfl rfl (Nat.le_of_ble_eq_true rfl) (by decide) dX10_setShape_79 (fun x8 M => ?_)
          refine s_if_ne X 87 dX10_setShape_82 (by decide) (fun h9 => ?_) (fun h9 => ?_)
          · refine s_aload_n X dX10_setShape_87 1 rfl ?_
            refine s_iload_n X dX10_setShape_88 2 rfl ?_
            refine s_iload_n X dX10_setShape_89 3 rfl ?_
            refine s_iload X dX10_setShape_90 4 rfl ?_
            refine s_callV (ci := 8) (C := RX8) (As := [zi p1, zi p2, zi p3]) (st := []) X (fun a => c_X8_becomePair l E a p1 p2 p3) gX10_setShape_X8_becomePair rfl hy_X8_becomePair rfl rfl rfl rfl (Nat.le_of_ble_eq_true rfl) (by decide) dX10_setShape_92 (fun _ M => ?_)
            refine s_iconst X 1 dX10_setShape_95 (by decide) ?_
            exact s_retb X hr dX10_setShape_96
          · refine s_lv [] [] rfl ?_
            exact J85 _
      · refine s_by (fun h11 => ?_) (fun h11 => ?_)
        · refine s_tabIn X 2 70 h11 dX10_setShape_1 (by decide) (by decide) (by decide) trivial ?_
          refine s_iload_n X dX10_setShape_70 3 rfl ?_
          refine s_callS (As := [zi p2]) (st := []) X (c_X10_isShape l E p2) gX10_setShape_X10_isShape rfl hy_X10_isShape rfl rfl (Nat.le_of_ble_eq_true rfl) (by decide) dX10_setShape_71 (fun x12 M => ?_)
          refine s_if_eq X 85 dX10_setShape_74 (by decide) (fun h13 => ?_) (fun h13 => ?_)
          · refine s_lv [] [] rfl ?_
            exact J85 _
          · refine s_iload X dX10_setShape_77 4 rfl ?_
            refine s_callS (As := [zi p3]) (st := []) X (c_X10_isShape l E p3) gX10_setShape_X10_isShape rfl hy_X10_isShape rfl rfl (Nat.le_of_ble_eq_true rfl) (by decide) dX10_setShape_79 (fun x14 M => ?_)
            refine s_if_ne X 87 dX10_setShape_82 (by decide) (fun h15 => ?_) (fun h15 => ?_)
            · refine s_aload_n X dX10_setShape_87 1 rfl ?_
              refine s_iload_n X dX10_setShape_88 2 rfl ?_
              refine s_iload_n X dX10_setShape_89 3 rfl ?_
              refine s_iload X dX10_setShape_90 4 rfl ?_
              refine s_callV (ci := 8) (C := RX8) (As := [zi p1, zi p2, zi p3]) (st := []) X (fun a => c_X8_becomePair l E a p1 p2 p3) gX10_setShape_X8_becomePair rfl hy_X8_becomePair rfl rfl rfl rfl (Nat.le_of_ble_eq_true rfl) (by decide) dX10_setShape_92 (fun _ M => ?_)
              refine s_iconst X 1 dX10_setShape_95 (by decide) ?_
              exact s_retb X hr dX10_setShape_96
            · refine s_lv [] [] rfl ?_
              exact J85 _
        · refine s_by (fun h17 => ?_) (fun h17 => ?_)
          · refine s_tabIn X 3 97 h17 dX10_setShape_1 (by decide) (by decide) (by decide) trivial ?_
            refine s_iload_n X dX10_setShape_97 3 rfl ?_
            refine s_callS (As := [zi p2]) (st := []) X (c_X10_isShape l E p2) gX10_setShape_X10_isShape rfl hy_X10_isShape rfl rfl (Nat.le_of_ble_eq_true rfl) (by decide) dX10_setShape_98 (fun x18 M => ?_)
            refine s_if_ne X 106 dX10_setShape_101 (by decide) (fun h19 => ?_) (fun h19 => ?_)
            · refine s_aload_n X dX10_setShape_106 1 rfl ?_
              refine s_iload_n X dX10_setShape_107 3 rfl ?_
              refine s_callV (ci := 8) (C := RX8) (As := [zi p2]) (st := []) X (fun a => c_X8_becomeNot l E a p2) gX10_setShape_X8_becomeNot rfl hy_X8_becomeNot rfl rfl rfl rfl (Nat.le_of_ble_eq_true rfl) (by decide) dX10_setShape_108 (fun _ M => ?_)
              refine s_iconst X 1 dX10_setShape_111 (by decide) ?_
              exact s_retb X hr dX10_setShape_112
            · refine s_iconst X 0 dX10_setShape_104 (by decide) ?_
              exact s_retb X hr dX10_setShape_105
          · refine s_by (fun h21 => ?_) (fun h21 => ?_)
            · refine s_tabIn X 4 113 h21 dX10_setShape_1 (by decide) (by decide) (by decide) trivial ?_
              refine s_aload_n X dX10_setShape_113 1 rfl ?_
              refine s_iload_n X dX10_setShape_114 3 rfl ?_
              refine s_ldc X 65535 dX10_setShape_115 (by decide +kernel) ?_
              refine s_iand X dX10_setShape_117 ?_
              refine s_callV (ci := 8) (C := RX8) (As := [zi (p2 &&& 65535)]) (st := []) X (fun a => c_X8_becomeAmong l E a (p2 &&& 65535)) gX10_setShape_X8_becomeAmong rfl hy_X8_becomeAmong rfl rfl rfl rfl (Nat.le_of_ble_eq_true rfl) (by decide) dX10_setShape_118 (fun _ M => ?_)
              refine s_iconst X 1 dX10_setShape_121 (by decide) ?_
              exact s_retb X hr dX10_setShape_122
            · refine s_tabOut X 123 dX10_setShape_1 (by have := lv_neT h1 (show ((-1) : Int32).toInt = -1 by decide); have := lv_neT h3 (show (0 : Int32).toInt = 0 by decide); have := lv_neT h5 (show (1 : Int32).toInt = 1 by decide); have := lv_neT h11 (show (2 : Int32).toInt = 2 by decide); have := lv_neT h17 (show (3 : Int32).toInt = 3 by decide); have := lv_neT h21 (show (4 : Int32).toInt = 4 by decide); omega) (by decide) ?_
              refine s_iconst X 0 dX10_setShape_123 (by decide) ?_
              exact s_retb X hr dX10_setShape_124
theorem hy_X9_noteShapes : yX9_noteShapes.cls = RX9 ∧ yX9_noteShapes.cls ≠ "java/lang/invoke/MethodHandle" ∧ yX9_noteShapes.cls ≠ "java/lang/invoke/VarHandle" ∧ (parseMethodDescriptor yX9_noteShapes.desc).map (fun d => d.parameters.length) = some 0 := by decide +kernel
set_option maxHeartbeats 4000000 in
set_option maxRecDepth 100000 in
theorem c_X9_noteShapes (l : Launch) (E : zE) (a0 : Nat) : z_Met l E yX9_noteShapes wsX9_noteShapes 0 0 [za ((some a0))] z_rv (F_X9_noteShapes a0) := by
  refine z_of (own := RX9) (cc := cX9_noteShapes) (maxL := 1) (rt := none) rfl (by decide) rfl (Nat.le_of_ble_eq_true rfl) ?_
  intro p e R s0 m args below meth c M0 fin X hr hnm
  have hiX9 : ∀ w ∈ u_ws RX9 TX9 7, w ∈ wsX9_noteShapes := by decide +kernel
  have hl30 : Cond.fieldLink RX9 30 (TX9 5).1 (TX9 5).2.1 (TX9 5).2.2.1 ∈ wsX9_noteShapes := by decide +kernel
  have hl34 : Cond.fieldLink RX9 34 (TX9 6).1 (TX9 6).2.1 (TX9 6).2.2.1 ∈ wsX9_noteShapes := by decide +kernel
  refine s_aload_n X dX9_noteShapes_0 0 rfl ?_
  refine s_iconst X 1 dX9_noteShapes_1 (by decide) ?_
  refine s_pf (x := zi (1)) X (C := RX9) (T := TX9) (N := 7) rfl (by decide) hiX9 tyX9 tyX9_ok nmX9 hl30 (Or.inl rfl) rfl (fun E => ⟨rfl, rfl⟩) dX9_noteShapes_2 (fun M => ?_)
  refine s_aload_n X dX9_noteShapes_5 0 rfl ?_
  refine s_iconst X 1 dX9_noteShapes_6 (by decide) ?_
  refine s_pf (x := zi (1)) X (C := RX9) (T := TX9) (N := 7) rfl (by decide) hiX9 tyX9 tyX9_ok nmX9 hl34 (Or.inl rfl) rfl (fun E => ⟨rfl, rfl⟩) dX9_noteShapes_7 (fun M => ?_)
  exact s_retv X hr dX9_noteShapes_10
theorem hy_X10_shape : yX10_shape.cls = RX10 ∧ yX10_shape.cls ≠ "java/lang/invoke/MethodHandle" ∧ yX10_shape.cls ≠ "java/lang/invoke/VarHandle" ∧ (parseMethodDescriptor yX10_shape.desc).map (fun d => d.parameters.length) = some 5 := by decide +kernel
set_option maxHeartbeats 4000000 in
set_option maxRecDepth 100000 in
theorem c_X10_shape (l : Launch) (E : zE) (a0 : Nat) (p0 : Int32) (p1 : Int32) (p2 : Int32) (p3 : Int32) (p4 : Int32) : z_Met l E yX10_shape wsX10_shape 4 93 [za ((some a0)), zi p0, zi p1, zi p2, zi p3, zi p4] z_ri (F_X10_shape a0 p0 p1 p2 p3 p4) := by
  refine z_of (own := RX10) (cc := cX10_shape) (maxL := 6) (rt := (some .int)) rfl (by decide) rfl (Nat.le_of_ble_eq_true rfl) ?_
  intro p e R s0 m args below meth c M0 fin X hr hnm
  have hiX10 : ∀ w ∈ u_ws RX10 TX10 5, w ∈ wsX10_shape := by decide +kernel
  have hl30 : Cond.fieldLink RX10 30 (TX10 2).1 (TX10 2).2.1 (TX10 2).2.2.1 ∈ wsX10_shape := by decide +kernel
  have hl49 : Cond.fieldLink RX10 49 (TX10 4).1 (TX10 4).2.1 (TX10 4).2.2.1 ∈ wsX10_shape := by decide +kernel
  have J26 : ∀ (M : zM), z_S p l e R s0 m args below meth c (z_Qm E below args s0 M0 z_ri fin) E 6 M0 fin M 26 [] [] (F_X10_shape_26 a0) := by
    intro M
    refine s_iconst X (-1) dX10_shape_26 (by decide) ?_
    exact s_ret X hr dX10_shape_27
  refine s_iload_n X dX10_shape_0 1 rfl ?_
  refine s_callS (As := [zi p0]) (st := []) X (c_X10_isShape l E p0) gX10_shape_X10_isShape rfl hy_X10_isShape rfl rfl (Nat.le_of_ble_eq_true rfl) (by decide) dX10_shape_1 (fun x1 M => ?_)
  refine s_if_eq X 26 dX10_shape_4 (by decide) (fun h2 => ?_) (fun h2 => ?_)
  · refine s_lv [] [] rfl ?_
    exact J26 _
  · refine s_aload_n X dX10_shape_7 0 rfl ?_
    refine s_aload_n X dX10_shape_8 0 rfl ?_
    refine s_ga X (C := RX10) (T := TX10) (N := 5) rfl (by decide) hiX10 hl30 dX10_shape_9 (fun r3 => ?_)
    refine s_iload_n X dX10_shape_12 1 rfl ?_
    refine s_la X dX10_shape_13 (fun r4 => ?_)
    refine s_iload_n X dX10_shape_14 2 rfl ?_
    refine s_iload_n X dX10_shape_15 3 rfl ?_
    refine s_iload X dX10_shape_16 4 rfl ?_
    refine s_iload X dX10_shape_18 5 rfl ?_
    refine s_callV (ci := 10) (C := RX10) (As := [za r4, zi p1, zi p2, zi p3, zi p4]) (st := []) X (fun a => c_X10_setShape l E a r4 p1 p2 p3 p4) gX10_shape_X10_setShape rfl hy_X10_setShape rfl rfl rfl rfl (Nat.le_of_ble_eq_true rfl) (by decide) dX10_shape_20 (fun x5 M => ?_)
    refine s_if_ne X 28 dX10_shape_23 (by decide) (fun h7 => ?_) (fun h7 => ?_)
    · refine s_aload_n X dX10_shape_28 0 rfl ?_
      refine s_ga X (C := RX10) (T := TX10) (N := 5) rfl (by decide) hiX10 hl49 dX10_shape_29 (fun r8 => ?_)
      refine s_callV (ci := 9) (C := RX9) (As := []) (st := []) X (fun a => c_X9_noteShapes l E a) gX10_shape_X9_noteShapes rfl hy_X9_noteShapes rfl rfl rfl rfl (Nat.le_of_ble_eq_true rfl) (by decide) dX10_shape_32 (fun _ M => ?_)
      refine s_iconst X 1 dX10_shape_35 (by decide) ?_
      exact s_ret X hr dX10_shape_36
    · refine s_lv [] [] rfl ?_
      exact J26 _
theorem hy_X10_ways : yX10_ways.cls = RX10 ∧ yX10_ways.cls ≠ "java/lang/invoke/MethodHandle" ∧ yX10_ways.cls ≠ "java/lang/invoke/VarHandle" ∧ (parseMethodDescriptor yX10_ways.desc).map (fun d => d.parameters.length) = some 2 := by decide +kernel
set_option maxHeartbeats 4000000 in
set_option maxRecDepth 100000 in
theorem c_X10_ways (l : Launch) (E : zE) (a0 : Nat) (p0 : Int32) (p1 : Int32) : z_Met l E yX10_ways wsX10_ways 7 180 [za ((some a0)), zi p0, zi p1] z_ri (F_X10_ways a0 p0 p1) := by
  refine z_of (own := RX10) (cc := cX10_ways) (maxL := 3) (rt := (some .int)) rfl (by decide) rfl (Nat.le_of_ble_eq_true rfl) ?_
  intro p e R s0 m args below meth c M0 fin X hr hnm
  have hiX10 : ∀ w ∈ u_ws RX10 TX10 5, w ∈ wsX10_ways := by decide +kernel
  have hiX9 : ∀ w ∈ u_ws RX9 TX9 7, w ∈ wsX10_ways := by decide +kernel
  have hl49 : Cond.fieldLink RX10 49 (TX10 4).1 (TX10 4).2.1 (TX10 4).2.2.1 ∈ wsX10_ways := by decide +kernel
  have hl40 : Cond.fieldLink RX10 40 (TX10 3).1 (TX10 3).2.1 (TX10 3).2.2.1 ∈ wsX10_ways := by decide +kernel
  have hl30 : Cond.fieldLink RX10 30 (TX10 2).1 (TX10 2).2.1 (TX10 2).2.2.1 ∈ wsX10_ways := by decide +kernel
  have hl101 : Cond.fieldLink RX10 101 (TX9 3).1 (TX9 3).2.1 (TX9 3).2.2.1 ∈ wsX10_ways := by decide +kernel
  have J53 : ∀ (s_0 : Int32) (M : zM), z_S p l e R s0 m args below meth c (z_Qm E below args s0 M0 z_ri fin) E 3 M0 fin M 53 [] [zi s_0] (F_X10_ways_53 a0 s_0) := by
    intro s_0 M
    exact s_ret X hr dX10_ways_53
  have J15 : ∀ (M : zM), z_S p l e R s0 m args below meth c (z_Qm E below args s0 M0 z_ri fin) E 3 M0 fin M 15 [] [] (F_X10_ways_15 a0) := by
    intro M
    refine s_iconst X (-1) dX10_ways_15 (by decide) ?_
    exact s_ret X hr dX10_ways_16
  refine s_iload_n X dX10_ways_0 1 rfl ?_
  refine s_callS (As := [zi p0]) (st := []) X (c_X10_isNode l E p0) gX10_ways_X10_isNode rfl hy_X10_isNode rfl rfl (Nat.le_of_ble_eq_true rfl) (by decide) dX10_ways_1 (fun x1 M => ?_)
  refine s_if_eq X 15 dX10_ways_4 (by decide) (fun h2 => ?_) (fun h2 => ?_)
  · refine s_lv [] [] rfl ?_
    exact J15 _
  · refine s_aload_n X dX10_ways_7 0 rfl ?_
    refine s_iload_n X dX10_ways_8 2 rfl ?_
    refine s_callV (ci := 10) (C := RX10) (As := [zi p1]) (st := []) X (fun a => c_X10_isBare l E a p1) gX10_ways_X10_isBare rfl hy_X10_isBare rfl rfl rfl rfl (Nat.le_of_ble_eq_true rfl) (by decide) dX10_ways_9 (fun x3 M => ?_)
    refine s_if_ne X 17 dX10_ways_12 (by decide) (fun h5 => ?_) (fun h5 => ?_)
    · refine s_aload_n X dX10_ways_17 0 rfl ?_
      refine s_ga X (C := RX10) (T := TX10) (N := 5) rfl (by decide) hiX10 hl49 dX10_ways_18 (fun r6 => ?_)
      refine s_callV (ci := 9) (C := RX9) (As := []) (st := []) X (fun a => c_X9_settled l E a) gX10_ways_X9_settled rfl hy_X9_settled rfl rfl rfl rfl (Nat.le_of_ble_eq_true rfl) (by decide) dX10_ways_21 (fun x7 M => ?_)
      refine s_if_eq X 51 dX10_ways_24 (by decide) (fun h9 => ?_) (fun h9 => ?_)
      · refine s_bipush X (-3) dX10_ways_51 (by decide) ?_
        refine s_lv [] [] rfl ?_
        exact J53 ((-3)) _
      · refine s_aload_n X dX10_ways_27 0 rfl ?_
        refine s_ga X (C := RX10) (T := TX10) (N := 5) rfl (by decide) hiX10 hl40 dX10_ways_28 (fun r10 => ?_)
        refine s_iload_n X dX10_ways_31 1 rfl ?_
        refine s_aload_n X dX10_ways_32 0 rfl ?_
        refine s_ga X (C := RX10) (T := TX10) (N := 5) rfl (by decide) hiX10 hl30 dX10_ways_33 (fun r11 => ?_)
        refine s_iload_n X dX10_ways_36 2 rfl ?_
        refine s_la X dX10_ways_37 (fun r12 => ?_)
        refine s_aload_n X dX10_ways_38 0 rfl ?_
        refine s_ga X (C := RX10) (T := TX10) (N := 5) rfl (by decide) hiX10 hl49 dX10_ways_39 (fun r13 => ?_)
        refine s_ga X (C := RX9) (T := TX9) (N := 7) rfl (by decide) hiX9 hl101 dX10_ways_42 (fun r14 => ?_)
        refine s_callV (ci := 6) (C := RX6) (As := [zi p0, za r12, za r14]) (st := []) X (fun a => c_X6_countWays l E a p0 r12 r14) gX10_ways_X6_countWays rfl hy_X6_countWays rfl rfl rfl rfl (Nat.le_of_ble_eq_true rfl) (by decide) dX10_ways_45 (fun x15 M => ?_)
        refine s_goto X 53 dX10_ways_48 (by decide) ?_
        refine s_lv [] [] rfl ?_
        exact J53 x15 _
    · refine s_lv [] [] rfl ?_
      exact J15 _
theorem hy_X10_wrong : yX10_wrong.cls = RX10 ∧ yX10_wrong.cls ≠ "java/lang/invoke/MethodHandle" ∧ yX10_wrong.cls ≠ "java/lang/invoke/VarHandle" ∧ (parseMethodDescriptor yX10_wrong.desc).map (fun d => d.parameters.length) = some 0 := by decide +kernel
set_option maxHeartbeats 4000000 in
set_option maxRecDepth 100000 in
theorem c_X10_wrong (l : Launch) (E : zE) (a0 : Nat) : z_Met l E yX10_wrong wsX10_wrong 3 64 [za ((some a0))] z_ri (F_X10_wrong a0) := by
  refine z_of (own := RX10) (cc := cX10_wrong) (maxL := 1) (rt := (some .int)) rfl (by decide) rfl (Nat.le_of_ble_eq_true rfl) ?_
  intro p e R s0 m args below meth c M0 fin X hr hnm
  have hiX10 : ∀ w ∈ u_ws RX10 TX10 5, w ∈ wsX10_wrong := by decide +kernel
  have hl49 : Cond.fieldLink RX10 49 (TX10 4).1 (TX10 4).2.1 (TX10 4).2.2.1 ∈ wsX10_wrong := by decide +kernel
  refine s_aload_n X dX10_wrong_0 0 rfl ?_
  refine s_ga X (C := RX10) (T := TX10) (N := 5) rfl (by decide) hiX10 hl49 dX10_wrong_1 (fun r1 => ?_)
  refine s_callV (ci := 9) (C := RX9) (As := []) (st := []) X (fun a => c_X9_leastWrong l E a) gX10_wrong_X9_leastWrong rfl hy_X9_leastWrong rfl rfl rfl rfl (Nat.le_of_ble_eq_true rfl) (by decide) dX10_wrong_4 (fun x2 M => ?_)
  exact s_ret X hr dX10_wrong_7
