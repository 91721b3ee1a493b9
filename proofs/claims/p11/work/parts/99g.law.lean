/-! THE LAW's LOOP -/
theorem rd0 {L : Nat} {xs : Nat → Int32} {M : zM} (h : M[0]? = some (fr_c0 L xs)) (hL : L ≤ 3072) {i : Nat} (hi : i < L) {Q : Int32 → zM → Prop} (q : Q (xs i) M) : z_T (z_li (some 0) (Int32.ofNat i)) M Q := by
  refine ht_li h (by decide) (n_nn (by omega)) (x := xs i) ?_ q
  rw [n_cl (by omega), List.getElem?_map, List.getElem?_range hi]
  rfl
theorem wx0 {x : zMn Int32} (hw : z_Gw 0 0 x) {g : Nat → zC} {D : List Nat} {P : zM} (W : WX g D P) (h : z_T x P fun _ P' => WT g D P') : z_T x P fun _ P' => WX g D P' := by
  obtain ⟨r, h1, h2⟩ := h
  refine ⟨r, h1, h2, ?_⟩
  have e1 := x.2 P r h1
  have e2 := hw P r h1
  have e3 := W.2
  have e4 := e1.1
  have e5 := e2.1
  omega
theorem z_one1 : z_one 1 = z_ret 1 := by unfold z_one; exact if_pos rfl
section LW
variable {ih : Option Nat → Option Nat → Option Nat → Option Nat → Int32 → zMn Int32} {L j d : Nat} {xs : Nat → Int32} {S : List Nat} {M : zM} {Q : Int32 → zM → Prop}
/-- a call that is compared with nothing -/
theorem g_keep {x : zMn Int32} (hw : z_Gw 0 0 x) {g : Nat → zC} {D : List Nat} {P : zM} (W : WX g D P) (C : CG S g) (h : z_T x P fun _ P' => WT g D P') : z_T x P fun _ P' => True ∧ ∃ (g' : Nat → zC) (D' : List Nat), WX g' D' P' ∧ (∀ S', S' = S → CG S' g') ∧ D'.length ≤ D.length + 6 := (wx0 hw W h).mono fun _ P' W' => ⟨trivial, g, D, W', fun S' e => by rw [e]; exact C, by omega⟩
theorem lg_same {w : Int64} : lg_cmp w w = 0 := by
  unfold lg_cmp
  simp
theorem law_step (hL : L ≤ 3072) (hj : 6 * j + 6 ≤ L) (hI : LH (fr_c0 L xs) d S (fun S' => S' = S) j M) (hn : ∀ (S' : List Nat) (M' : zM), LH (fr_c0 L xs) d S' (fun S'' => S'' = S') (j + 1) M' → z_T (ih (some 0) (some 2) (some 42) (some 68) (Int32.ofNat (6 * j) + 6)) M' Q) : z_T (B_L_law_23 ih (some 0) (some 2) (some 42) (some 68) (Int32.ofNat (6 * j))) M Q := by
  have h0 := hI.2.2.1
  have h2 := hI.two
  have o1 : Int32.ofNat (6 * j) + 1 = Int32.ofNat (6 * j + 1) := n_s
  have o2 : Int32.ofNat (6 * j) + 2 = Int32.ofNat (6 * j + 2) := by rw [show (2 : Int32) = Int32.ofNat 2 from rfl, n_p]
  have o3 : Int32.ofNat (6 * j) + 3 = Int32.ofNat (6 * j + 3) := by rw [show (3 : Int32) = Int32.ofNat 3 from rfl, n_p]
  have o4 : Int32.ofNat (6 * j) + 4 = Int32.ofNat (6 * j + 4) := by rw [show (4 : Int32) = Int32.ofNat 4 from rfl, n_p]
  have o5 : Int32.ofNat (6 * j) + 5 = Int32.ofNat (6 * j + 5) := by rw [show (5 : Int32) = Int32.ofNat 5 from rfl, n_p]
  unfold B_L_law_23 F_L_law_129 F_L_law_166 F_L_law_490 F_L_law_523 F_L_law_562 F_L_law_565
  simp only [o1, o2, o3, o4, o5]
  refine ht_bd (ht_len h0 ?_)
  rw [List.length_map, List.length_range, if_neg (fun e => by
    have e1 := i_lt.mp e
    have e2 := n_ti (n := L) (by omega)
    have e3 := n_ti (n := 6 * j) (by omega)
    have e4 : (6 : Int32).toInt = 6 := rfl
    have e5 := i_sub (a := Int32.ofNat L) (b := 6) (by omega) (by omega)
    omega)]
  refine ht_bd (rd0 h0 hL (by omega) ?_)
  refine ht_if (fun _ => ?_) (fun _ => ?_)
  · refine ht_bd (rd0 h0 hL (by omega) ?_)
    refine ht_bd (rd0 h0 hL (by omega) ?_)
    refine ht_bd (rd0 h0 hL (by omega) ?_)
    refine ht_bd (rd0 h0 hL (by omega) ?_)
    refine ht_if (fun h4 => ?_) (fun h4 => ?_)
    · refine ht_bd (ht_rc h2 ?_)
      refine h_x (N := nS S (xs (6 * j + 1)) (xs (6 * j + 2)) (xs (6 * j + 3)) 0) (A := fun a => a = aS S (xs (6 * j + 1)) (xs (6 * j + 2)) (xs (6 * j + 3)) 0) (m_F_X10_arc _ _ _ _ _) hI (fun P g D W C => c_arc W hI.1 C fun x g' M' e W' hc => ⟨e, g', D, W', hc, by omega⟩) fun a M1 ha H1 => ?_
      have h1 := H1.2.2.1
      refine ht_bd (rd0 h1 hL (by omega) ?_)
      refine ht_bd (rd0 h1 hL (by omega) ?_)
      refine ht_bd (rd0 h1 hL (by omega) ?_)
      refine ht_bd (rd0 h1 hL (by omega) ?_)
      rw [if_pos h4]
      obtain ⟨o, ho⟩ := H1.ob
      refine ht_bd (ht_rc ho ?_)
      refine h_y (B := fun a _ _ => a = aS S (xs (6 * j + 1)) (xs (6 * j + 2)) (xs (6 * j + 3)) 0) (m_F_X11_arc _ _ _ _ _) (w_F_X11_arc _ _ _ _ _) H1 (fun M2 R => d_arc R H1.1 H1.2.2.2.2.1 (Or.inl rfl) fun S' M' hn hS' R' => ⟨S', rfl, hn, hS', R'⟩) fun b S' P' M2 hB _ _ H2 => ?_
      exact hn S' M2 H2
    · refine ht_bd (ht_rc h2 ?_)
      refine h_x (N := nS S (xs (6 * j + 1)) (xs (6 * j + 2)) (xs (6 * j + 3)) 1) (A := fun a => a = aS S (xs (6 * j + 1)) (xs (6 * j + 2)) (xs (6 * j + 3)) 1) (m_F_X10_arc _ _ _ _ _) hI (fun P g D W C => c_arc W hI.1 C fun x g' M' e W' hc => ⟨e, g', D, W', hc, by omega⟩) fun a M1 ha H1 => ?_
      have h1 := H1.2.2.1
      refine ht_bd (rd0 h1 hL (by omega) ?_)
      refine ht_bd (rd0 h1 hL (by omega) ?_)
      refine ht_bd (rd0 h1 hL (by omega) ?_)
      refine ht_bd (rd0 h1 hL (by omega) ?_)
      rw [if_neg h4]
      obtain ⟨o, ho⟩ := H1.ob
      refine ht_bd (ht_rc ho ?_)
      refine h_y (B := fun a _ _ => a = aS S (xs (6 * j + 1)) (xs (6 * j + 2)) (xs (6 * j + 3)) 1) (m_F_X11_arc _ _ _ _ _) (w_F_X11_arc _ _ _ _ _) H1 (fun M2 R => d_arc R H1.1 H1.2.2.2.2.1 (Or.inr rfl) fun S' M' hn hS' R' => ⟨S', rfl, hn, hS', R'⟩) fun b S' P' M2 hB _ _ H2 => ?_
      exact hn S' M2 H2
  refine ht_if (fun _ => ?_) (fun _ => ?_)
  · refine ht_bd (rd0 h0 hL (by omega) ?_)
    refine ht_bd (rd0 h0 hL (by omega) ?_)
    refine ht_bd (rd0 h0 hL (by omega) ?_)
    refine ht_bd (rd0 h0 hL (by omega) ?_)
    refine ht_bd (ht_rc h2 ?_)
    refine h_x (N := fun S' => S' = S) (A := fun a => True) (m_F_X10_expression _ _ _ _ _) hI (fun P g D W C => c_expr W fun x D' M' W' hl => ⟨trivial, g, D', W', fun S' e => by rw [e]; exact C, hl⟩) fun a M1 ha H1 => ?_
    have h1 := H1.2.2.1
    refine ht_bd (rd0 h1 hL (by omega) ?_)
    refine ht_bd (rd0 h1 hL (by omega) ?_)
    refine ht_bd (rd0 h1 hL (by omega) ?_)
    refine ht_bd (rd0 h1 hL (by omega) ?_)
    obtain ⟨o, ho⟩ := H1.ob
    refine ht_bd (ht_rc ho ?_)
    refine h_y (B := fun a _ _ => True) (m_F_X11_expression _ _ _ _ _) (w_F_X11_expression _ _ _ _ _) H1 (fun M2 R => d_expr R fun v M' R' => ⟨S, trivial, rfl, H1.1, R'⟩) fun b S' P' M2 hB _ _ H2 => ?_
    exact hn S' M2 H2
  refine ht_if (fun _ => ?_) (fun _ => ?_)
  · refine ht_bd (rd0 h0 hL (by omega) ?_)
    refine ht_bd (rd0 h0 hL (by omega) ?_)
    refine ht_bd (rd0 h0 hL (by omega) ?_)
    refine ht_bd (rd0 h0 hL (by omega) ?_)
    refine ht_bd (rd0 h0 hL (by omega) ?_)
    refine ht_bd (ht_rc h2 ?_)
    refine h_x (N := fun S' => S' = S) (A := fun a => True) (m_F_X10_shape _ _ _ _ _ _) hI (fun P g D W C => g_keep (w_F_X10_shape _ _ _ _ _ _) W C (c_shape W.1 fun _ _ W' => W')) fun a M1 ha H1 => ?_
    have h1 := H1.2.2.1
    refine ht_bd (rd0 h1 hL (by omega) ?_)
    refine ht_bd (rd0 h1 hL (by omega) ?_)
    refine ht_bd (rd0 h1 hL (by omega) ?_)
    refine ht_bd (rd0 h1 hL (by omega) ?_)
    refine ht_bd (rd0 h1 hL (by omega) ?_)
    obtain ⟨o, ho⟩ := H1.ob
    refine ht_bd (ht_rc ho ?_)
    refine h_y (B := fun a _ _ => True) (m_F_X11_shape _ _ _ _ _ _) (w_F_X11_shape _ _ _ _ _ _) H1 (fun M2 R => d_shape R fun v M' R' => ⟨S, trivial, rfl, H1.1, R'⟩) fun b S' P' M2 hB _ _ H2 => ?_
    exact hn S' M2 H2
  refine ht_if (fun _ => ?_) (fun _ => ?_)
  · refine ht_bd (rd0 h0 hL (by omega) ?_)
    refine ht_bd (rd0 h0 hL (by omega) ?_)
    refine ht_bd (ht_rc h2 ?_)
    refine h_x (N := fun S' => S' = S) (A := fun a => True) (m_F_X10_has _ _ _) hI (fun P g D W C => g_keep (w_F_X10_has _ _ _) W C (c_has W.1 C.gok fun _ _ W' => W')) fun a M1 ha H1 => ?_
    have h1 := H1.2.2.1
    refine ht_bd (rd0 h1 hL (by omega) ?_)
    refine ht_bd (rd0 h1 hL (by omega) ?_)
    obtain ⟨o, ho⟩ := H1.ob
    refine ht_bd (ht_rc ho ?_)
    refine h_y (B := fun a _ _ => True) (m_F_X11_has _ _ _) (w_F_X11_has _ _ _) H1 (fun M2 R => d_has R H1.1 fun v M' R' => ⟨S, trivial, rfl, H1.1, R'⟩) fun b S' P' M2 hB _ _ H2 => ?_
    exact hn S' M2 H2
  refine ht_if (fun _ => ?_) (fun _ => ?_)
  · refine ht_bd (rd0 h0 hL (by omega) ?_)
    refine ht_bd (ht_rc h2 ?_)
    refine h_x (N := fun S' => S' = S) (A := fun a => True) (m_F_X10_nodes _ _) hI (fun P g D W C => g_keep (w_F_X10_nodes _ _) W C (c_nodes W.1 C.gok fun _ _ W' => W')) fun a M1 ha H1 => ?_
    have h1 := H1.2.2.1
    refine ht_bd (rd0 h1 hL (by omega) ?_)
    obtain ⟨o, ho⟩ := H1.ob
    refine ht_bd (ht_rc ho ?_)
    refine h_y (B := fun a _ _ => True) (m_F_X11_nodes _ _) (w_F_X11_nodes _ _) H1 (fun M2 R => d_nodes R H1.1 fun v M' R' => ⟨S, trivial, rfl, H1.1, R'⟩) fun b S' P' M2 hB _ _ H2 => ?_
    exact hn S' M2 H2
  refine ht_if (fun _ => ?_) (fun _ => ?_)
  · refine ht_bd (ht_rc h2 ?_)
    refine h_x (N := fun S' => S' = S) (A := fun a => True) (m_F_X10_wrong _) hI (fun P g D W C => g_keep (w_F_X10_wrong _) W C (c_wrong W.1 fun _ _ W' => W')) fun a M1 ha H1 => ?_
    have h1 := H1.2.2.1
    obtain ⟨o, ho⟩ := H1.ob
    refine ht_bd (ht_rc ho ?_)
    refine h_y (B := fun a _ _ => True) (m_F_X11_wrong _) (w_F_X11_wrong _) H1 (fun M2 R => d_wrong R H1.1 fun v M' R' => ⟨S, trivial, rfl, H1.1, R'⟩) fun b S' P' M2 hB _ _ H2 => ?_
    exact hn S' M2 H2
  refine ht_if (fun _ => ?_) (fun _ => ?_)
  · refine ht_bd (rd0 h0 hL (by omega) ?_)
    refine ht_bd (rd0 h0 hL (by omega) ?_)
    refine ht_bd (ht_rc h2 ?_)
    refine h_x (N := fun S' => S' = S) (A := fun a => True) (m_F_X10_loose _ _ _) hI (fun P g D W C => g_keep (w_F_X10_loose _ _ _) W C (c_loose W.1 C.gok fun _ _ W' => W')) fun a M1 ha H1 => ?_
    have h1 := H1.2.2.1
    refine ht_bd (rd0 h1 hL (by omega) ?_)
    refine ht_bd (rd0 h1 hL (by omega) ?_)
    obtain ⟨o, ho⟩ := H1.ob
    refine ht_bd (ht_rc ho ?_)
    refine h_y (B := fun a _ _ => True) (m_F_X11_loose _ _ _) (w_F_X11_loose _ _ _) H1 (fun M2 R => d_loose R H1.1 fun v M' R' => ⟨S, trivial, rfl, H1.1, R'⟩) fun b S' P' M2 hB _ _ H2 => ?_
    exact hn S' M2 H2
  refine ht_if (fun _ => ?_) (fun _ => ?_)
  · refine ht_bd (rd0 h0 hL (by omega) ?_)
    refine ht_bd (rd0 h0 hL (by omega) ?_)
    refine ht_bd (ht_rc h2 ?_)
    refine h_x (N := fun S' => S' = S) (A := fun a => True) (m_F_X10_ways _ _ _) hI (fun P g D W C => g_keep (w_F_X10_ways _ _ _) W C (c_ways W.1 C.gok fun _ _ W' => W')) fun a M1 ha H1 => ?_
    have h1 := H1.2.2.1
    refine ht_bd (rd0 h1 hL (by omega) ?_)
    refine ht_bd (rd0 h1 hL (by omega) ?_)
    obtain ⟨o, ho⟩ := H1.ob
    refine ht_bd (ht_rc ho ?_)
    refine h_y (B := fun a _ _ => True) (m_F_X11_ways _ _ _) (w_F_X11_ways _ _ _) H1 (fun M2 R => d_ways R H1.1 fun v M' R' => ⟨S, trivial, rfl, H1.1, R'⟩) fun b S' P' M2 hB _ _ H2 => ?_
    exact hn S' M2 H2
  refine ht_if (fun _ => ?_) (fun _ => ?_)
  · refine ht_bd (ht_rc h2 ?_)
    refine h_x (N := fun S' => S' = S) (A := fun a => a = Int32.ofNat S.length) (m_F_X10_arcs _) hI (fun P g D W C => c_arcs W.1 C ⟨rfl, g, D, W, fun S' e => by rw [e]; exact C, by omega⟩) fun a M1 ha H1 => ?_
    have h1 := H1.2.2.1
    obtain ⟨o, ho⟩ := H1.ob
    refine ht_bd (ht_rc ho ?_)
    refine h_y (B := fun a _ _ => a = Int32.ofNat S.length) (m_F_X11_arcs _) (w_F_X11_arcs _) H1 (fun M2 R => d_arcs R fun M' R' => ⟨S, rfl, rfl, H1.1, R'⟩) fun b S' P' M2 hB _ _ H2 => ?_
    exact hn S' M2 H2
  refine ht_if (fun _ => ?_) (fun _ => hn S M (hI.le (by omega)))
  refine ht_bd (rd0 h0 hL (by omega) ?_)
  refine ht_bd (rd0 h0 hL (by omega) ?_)
  refine ht_if (fun h4 => ?_) (fun h4 => ?_)
  · refine ht_bd (rd0 h0 hL (by omega) ?_)
    refine h_o hI (fun M1 H1 hp => ?_) (fun M1 i key H1 h68 ei hk => ?_)
    · have h1 := H1.2.2.1
      have hK4 := H1.2.2.2.2.2.1 (xs (6 * j + 1)) 0
      refine ht_bd (rd0 h1 hL (by omega) ?_)
      refine ht_bd (rd0 h1 hL (by omega) ?_)
      rw [if_pos h4]
      refine ht_bd (rd0 h1 hL (by omega) ?_)
      obtain ⟨o, ho⟩ := H1.ob
      refine ht_bd (ht_rc ho ?_)
      refine h_y (B := fun a _ P' => ∃ o : List Value, P'[42]? = some (.inr (11, o)) ∧ o[22]? = some (.int 1)) (m_F_X11_other _ _ _ _) (w_F_X11_other _ _ _ _) H1 (fun M2 R => d_other R H1.1 hK4 fun v th M' R' ho hv => ⟨S, ?_, rfl, H1.1, R'⟩) fun a S' P' M2 hB h42 hfr H2 => ?_
      · rcases hv with ⟨e1, -, -⟩ | ⟨-, i2, k2, e2, e3, -⟩
        · rw [e1] at ho; exact ho
        · have hil2 := (List.getElem?_eq_some_iff.mp e3).1
          rcases hp with hp | hp
          · rw [e2] at hp; exact absurd hp (n_nn (by omega))
          · rw [e2] at hp; have := (n_le (by omega) (by omega)).mp hp; omega
      obtain ⟨o2, ho1, ho2⟩ := hB
      have g42 := h42 _ ho1 (fun e => by cases e)
      refine ht_bd (ht_rc g42 ?_)
      refine ht_bd ?_
      unfold F_X11_thrown
      refine ht_bd (ht_gi g42 ho2 ?_)
      refine ht_ret ?_
      rw [if_pos rfl, if_neg (by decide)]
      exact hn S' M2 H2
    · have h1 := H1.2.2.1
      have hK4 := H1.2.2.2.2.2.1 (xs (6 * j + 1)) 0
      refine ht_bd (rd0 h1 hL (by omega) ?_)
      refine ht_bd (rd0 h1 hL (by omega) ?_)
      rw [if_pos h4]
      refine ht_bd (rd0 h1 hL (by omega) ?_)
      obtain ⟨o, ho⟩ := H1.ob
      refine ht_bd (ht_rc ho ?_)
      refine h_y (B := fun a _ P' => a = Int32.ofNat (key % 16) ∧ ∃ o : List Value, P'[42]? = some (.inr (11, o)) ∧ o[22]? = some (.int 0)) (m_F_X11_other _ _ _ _) (w_F_X11_other _ _ _ _) H1 (fun M2 R => d_other R H1.1 hK4 fun v th M' R' ho hv => ⟨S, ?_, rfl, H1.1, R'⟩) fun a S' P' M2 hB h42 hfr H2 => ?_
      · have hil := (List.getElem?_eq_some_iff.mp hk).1
        rcases hv with ⟨-, -, hp | hp⟩ | ⟨e1, i2, k2, e2, e3, e4⟩
        · rw [ei] at hp; exact absurd hp (n_nn (by omega))
        · rw [ei] at hp; have := (n_le (by omega) (by omega)).mp hp; omega
        · have hil2 := (List.getElem?_eq_some_iff.mp e3).1
          have e5 : i2 = i := (n_e (by omega) (by omega)).mp (e2.symm.trans ei)
          subst e5
          rw [hk] at e3
          cases e3
          rw [e1] at ho
          exact ⟨e4, ho⟩
      obtain ⟨rfl, o2, ho1, ho2⟩ := hB
      have g42 := h42 _ ho1 (fun e => by cases e)
      refine ht_bd (ht_rc g42 ?_)
      refine ht_bd ?_
      unfold F_X11_thrown
      refine ht_bd (ht_gi g42 ho2 ?_)
      refine ht_ret ?_
      rw [if_pos rfl, if_pos rfl]
      refine ht_bd (ht_ll ((hfr 68 (by omega)).trans h68) (by decide) rfl ?_)
      rw [if_pos lg_same]
      exact hn S' M2 H2
  · refine ht_bd (rd0 h0 hL (by omega) ?_)
    refine h_o hI (fun M1 H1 hp => ?_) (fun M1 i key H1 h68 ei hk => ?_)
    · have h1 := H1.2.2.1
      have hK4 := H1.2.2.2.2.2.1 (xs (6 * j + 1)) 1
      refine ht_bd (rd0 h1 hL (by omega) ?_)
      refine ht_bd (rd0 h1 hL (by omega) ?_)
      rw [if_neg h4]
      refine ht_bd (rd0 h1 hL (by omega) ?_)
      obtain ⟨o, ho⟩ := H1.ob
      refine ht_bd (ht_rc ho ?_)
      refine h_y (B := fun a _ P' => ∃ o : List Value, P'[42]? = some (.inr (11, o)) ∧ o[22]? = some (.int 1)) (m_F_X11_other _ _ _ _) (w_F_X11_other _ _ _ _) H1 (fun M2 R => d_other R H1.1 hK4 fun v th M' R' ho hv => ⟨S, ?_, rfl, H1.1, R'⟩) fun a S' P' M2 hB h42 hfr H2 => ?_
      · rcases hv with ⟨e1, -, -⟩ | ⟨-, i2, k2, e2, e3, -⟩
        · rw [e1] at ho; exact ho
        · have hil2 := (List.getElem?_eq_some_iff.mp e3).1
          rcases hp with hp | hp
          · rw [e2] at hp; exact absurd hp (n_nn (by omega))
          · rw [e2] at hp; have := (n_le (by omega) (by omega)).mp hp; omega
      obtain ⟨o2, ho1, ho2⟩ := hB
      have g42 := h42 _ ho1 (fun e => by cases e)
      refine ht_bd (ht_rc g42 ?_)
      refine ht_bd ?_
      unfold F_X11_thrown
      refine ht_bd (ht_gi g42 ho2 ?_)
      refine ht_ret ?_
      rw [if_pos rfl, if_neg (by decide)]
      exact hn S' M2 H2
    · have h1 := H1.2.2.1
      have hK4 := H1.2.2.2.2.2.1 (xs (6 * j + 1)) 1
      refine ht_bd (rd0 h1 hL (by omega) ?_)
      refine ht_bd (rd0 h1 hL (by omega) ?_)
      rw [if_neg h4]
      refine ht_bd (rd0 h1 hL (by omega) ?_)
      obtain ⟨o, ho⟩ := H1.ob
      refine ht_bd (ht_rc ho ?_)
      refine h_y (B := fun a _ P' => a = Int32.ofNat (key % 16) ∧ ∃ o : List Value, P'[42]? = some (.inr (11, o)) ∧ o[22]? = some (.int 0)) (m_F_X11_other _ _ _ _) (w_F_X11_other _ _ _ _) H1 (fun M2 R => d_other R H1.1 hK4 fun v th M' R' ho hv => ⟨S, ?_, rfl, H1.1, R'⟩) fun a S' P' M2 hB h42 hfr H2 => ?_
      · have hil := (List.getElem?_eq_some_iff.mp hk).1
        rcases hv with ⟨-, -, hp | hp⟩ | ⟨e1, i2, k2, e2, e3, e4⟩
        · rw [ei] at hp; exact absurd hp (n_nn (by omega))
        · rw [ei] at hp; have := (n_le (by omega) (by omega)).mp hp; omega
        · have hil2 := (List.getElem?_eq_some_iff.mp e3).1
          have e5 : i2 = i := (n_e (by omega) (by omega)).mp (e2.symm.trans ei)
          subst e5
          rw [hk] at e3
          cases e3
          rw [e1] at ho
          exact ⟨e4, ho⟩
      obtain ⟨rfl, o2, ho1, ho2⟩ := hB
      have g42 := h42 _ ho1 (fun e => by cases e)
      refine ht_bd (ht_rc g42 ?_)
      refine ht_bd ?_
      unfold F_X11_thrown
      refine ht_bd (ht_gi g42 ho2 ?_)
      refine ht_ret ?_
      rw [if_pos rfl, if_pos rfl]
      refine ht_bd (ht_ll ((hfr 68 (by omega)).trans h68) (by decide) rfl ?_)
      rw [if_pos lg_same]
      exact hn S' M2 H2
theorem law_loop (hL : L ≤ 3072) {d : Nat} {M : zM} (hI : LH (fr_c0 L xs) d [] (fun S' => S' = []) 0 M) : z_T (F_L_law_23 z_N (some 0, some 2, some 42, some 68, 0)) M fun _ M' => M'.length ≤ 69 + 6 * 512 ∧ zsz M' ≤ 220800 + 3150 * 512 + d := by
  unfold F_L_law_23
  refine ht_fix (body := fun ih s => B_L_law_23 (fun y0 y1 y2 y3 y4 => ih (y0, y1, y2, y3, y4)) s.1 s.2.1 s.2.2.1 s.2.2.2.1 s.2.2.2.2) (I := fun n st M' => ∃ (j : Nat) (S : List Nat), st = (some 0, some 2, some 42, some 68, Int32.ofNat (6 * j)) ∧ n + j = 512 ∧ 6 * j ≤ L ∧ LH (fr_c0 L xs) d S (fun S' => S' = S) j M') ?_ z_N 512 _ M (by decide) ⟨0, [], rfl, by omega, by omega, hI⟩
  intro n st M1 ih hI1 hih
  obtain ⟨j, S, rfl, hnj, hjL, H⟩ := hI1
  dsimp only
  by_cases hj : 6 * j + 6 ≤ L
  · refine law_step hL hj H fun S' M' H' => ?_
    refine hih (n - 1) _ _ (by omega) ⟨j + 1, S', ?_, by omega, by omega, H'⟩
    rw [show (6 : Int32) = Int32.ofNat 6 from rfl, n_p, Nat.mul_succ]
  · have hr := H.room
    unfold B_L_law_23
    refine ht_bd (ht_len H.2.2.1 ?_)
    rw [List.length_map, List.length_range, if_pos (by
      have e2 := n_ti (n := L) (by omega)
      have e3 := n_ti (n := 6 * j) (by omega)
      have e4 : (6 : Int32).toInt = 6 := rfl
      have e5 := i_sub (a := Int32.ofNat L) (b := 6) (by omega) (by omega)
      exact i_lt.mpr (by omega)), z_one1]
    exact ht_ret ⟨by omega, by omega⟩
end LW
theorem law_pure : LawPure := by
  intro L xs hL
  obtain ⟨r, h1, h2, h3⟩ := st_ctor hL (Q := fun _ M' => M'.length ≤ 69 + 6 * 512 ∧ zsz M' ≤ 220800 + 3150 * 512 + 400000) (fun M d hd h => (law_loop hL h).mono fun a M' hq => ⟨hq.1, by have := hq.2; omega⟩)
  exact ⟨r, h1, by omega, by omega⟩
theorem i_vc : Claimed_1_1 ∧ Claimed_1_2 := i_vc_of law_pure
