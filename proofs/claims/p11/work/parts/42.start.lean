/-! THE LAW's START: the pure memory beside the machine's heap, what the tables say -/
def zP : List Value := [.int 1, .int 5, .int 25, .int 125, .int 625, .int 3125]
def zM0 (L : Nat) (xs : Nat → Int32) : zM := [.inl (1, (List.range L).map fun j => .int (xs j)), .inl (2, zP)]
theorem z_tw_in : ∀ w ∈ z_tw, w ∈ lw_tbl := by decide +kernel
theorem z_nws_in : ∀ q ∈ z_nws, Cond.methodLinkNest q.1 q.2.1 q.2.2.1 q.2.2.2 ∈ lw_tbl := by decide +kernel
theorem z_aos_in : ∀ C ∈ z_aos, Cond.arrayOver (.object C) ∈ lw_tbl := by decide +kernel
theorem z_cst_in : ∀ q ∈ z_cst, Cond.castable q.1 q.2 ∈ lw_tbl := by decide +kernel
theorem z_cls {s : State} {A : Array Value} (hts : ∀ w ∈ lw_tbl, w.before A s = true) : ∃ d : Nat → ClassId × (Nat → Nat), ∀ (k : Nat) (q : vw_C), vwCl[k]? = some q → u_Kn s q.1 q.2.1 q.2.2 (d k).1 (d k).2 := by
  have h0 : ∀ k : Nat, ∃ d : ClassId × (Nat → Nat), ∀ q : vw_C, vwCl[k]? = some q → u_Kn s q.1 q.2.1 q.2.2 d.1 d.2 := by
    intro k
    match k with
    | 0 =>
      obtain ⟨cC, iS, h⟩ := u_known (C := RJx00060) (T := TJx00060) (N := 6) (n := 6) hts inJx00060 (hts (.instantiable RJx00060 6) (by decide +kernel))
      exact ⟨(cC, iS), fun q hq => by cases hq; exact h⟩
    | 1 =>
      obtain ⟨cC, iS, h⟩ := u_known (C := RX0) (T := TX0) (N := 2) (n := 2) hts inX0 (hts (.instantiable RX0 2) (by decide +kernel))
      exact ⟨(cC, iS), fun q hq => by cases hq; exact h⟩
    | 2 =>
      obtain ⟨cC, iS, h⟩ := u_known (C := RX2) (T := TX2) (N := 4) (n := 4) hts inX2 (hts (.instantiable RX2 4) (by decide +kernel))
      exact ⟨(cC, iS), fun q hq => by cases hq; exact h⟩
    | 3 =>
      obtain ⟨cC, iS, h⟩ := u_known (C := RX3) (T := TX3) (N := 6) (n := 6) hts inX3 (hts (.instantiable RX3 6) (by decide +kernel))
      exact ⟨(cC, iS), fun q hq => by cases hq; exact h⟩
    | 4 =>
      obtain ⟨cC, iS, h⟩ := u_known (C := RX4) (T := TX4) (N := 3) (n := 3) hts inX4 (hts (.instantiable RX4 3) (by decide +kernel))
      exact ⟨(cC, iS), fun q hq => by cases hq; exact h⟩
    | 5 =>
      obtain ⟨cC, iS, h⟩ := u_known (C := RX5) (T := TX5) (N := 3) (n := 3) hts inX5 (hts (.instantiable RX5 3) (by decide +kernel))
      exact ⟨(cC, iS), fun q hq => by cases hq; exact h⟩
    | 6 =>
      obtain ⟨cC, iS, h⟩ := u_known (C := RX6) (T := TX6) (N := 5) (n := 5) hts inX6 (hts (.instantiable RX6 5) (by decide +kernel))
      exact ⟨(cC, iS), fun q hq => by cases hq; exact h⟩
    | 7 =>
      obtain ⟨cC, iS, h⟩ := u_known (C := RX7) (T := TX7) (N := 4) (n := 4) hts inX7 (hts (.instantiable RX7 4) (by decide +kernel))
      exact ⟨(cC, iS), fun q hq => by cases hq; exact h⟩
    | 8 =>
      obtain ⟨cC, iS, h⟩ := u_known (C := RX8) (T := TX8) (N := 7) (n := 7) hts inX8 (hts (.instantiable RX8 7) (by decide +kernel))
      exact ⟨(cC, iS), fun q hq => by cases hq; exact h⟩
    | 9 =>
      obtain ⟨cC, iS, h⟩ := u_known (C := RX9) (T := TX9) (N := 7) (n := 7) hts inX9 (hts (.instantiable RX9 7) (by decide +kernel))
      exact ⟨(cC, iS), fun q hq => by cases hq; exact h⟩
    | 10 =>
      obtain ⟨cC, iS, h⟩ := u_known (C := RX10) (T := TX10) (N := 5) (n := 5) hts inX10 (hts (.instantiable RX10 5) (by decide +kernel))
      exact ⟨(cC, iS), fun q hq => by cases hq; exact h⟩
    | 11 =>
      obtain ⟨cC, iS, h⟩ := u_known (C := RX11) (T := TX11) (N := 32) (n := 32) hts inX11 (hts (.instantiable RX11 32) (by decide +kernel))
      exact ⟨(cC, iS), fun q hq => by cases hq; exact h⟩
    | k + 12 => exact ⟨(0, fun _ => 0), fun q hq => by simp [vwCl] at hq⟩
  exact Classical.axiomOfChoice h0
theorem z_arrI {s : State} {A : Array Value} {ty : FieldType} (h : (Cond.arrayClass ty).before A s = true) : ∃ cA, ArrOfT s cA ty ∧ s.vm.findClass ("[" ++ ty.toString) = some cA := by
  obtain ⟨c, k, comp, h1, h2, h3⟩ := Cond.arrayClass_spec h
  exact ⟨c, fun n z => ⟨(fun q h => by cases h), k, h2, comp, h3⟩, h1⟩
theorem z_arrO {s : State} {A : Array Value} {C : String} (h : (Cond.arrayOver (.object C)).before A s = true) : ∃ cA, ArrOfT s cA (.object C) ∧ va_RA s cA (.object C) := by
  obtain ⟨comp, c, k, h1, -, h2, h3, h4⟩ := Cond.arrayOver_spec h
  exact ⟨c, fun n z => ⟨(fun q h => by cases h), k, h2, comp, h3⟩, k, comp, h2, h3, h1, h4⟩
theorem z_arrC {s : State} {cell : Cell} {ty : FieldType} (h : s.isArrayOf cell ty) : ArrOfT s cell.cls ty := fun _ _ => ⟨(fun q h => by cases h), h.2⟩
set_option maxHeartbeats 4000000 in
theorem z_start {p : Program} {s : State} {m : MethodId} {meth : Method} {c : Code} {b L : Nat} {xs : Nat → Int32} (C0 : lw_At p s m meth c b L xs) : ∃ E : zE, E.2.1 = s.heap.size ∧ E.1.getD 0 0 = b ∧ z_K E s ∧ z_ok E (zM0 L xs) s.heap := by
  obtain ⟨-, -, -, -, -, hts, hX, hbl, -, hgv⟩ := C0
  have hs := flat_of_before _ hgv
  obtain ⟨d, hd⟩ := z_cls hts
  obtain ⟨pw, hpw, hT⟩ := va_Tof (args := #[Value.ref b]) (s := s) (tm := .static "ShexMatch$Bag" "POWERS" "[I") (ty := .int) (N := 6) (f := fun j => zP.getD j .null) (A := fun a => s.heap.size ≤ a) (by decide) (hs _ (by decide +kernel)) (va_eqt (hs (.eq (.length (.static "ShexMatch$Bag" "POWERS" "[I")) (.int 6)) (by decide +kernel)))
    (fun j hj => by
      rcases z_lt6 hj with rfl | rfl | rfl | rfl | rfl | rfl
      · exact va_eqt (z := 1) (hs _ (by decide +kernel))
      · exact va_eqt (z := 5) (hs _ (by decide +kernel))
      · exact va_eqt (z := 25) (hs _ (by decide +kernel))
      · exact va_eqt (z := 125) (hs _ (by decide +kernel))
      · exact va_eqt (z := 625) (hs _ (by decide +kernel))
      · exact va_eqt (z := 3125) (hs _ (by decide +kernel))) (fun a h => Nat.not_le.mpr h)
  obtain ⟨cP, hP1, hP2, hP3, hP4, hP5, hP6, hP7⟩ := hT
  obtain ⟨scr, hS1, hS2, hS3, hS4, hS5⟩ := hX
  obtain ⟨cI, hI1, hI2⟩ := z_arrI (hts (.arrayClass .int) (by decide +kernel))
  obtain ⟨cJ, hJ1, hJ2⟩ := z_arrI (hts (.arrayClass .long) (by decide +kernel))
  obtain ⟨cZ, hZ1, hZ2⟩ := z_arrI (hts (.arrayClass .boolean) (by decide +kernel))
  obtain ⟨c11, h11, r11⟩ := z_arrO (C := "ShexMatch$Expression") (hts _ (by decide +kernel))
  obtain ⟨c15, h15, r15⟩ := z_arrO (C := "ShexMatch$Place") (hts _ (by decide +kernel))
  obtain ⟨c16, h16, r16⟩ := z_arrO (C := "ShexMatch$Shape") (hts _ (by decide +kernel))
  refine ⟨([b, pw], s.heap.size, (fun k => (d k).1), (fun k => (d k).2), fun k => if k = 0 then cI else if k = 1 then scr.cls else if k = 2 then cP.cls else if k = 3 then cJ else if k = 4 then cZ else if k = 11 then c11 else if k = 15 then c15 else c16), rfl, rfl, ?_, ?_⟩
  · refine ⟨⟨rfl, ?_⟩, hd, ?_, ?_, ?_, ?_, ?_, ?_, ?_, ?_⟩
    · intro a ha
      rcases List.mem_cons.mp ha with rfl | ha
      · exact hbl
      · rcases List.mem_cons.mp ha with rfl | ha
        · exact Nat.not_le.mp hP7
        · cases ha
    · intro k ty hk ht
      have hk' : k = 0 ∨ k = 1 ∨ k = 2 ∨ k = 3 ∨ k = 4 ∨ k = 11 ∨ k = 15 ∨ k = 16 := by simpa [z_ks] using hk
      rcases hk' with rfl | rfl | rfl | rfl | rfl | rfl | rfl | rfl
      · cases ht; exact ⟨hI1, fun _ _ => hI2⟩
      · cases ht; exact ⟨z_arrC hS2, fun h => absurd rfl h⟩
      · cases ht; exact ⟨z_arrC hP2, fun _ h => absurd rfl h⟩
      · cases ht; exact ⟨hJ1, fun _ _ => hJ2⟩
      · cases ht; exact ⟨hZ1, fun _ _ => hZ2⟩
      · cases ht; exact ⟨h11, fun _ _ => r11⟩
      · cases ht; exact ⟨h15, fun _ _ => r15⟩
      · cases ht; exact ⟨h16, fun _ _ => r16⟩
    · intro q hq
      rcases List.mem_cons.mp hq with rfl | hq
      · exact va_Zref (args := #[Value.ref b]) (hts _ (by decide +kernel)) (hts _ (by decide +kernel)) hpw (fun a h => Nat.not_le.mpr h)
      · cases hq
    · intro q hq
      exact va_tabs rfl rfl (hts _ (z_nws_in q hq))
    · intro C hC
      exact va_AO.of (hts _ (z_aos_in C hC))
    · intro q hq
      exact va_tabs rfl rfl (hts _ (z_cst_in q hq))
    · intro w hw
      have ht : ∀ w ∈ z_tw, w.onTables = true := by decide +kernel
      exact va_tabs (ht w hw) rfl (hts _ (z_tw_in w hw))
    · intro q hq
      rcases List.mem_cons.mp hq with rfl | hq
      · obtain ⟨a, -, -, -, q1, -⟩ := Cond.exactly_spec (args := #[Value.ref b]) (first := s) (o := none) (s := s) (idx := []) (t := .string "ShexMatch" 124) (cls := "java/lang/String") (hs _ (by decide +kernel))
        exact ⟨a, vk_R.of (A := #[Value.ref b]) (hts (.stringRef "ShexMatch" 124 "no such node") (by decide +kernel)) q1⟩
      · rcases List.mem_cons.mp hq with rfl | hq
        · obtain ⟨a, -, -, -, q1, -⟩ := Cond.exactly_spec (args := #[Value.ref b]) (first := s) (o := none) (s := s) (idx := []) (t := .string "ShexMatch" 142) (cls := "java/lang/String") (hs _ (by decide +kernel))
          exact ⟨a, vk_R.of (A := #[Value.ref b]) (hts (.stringRef "ShexMatch" 142 "no such arc") (by decide +kernel)) q1⟩
        · cases hq
    · intro q hq
      rcases List.mem_cons.mp hq with rfl | hq
      · exact ⟨va_Zqof (args := #[Value.ref b]) (hts _ (by decide +kernel)) (hts _ (by decide +kernel)) (hs _ (by decide +kernel)) (fun a h => Nat.not_le.mpr h), z_lsA (hts _ (by decide +kernel))⟩
      · rcases List.mem_cons.mp hq with rfl | hq
        · exact ⟨va_Zqof (args := #[Value.ref b]) (hts _ (by decide +kernel)) (hts _ (by decide +kernel)) (hs _ (by decide +kernel)) (fun a h => Nat.not_le.mpr h), z_lsA (hts _ (by decide +kernel))⟩
        · cases hq
  · refine ⟨Nat.le_refl _, rfl, fun i cc hi => ?_⟩
    match i, hi with
    | 0, hi =>
      cases hi
      refine ⟨(show (1 : Nat) ∈ z_ks by decide), scr, hS1, rfl, hS3, hS2.1, (z_ct_ne (k := 1) (by decide)).mpr ?_⟩
      apply List.ext_getElem?
      intro j
      rw [Array.getElem?_toList]
      by_cases hj : j < L
      · rw [hS5 j hj]
        simp [hj, z_sh]
      · rw [Array.getElem?_eq_none (by omega)]
        simp [hj]
    | 1, hi =>
      cases hi
      refine ⟨(show (2 : Nat) ∈ z_ks by decide), cP, hP1, rfl, hP3, hP2.1, ?_⟩
      unfold z_ct
      rw [if_pos rfl]
      refine ⟨hP4, hP5, fun j v hv => ?_⟩
      have hj : j < 6 := (List.getElem?_eq_some_iff.mp hv).1
      rw [hP6 j hj]
      rcases z_lt6 hj with rfl | rfl | rfl | rfl | rfl | rfl <;> cases hv <;> rfl
    | i + 2, hi => simp [zM0] at hi
