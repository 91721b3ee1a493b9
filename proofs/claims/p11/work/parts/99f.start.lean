/-! THE START OF THE LAW's LOOP -/
def st_G : zM := [z_psn,
  .inl (2, zP),
  .inr (10, [.ref 7, .ref 14, .ref 16, .ref 33, .ref 39]),
  .inr (2, [.ref 4, .ref 5, .ref 6, .int 0]),
  .inl (0, List.replicate 3125 (.int 0)),
  .inl (0, List.replicate 525 (.int 0)),
  .inl (0, List.replicate 525 (.int 0)),
  .inr (5, [.ref 8, .ref 11, .int 0]),
  .inr (1, [.ref 9, .ref 10]),
  .inl (0, List.replicate (Int32.toNatClampNeg 64) (.int 0)),
  .inl (0, List.replicate (Int32.toNatClampNeg 16) (.int 0)),
  .inr (1, [.ref 12, .ref 13]),
  .inl (0, List.replicate (Int32.toNatClampNeg 64) (.int 0)),
  .inl (0, List.replicate (Int32.toNatClampNeg 16) (.int 0)),
  .inr (4, [.ref 15, .ref 3, .int 0]),
  .inl (11, List.replicate (Int32.toNatClampNeg 60) (.null)),
  .inl (16, [.ref 17, .ref 18, .ref 19, .ref 20, .ref 21, .ref 22, .ref 23, .ref 24, .ref 25, .ref 26, .ref 27, .ref 28, .ref 29, .ref 30, .ref 31, .ref 32]),
  .inr (8, [.int (-1), .int 0, .int 0, .null, .int 0, .int 0, .int 0]),
  .inr (8, [.int (-1), .int 0, .int 0, .null, .int 0, .int 0, .int 0]),
  .inr (8, [.int (-1), .int 0, .int 0, .null, .int 0, .int 0, .int 0]),
  .inr (8, [.int (-1), .int 0, .int 0, .null, .int 0, .int 0, .int 0]),
  .inr (8, [.int (-1), .int 0, .int 0, .null, .int 0, .int 0, .int 0]),
  .inr (8, [.int (-1), .int 0, .int 0, .null, .int 0, .int 0, .int 0]),
  .inr (8, [.int (-1), .int 0, .int 0, .null, .int 0, .int 0, .int 0]),
  .inr (8, [.int (-1), .int 0, .int 0, .null, .int 0, .int 0, .int 0]),
  .inr (8, [.int (-1), .int 0, .int 0, .null, .int 0, .int 0, .int 0]),
  .inr (8, [.int (-1), .int 0, .int 0, .null, .int 0, .int 0, .int 0]),
  .inr (8, [.int (-1), .int 0, .int 0, .null, .int 0, .int 0, .int 0]),
  .inr (8, [.int (-1), .int 0, .int 0, .null, .int 0, .int 0, .int 0]),
  .inr (8, [.int (-1), .int 0, .int 0, .null, .int 0, .int 0, .int 0]),
  .inr (8, [.int (-1), .int 0, .int 0, .null, .int 0, .int 0, .int 0]),
  .inr (8, [.int (-1), .int 0, .int 0, .null, .int 0, .int 0, .int 0]),
  .inr (8, [.int (-1), .int 0, .int 0, .null, .int 0, .int 0, .int 0]),
  .inr (6, [.ref 7, .ref 3, .ref 34, .ref 38, .int 0]),
  .inr (2, [.ref 35, .ref 36, .ref 37, .int 0]),
  .inl (0, List.replicate 3125 (.int 0)),
  .inl (0, List.replicate 525 (.int 0)),
  .inl (0, List.replicate 525 (.int 0)),
  .inl (0, List.replicate (Int32.toNatClampNeg 8) (.int 0)),
  .inr (9, [.ref 16, .ref 33, .ref 40, .ref 41, .int (-1), .int 1, .int 1]),
  .inl (0, List.replicate (Int32.toNatClampNeg 16) (.int 0)),
  .inl (0, List.replicate (Int32.toNatClampNeg 16) (.int 0))]
def st_F : zM := st_G ++ List.replicate 27 z_psn
theorem st_Gl : st_G.length = 42 := by decide +kernel
def st_z (n : Nat) (c : zC) : Bool := match c with
  | .inl (0, vs) => Nat.beq vs.length n && vs.all (fun v => match v with
    | .int x => decide (x = 0)
    | _ => false)
  | _ => false
theorem st_z1 {n : Nat} {c : zC} (h : st_z n c = true) : c = .inl (0, List.replicate n (.int 0)) := by
  unfold st_z at h
  split at h
  · rename_i vs
    rw [Bool.and_eq_true] at h
    have h1 : vs.length = n := Nat.eq_of_beq_eq_true h.1
    have h2 : vs = List.replicate n (.int 0) := List.eq_replicate_iff.mpr ⟨h1, fun v hv => by
      have := List.all_eq_true.mp h.2 v hv
      split at this
      · rename_i x
        have := of_decide_eq_true this
        rw [this]
      · cases this⟩
    rw [h2]
  · cases h
set_option maxRecDepth 100000 in
theorem st_10 : (match (F_X10_init 2).1 fr_D with
  | some r => st_z 3125 (r.2.getD 4 z_psn) && st_z 525 (r.2.getD 5 z_psn) && st_z 525 (r.2.getD 6 z_psn) && st_z 3125 (r.2.getD 35 z_psn) && st_z 525 (r.2.getD 36 z_psn) && st_z 525 (r.2.getD 37 z_psn)
  | none => false) = true := by decide +kernel
theorem st_gd {M : zM} {i : Nat} {c : zC} (h : M.getD i z_psn = c) (hn : c ≠ z_psn) : M[i]? = some c := by
  rw [List.getD_eq_getElem?_getD] at h
  cases hm : M[i]? with
  | none => rw [hm] at h; exact absurd h.symm hn
  | some c' => rw [hm] at h; exact congrArg some h
theorem st_Fl : st_F.length = 69 := by decide +kernel
theorem st_Fk : z_kdb st_F = true := by decide +kernel
theorem st_ps {i : Nat} (h1 : 42 ≤ i) (h2 : i < 69) : st_F[i]? = some z_psn := by
  unfold st_F
  rw [List.getElem?_append_right (by rw [st_Gl]; exact h1), st_Gl, List.getElem?_replicate, if_pos (by omega)]
theorem st_P {i : Nat} (hi : i < 42) (h : i ≠ 4 ∧ i ≠ 5 ∧ i ≠ 6 ∧ i ≠ 35 ∧ i ≠ 36 ∧ i ≠ 37) : st_F[i]? = fr_P[i]? := by
  have : i = 0 ∨ i = 1 ∨ i = 2 ∨ i = 3 ∨ i = 7 ∨ i = 8 ∨ i = 9 ∨ i = 10 ∨ i = 11 ∨ i = 12 ∨ i = 13 ∨ i = 14 ∨ i = 15 ∨ i = 16 ∨ i = 17 ∨ i = 18 ∨ i = 19 ∨ i = 20 ∨ i = 21 ∨ i = 22 ∨ i = 23 ∨ i = 24 ∨ i = 25 ∨ i = 26 ∨ i = 27 ∨ i = 28 ∨ i = 29 ∨ i = 30 ∨ i = 31 ∨ i = 32 ∨ i = 33 ∨ i = 34 ∨ i = 38 ∨ i = 39 ∨ i = 40 ∨ i = 41 := by omega
  rcases this with rfl | rfl | rfl | rfl | rfl | rfl | rfl | rfl | rfl | rfl | rfl | rfl | rfl | rfl | rfl | rfl | rfl | rfl | rfl | rfl | rfl | rfl | rfl | rfl | rfl | rfl | rfl | rfl | rfl | rfl | rfl | rfl | rfl | rfl | rfl | rfl <;> rfl
def st_g : Nat → zC := fun i => st_F.getD i z_psn
theorem st_CG : CG [] st_g := by
  refine ⟨fun _ => [], fun _ => [], rfl, rfl, rfl, ?_, ?_, ?_⟩
  · refine ⟨List.replicate 64 0, List.replicate 16 0, by rw [List.map_replicate]; rfl, by rw [List.map_replicate]; rfl, by simp, by simp, fun v hv => ⟨by simp, ?_, fun i k hk => by simp at hk, fun k hk => by simp at hk⟩⟩
    rw [List.getElem?_replicate, if_pos hv]; rfl
  · refine ⟨List.replicate 64 0, List.replicate 16 0, by rw [List.map_replicate]; rfl, by rw [List.map_replicate]; rfl, by simp, by simp, fun v hv => ⟨by simp, ?_, fun i k hk => by simp at hk, fun k hk => by simp at hk⟩⟩
    rw [List.getElem?_replicate, if_pos hv]; rfl
  · exact ⟨fun v hv => ⟨List.Pairwise.nil, fun k hk => by simp at hk, fun k hk => by simp⟩, fun v hv => ⟨List.Pairwise.nil, fun k hk => by simp at hk, fun k hk => by simp⟩⟩
theorem st_I {n : Nat} {p : Int32 → Prop} {m : Nat} (hm : m = n) (hp : p 0) : pI n p (.inl (0, List.replicate m (.int 0))) := ⟨List.replicate m 0, by rw [List.map_replicate], by rw [List.length_replicate]; exact hm, fun v hv => by rw [List.eq_of_mem_replicate hv]; exact hp⟩
theorem st_WX : WX st_g [] st_F := by
  have e : gB ++ [] = gB := List.append_nil _
  have hcell : ∀ (i t : Nat), gB[i]? = some t → tok i t ∧ ∃ c, st_F[i]? = some c ∧ okc st_g [] t c := by
    intro i t hi
    have hil : i < 69 := by rw [← gB_l]; exact (List.getElem?_eq_some_iff.mp hi).1
    by_cases h42 : 42 ≤ i
    · have ht : gB[i]? = some 0 := by
        unfold gB
        rw [List.getElem?_append_right (by simp; omega), List.getElem?_replicate, if_pos (by simp; omega)]
      rw [hi] at ht
      cases ht
      exact ⟨Or.inr (Or.inr (Or.inl rfl)), z_psn, st_ps h42 hil, rfl⟩
    · have : i = 0 ∨ i = 1 ∨ i = 2 ∨ i = 3 ∨ i = 4 ∨ i = 5 ∨ i = 6 ∨ i = 7 ∨ i = 8 ∨ i = 9 ∨ i = 10 ∨ i = 11 ∨ i = 12 ∨ i = 13 ∨ i = 14 ∨ i = 15 ∨ i = 16 ∨ i = 17 ∨ i = 18 ∨ i = 19 ∨ i = 20 ∨ i = 21 ∨ i = 22 ∨ i = 23 ∨ i = 24 ∨ i = 25 ∨ i = 26 ∨ i = 27 ∨ i = 28 ∨ i = 29 ∨ i = 30 ∨ i = 31 ∨ i = 32 ∨ i = 33 ∨ i = 34 ∨ i = 35 ∨ i = 36 ∨ i = 37 ∨ i = 38 ∨ i = 39 ∨ i = 40 ∨ i = 41 := by omega
      rcases this with rfl | rfl | rfl | rfl | rfl | rfl | rfl | rfl | rfl | rfl | rfl | rfl | rfl | rfl | rfl | rfl | rfl | rfl | rfl | rfl | rfl | rfl | rfl | rfl | rfl | rfl | rfl | rfl | rfl | rfl | rfl | rfl | rfl | rfl | rfl | rfl | rfl | rfl | rfl | rfl | rfl | rfl
      · cases hi; exact ⟨Or.inl rfl, _, rfl, rfl⟩
      · cases hi; exact ⟨Or.inl rfl, _, rfl, rfl⟩
      · cases hi; exact ⟨Or.inl rfl, _, rfl, rfl⟩
      · cases hi; exact ⟨Or.inl rfl, _, rfl, ⟨0, rfl, ⟨by decide, by decide⟩⟩⟩
      · cases hi; exact ⟨Or.inl rfl, _, rfl, st_I rfl ⟨by decide, by decide⟩⟩
      · cases hi; exact ⟨Or.inl rfl, _, rfl, st_I rfl (by decide)⟩
      · cases hi; exact ⟨Or.inl rfl, _, rfl, st_I rfl trivial⟩
      · cases hi; exact ⟨Or.inl rfl, _, rfl, rfl⟩
      · cases hi; exact ⟨Or.inl rfl, _, rfl, rfl⟩
      · cases hi; exact ⟨Or.inl rfl, _, rfl, rfl⟩
      · cases hi; exact ⟨Or.inl rfl, _, rfl, rfl⟩
      · cases hi; exact ⟨Or.inl rfl, _, rfl, rfl⟩
      · cases hi; exact ⟨Or.inl rfl, _, rfl, rfl⟩
      · cases hi; exact ⟨Or.inl rfl, _, rfl, rfl⟩
      · cases hi; exact ⟨Or.inl rfl, _, rfl, ⟨0, rfl, ⟨by decide, by decide⟩⟩⟩
      · cases hi; exact ⟨Or.inl rfl, _, rfl, ⟨List.replicate 60 none, by rw [List.map_replicate]; rfl, by simp, fun a ha => by have := List.eq_of_mem_replicate ha; cases this⟩⟩
      · cases hi; exact ⟨Or.inl rfl, _, rfl, rfl⟩
      · cases hi; exact ⟨Or.inr (Or.inl rfl), _, rfl, ⟨-1, 0, 0, none, 0, 0, 0, rfl, ⟨by decide, by decide⟩, fun e => by rcases e with e | e | e <;> exact absurd e (by decide), fun e => by rcases e with e | e <;> exact absurd e (by decide), fun a ha => by cases ha⟩⟩
      · cases hi; exact ⟨Or.inr (Or.inl rfl), _, rfl, ⟨-1, 0, 0, none, 0, 0, 0, rfl, ⟨by decide, by decide⟩, fun e => by rcases e with e | e | e <;> exact absurd e (by decide), fun e => by rcases e with e | e <;> exact absurd e (by decide), fun a ha => by cases ha⟩⟩
      · cases hi; exact ⟨Or.inr (Or.inl rfl), _, rfl, ⟨-1, 0, 0, none, 0, 0, 0, rfl, ⟨by decide, by decide⟩, fun e => by rcases e with e | e | e <;> exact absurd e (by decide), fun e => by rcases e with e | e <;> exact absurd e (by decide), fun a ha => by cases ha⟩⟩
      · cases hi; exact ⟨Or.inr (Or.inl rfl), _, rfl, ⟨-1, 0, 0, none, 0, 0, 0, rfl, ⟨by decide, by decide⟩, fun e => by rcases e with e | e | e <;> exact absurd e (by decide), fun e => by rcases e with e | e <;> exact absurd e (by decide), fun a ha => by cases ha⟩⟩
      · cases hi; exact ⟨Or.inr (Or.inl rfl), _, rfl, ⟨-1, 0, 0, none, 0, 0, 0, rfl, ⟨by decide, by decide⟩, fun e => by rcases e with e | e | e <;> exact absurd e (by decide), fun e => by rcases e with e | e <;> exact absurd e (by decide), fun a ha => by cases ha⟩⟩
      · cases hi; exact ⟨Or.inr (Or.inl rfl), _, rfl, ⟨-1, 0, 0, none, 0, 0, 0, rfl, ⟨by decide, by decide⟩, fun e => by rcases e with e | e | e <;> exact absurd e (by decide), fun e => by rcases e with e | e <;> exact absurd e (by decide), fun a ha => by cases ha⟩⟩
      · cases hi; exact ⟨Or.inr (Or.inl rfl), _, rfl, ⟨-1, 0, 0, none, 0, 0, 0, rfl, ⟨by decide, by decide⟩, fun e => by rcases e with e | e | e <;> exact absurd e (by decide), fun e => by rcases e with e | e <;> exact absurd e (by decide), fun a ha => by cases ha⟩⟩
      · cases hi; exact ⟨Or.inr (Or.inl rfl), _, rfl, ⟨-1, 0, 0, none, 0, 0, 0, rfl, ⟨by decide, by decide⟩, fun e => by rcases e with e | e | e <;> exact absurd e (by decide), fun e => by rcases e with e | e <;> exact absurd e (by decide), fun a ha => by cases ha⟩⟩
      · cases hi; exact ⟨Or.inr (Or.inl rfl), _, rfl, ⟨-1, 0, 0, none, 0, 0, 0, rfl, ⟨by decide, by decide⟩, fun e => by rcases e with e | e | e <;> exact absurd e (by decide), fun e => by rcases e with e | e <;> exact absurd e (by decide), fun a ha => by cases ha⟩⟩
      · cases hi; exact ⟨Or.inr (Or.inl rfl), _, rfl, ⟨-1, 0, 0, none, 0, 0, 0, rfl, ⟨by decide, by decide⟩, fun e => by rcases e with e | e | e <;> exact absurd e (by decide), fun e => by rcases e with e | e <;> exact absurd e (by decide), fun a ha => by cases ha⟩⟩
      · cases hi; exact ⟨Or.inr (Or.inl rfl), _, rfl, ⟨-1, 0, 0, none, 0, 0, 0, rfl, ⟨by decide, by decide⟩, fun e => by rcases e with e | e | e <;> exact absurd e (by decide), fun e => by rcases e with e | e <;> exact absurd e (by decide), fun a ha => by cases ha⟩⟩
      · cases hi; exact ⟨Or.inr (Or.inl rfl), _, rfl, ⟨-1, 0, 0, none, 0, 0, 0, rfl, ⟨by decide, by decide⟩, fun e => by rcases e with e | e | e <;> exact absurd e (by decide), fun e => by rcases e with e | e <;> exact absurd e (by decide), fun a ha => by cases ha⟩⟩
      · cases hi; exact ⟨Or.inr (Or.inl rfl), _, rfl, ⟨-1, 0, 0, none, 0, 0, 0, rfl, ⟨by decide, by decide⟩, fun e => by rcases e with e | e | e <;> exact absurd e (by decide), fun e => by rcases e with e | e <;> exact absurd e (by decide), fun a ha => by cases ha⟩⟩
      · cases hi; exact ⟨Or.inr (Or.inl rfl), _, rfl, ⟨-1, 0, 0, none, 0, 0, 0, rfl, ⟨by decide, by decide⟩, fun e => by rcases e with e | e | e <;> exact absurd e (by decide), fun e => by rcases e with e | e <;> exact absurd e (by decide), fun a ha => by cases ha⟩⟩
      · cases hi; exact ⟨Or.inr (Or.inl rfl), _, rfl, ⟨-1, 0, 0, none, 0, 0, 0, rfl, ⟨by decide, by decide⟩, fun e => by rcases e with e | e | e <;> exact absurd e (by decide), fun e => by rcases e with e | e <;> exact absurd e (by decide), fun a ha => by cases ha⟩⟩
      · cases hi; exact ⟨Or.inr (Or.inl rfl), _, rfl, ⟨-1, 0, 0, none, 0, 0, 0, rfl, ⟨by decide, by decide⟩, fun e => by rcases e with e | e | e <;> exact absurd e (by decide), fun e => by rcases e with e | e <;> exact absurd e (by decide), fun a ha => by cases ha⟩⟩
      · cases hi; exact ⟨Or.inl rfl, _, rfl, ⟨0, rfl, ⟨by decide, by decide⟩⟩⟩
      · cases hi; exact ⟨Or.inl rfl, _, rfl, ⟨0, rfl, ⟨by decide, by decide⟩⟩⟩
      · cases hi; exact ⟨Or.inl rfl, _, rfl, st_I rfl ⟨by decide, by decide⟩⟩
      · cases hi; exact ⟨Or.inl rfl, _, rfl, st_I rfl (by decide)⟩
      · cases hi; exact ⟨Or.inl rfl, _, rfl, st_I rfl trivial⟩
      · cases hi; exact ⟨Or.inl rfl, _, rfl, st_I rfl trivial⟩
      · cases hi; exact ⟨Or.inl rfl, _, rfl, ⟨-1, 1, 1, rfl, ⟨by decide, by decide⟩, ⟨by decide, by decide⟩⟩⟩
      · cases hi; exact ⟨Or.inl rfl, _, rfl, st_I rfl trivial⟩
      · cases hi; exact ⟨Or.inl rfl, _, rfl, st_I rfl trivial⟩
  refine ⟨⟨by rw [e, gB_l, st_Fl]; exact Nat.le_refl _, fun i t hi => ?_⟩, by rw [e, gB_l, st_Fl]⟩
  rw [e] at hi
  exact hcell i t hi
theorem st_B {n m : Nat} (hm : m = n) : pB n (.inl (4, List.replicate m (.int 0))) := ⟨List.replicate m 0, by rw [List.map_replicate], by rw [List.length_replicate]; exact hm, fun v hv => Or.inl (List.eq_of_mem_replicate hv)⟩
theorem st_L {n m : Nat} (hm : m = n) : pL n (.inl (3, List.replicate m (.long 0))) := ⟨List.replicate m 0, by rw [List.map_replicate], by rw [List.length_replicate]; exact hm⟩
/-- the reference, fresh -/
theorem st_RI {M : zM} {p q r : List Value} (h42 : M[42]? = some (.inr (11, fr_o 1287))) (h48 : M[48]? = some (.inl (0, fr_S 16 0))) (h53 : M[53]? = some (.inl (0, q))) (h54 : M[54]? = some (.inl (0, r))) (h55 : M[55]? = some (.inl (0, p))) (hT : TBJ 59049 p q r) (ho : ∀ (i : Nat) (c : zC), i ≠ 5 → i ≠ 10 → i ≠ 11 → i ≠ 12 → fr_A[i]? = some c → M[43 + i]? = some c) : RI [] M := by
  have at' : ∀ {i : Nat} {c : zC}, M[i]? = some c → (M[i]?).getD z_psn = c := fun e => by rw [e]; rfl
  have m43 := ho 0 _ (by decide) (by decide) (by decide) (by decide) rfl
  have m44 := ho 1 _ (by decide) (by decide) (by decide) (by decide) rfl
  have m45 := ho 2 _ (by decide) (by decide) (by decide) (by decide) rfl
  have m46 := ho 3 _ (by decide) (by decide) (by decide) (by decide) rfl
  have m47 := ho 4 _ (by decide) (by decide) (by decide) (by decide) rfl
  have m49 := ho 6 _ (by decide) (by decide) (by decide) (by decide) rfl
  have m50 := ho 7 _ (by decide) (by decide) (by decide) (by decide) rfl
  have m51 := ho 8 _ (by decide) (by decide) (by decide) (by decide) rfl
  have e60 : ∀ {c : zC}, c = .inl (0, List.replicate (Int32.toNatClampNeg 60) (.int 0)) → c = .inl (0, (List.replicate 60 (0 : Int32)).map .int) := fun e => by rw [e, List.map_replicate]; rfl
  have e16 : ∀ {c : zC}, c = .inl (0, List.replicate (Int32.toNatClampNeg 16) (.int 0)) → c = .inl (0, (List.replicate 16 (0 : Int32)).map .int) := fun e => by rw [e, List.map_replicate]; rfl
  have hA : pArcs [] ((M[43]?).getD z_psn) := by
    rw [at' m43]
    exact ⟨List.replicate 180 0, by rw [List.map_replicate]; rfl, by rw [List.length_replicate], fun k x hx => by simp at hx⟩
  refine RI.mk' (h := fun i => (M[i]?).getD z_psn) (ks := List.replicate 60 0) (as := List.replicate 60 0) (bs := List.replicate 60 0) (cs := List.replicate 60 0) (ss := List.replicate 16 (-1)) (xs := List.replicate 16 0) (ys := List.replicate 16 0) (zs := List.replicate 16 0) (n := 0) (p := p) (q := q) (r := r) (kn := 0) (wr := 0) (pc := 0) (th := 0) ⟨⟨at' h53, at' h54, at' h55, hT⟩, ⟨e60 (at' m44), e60 (at' m45), e60 (at' m46), by simp, by simp, by simp, by decide, fun k hk => by omega⟩, ⟨e60 (at' m47), by simp⟩, hA.pi, ⟨?_, e16 (at' m49), e16 (at' m50), e16 (at' m51)⟩, ?_⟩ hA ⟨h42, fun i i1 i2 => ?_⟩
  · show (M[48]?).getD z_psn = _
    rw [at' h48, List.map_replicate]
    unfold fr_S
    rw [List.replicate_zero, List.append_nil]
  · refine ⟨by simp, by simp, by simp, by simp, fun s hs => ⟨-1, 0, 0, 0, by rw [List.getElem?_replicate, if_pos hs], by rw [List.getElem?_replicate, if_pos hs], by rw [List.getElem?_replicate, if_pos hs], by rw [List.getElem?_replicate, if_pos hs], fun e => absurd e (by decide), fun e => by rcases e with e | e <;> exact absurd e (by decide), fun e => absurd e (by decide)⟩⟩
  · have hi : i = 43 ∨ i = 44 ∨ i = 45 ∨ i = 46 ∨ i = 47 ∨ i = 48 ∨ i = 49 ∨ i = 50 ∨ i = 51 ∨ i = 52 ∨ i = 53 ∨ i = 54 ∨ i = 55 ∨ i = 56 ∨ i = 57 ∨ i = 58 ∨ i = 59 ∨ i = 60 ∨ i = 61 ∨ i = 62 ∨ i = 63 ∨ i = 64 ∨ i = 65 ∨ i = 66 ∨ i = 67 := by omega
    rcases hi with rfl | rfl | rfl | rfl | rfl | rfl | rfl | rfl | rfl | rfl | rfl | rfl | rfl | rfl | rfl | rfl | rfl | rfl | rfl | rfl | rfl | rfl | rfl | rfl | rfl
    · exact ⟨_, m43, (at' m43).symm⟩
    · exact ⟨_, m44, (at' m44).symm⟩
    · exact ⟨_, m45, (at' m45).symm⟩
    · exact ⟨_, m46, (at' m46).symm⟩
    · exact ⟨_, m47, (at' m47).symm⟩
    · exact ⟨_, h48, (at' h48).symm⟩
    · exact ⟨_, m49, (at' m49).symm⟩
    · exact ⟨_, m50, (at' m50).symm⟩
    · exact ⟨_, m51, (at' m51).symm⟩
    · exact ⟨_, ho 9 _ (by decide) (by decide) (by decide) (by decide) rfl, st_I rfl ⟨by decide, by decide⟩⟩
    · exact ⟨_, h53, (at' h53).symm⟩
    · exact ⟨_, h54, (at' h54).symm⟩
    · exact ⟨_, h55, (at' h55).symm⟩
    · exact ⟨_, ho 13 _ (by decide) (by decide) (by decide) (by decide) rfl, st_B rfl⟩
    · exact ⟨_, ho 14 _ (by decide) (by decide) (by decide) (by decide) rfl, st_B rfl⟩
    · exact ⟨_, ho 15 _ (by decide) (by decide) (by decide) (by decide) rfl, st_I rfl ⟨by decide, by decide⟩⟩
    · exact ⟨_, ho 16 _ (by decide) (by decide) (by decide) (by decide) rfl, st_I rfl trivial⟩
    · exact ⟨_, ho 17 _ (by decide) (by decide) (by decide) (by decide) rfl, st_I rfl ⟨by decide, by decide⟩⟩
    · exact ⟨_, ho 18 _ (by decide) (by decide) (by decide) (by decide) rfl, st_B rfl⟩
    · exact ⟨_, ho 19 _ (by decide) (by decide) (by decide) (by decide) rfl, st_B rfl⟩
    · exact ⟨_, ho 20 _ (by decide) (by decide) (by decide) (by decide) rfl, st_B rfl⟩
    · exact ⟨_, ho 21 _ (by decide) (by decide) (by decide) (by decide) rfl, st_B rfl⟩
    · exact ⟨_, ho 22 _ (by decide) (by decide) (by decide) (by decide) rfl, st_L rfl⟩
    · exact ⟨_, ho 23 _ (by decide) (by decide) (by decide) (by decide) rfl, st_L rfl⟩
    · exact ⟨_, ho 24 _ (by decide) (by decide) (by decide) (by decide) rfl, st_I rfl ⟨by decide, by decide⟩⟩
theorem st_J0 : ∃ p q r : List Value, fr_J3 fr_N1 0 p q r fr_N1 := by
  have go : ∀ {i : Nat} {c : zC}, i ≠ 6 → (.inr (11, fr_o 0) :: fr_A)[i]? = some c → fr_N1[42 + i]? = some c := by
    intro i c hi h
    unfold fr_N1
    rw [z_go (by omega)]
    exact fr_at h
  refine ⟨_, _, _, rfl, rfl, go (i := 0) (by decide) rfl, ⟨go (i := 11) (by decide) rfl, ?_⟩, ⟨go (i := 12) (by decide) rfl, ?_⟩, ⟨go (i := 13) (by decide) rfl, ?_⟩, fun i _ _ _ _ => rfl⟩
  · rw [List.length_replicate]; decide
  · rw [List.length_replicate]; decide
  · rw [List.length_replicate]; decide
theorem st_N {i : Nat} {c : zC} (hi : i ≠ 5) (h : fr_A[i]? = some c) : fr_N1[43 + i]? = some c := by
  unfold fr_N1
  rw [z_go (by omega), show 43 + i = 42 + (i + 1) by omega]
  exact fr_at h
theorem st_Np {i : Nat} (hi : i < 42) : fr_N1[i]? = fr_P[i]? := by
  unfold fr_N1 fr_N
  rw [z_go (by omega), List.getElem?_append_left (by rw [fr_Pl]; exact hi)]
theorem st_N48 : fr_N1[48]? = some (.inl (0, fr_S 16 0)) := z_gs (fr_at (i := 6) rfl)
abbrev fr_c0 (L : Nat) (xs : Nat → Int32) : zC := .inl (1, (List.range L).map fun j => .int (xs j))
theorem st_ctor {L : Nat} {xs : Nat → Int32} (hL : L ≤ 3072) {Q : Int32 → zM → Prop} (h : ∀ (M : zM) (d : Nat), d ≤ 400000 → LH (fr_c0 L xs) d [] (fun S' => S' = []) 0 M → z_T (F_L_law_23 z_N (some 0, some 2, some 42, some 68, 0)) M Q) : z_T (F_L_law (some 0)) (zM0 L xs) Q := by
  unfold F_L_law
  refine ht_bd (ht_nw ?_)
  have hz0 : zsz (zM0 L xs ++ [.inr (10, [.null, .null, .null, .null, .null])]) = L + 11 := by
    simp [zsz, zM0, zn, zP]
  have hC0 : z_C (zM0 L xs ++ [.inr (10, [.null, .null, .null, .null, .null])]) L fr_D (zM0 L xs ++ [.inr (10, [.null, .null, .null, .null, .null])]) := by
    refine ⟨rfl, ?_, z_kdb_1 (by decide +kernel), fun i c hi => ⟨fun _ => rfl, fun hn => ?_⟩⟩
    · rw [hz0, show zsz fr_D = 11 by decide +kernel]; omega
    · match i, hi with
      | 0, hi => exact absurd (Option.some.inj hi).symm hn
      | 1, hi => exact hi
      | 2, hi => exact hi
      | i + 3, hi => simp [fr_D] at hi
  generalize hB : (zM0 L xs ++ [.inr (10, [.null, .null, .null, .null, .null])] : zM) = B at hC0 hz0
  have hB0 : B[0]? = some (.inl (1, (List.range L).map fun j => .int (xs j))) := by rw [← hB]; rfl
  show z_T (z_bd (F_X10_init 2) _) B Q
  have h10 := fr_10
  have s10 := st_10
  cases hr : (F_X10_init 2).1 fr_D with
  | none => rw [hr] at h10; cases h10
  | some r =>
    rw [hr] at h10 s10
    dsimp only at h10 s10
    simp only [Bool.and_eq_true] at s10
    rw [Bool.and_eq_true] at h10
    obtain ⟨⟨⟨⟨⟨s4, s5⟩, s6⟩, s35⟩, s36⟩, s37⟩ := s10
    refine ht_bd (ht_cov (m_F_X10_init 2) hC0 ⟨r, hr, fun M2 hC2 hb2 => ?_⟩)
    have h20 : M2[0]? = B[0]? := hb2 0 rfl
    have tb : ∀ {i n : Nat}, st_z n (r.2.getD i z_psn) = true → M2[i]? = some (.inl (0, List.replicate n (.int 0))) := fun hs => hC2.at (st_gd (st_z1 hs) (fun e => by cases e)) (fun e => by cases e)
    have hz2 : zsz M2 ≤ 20000 + L := by
      have := Nat.le_of_ble_eq_true h10.2
      have := hC2.2.1
      omega
    have hC3 := z_C_weak hC2 h10.1 fr_Pk
    generalize L + (zsz r.2 - zsz fr_P) = d3 at hC3
    refine ht_bd (ht_cov (mo_nwo (by decide)) hC3 (ht_nw fun M3 hC4 hb4 => ?_))
    rw [fr_Pl]
    obtain ⟨p0, q0, r0, hJ0⟩ := st_J0
    refine ht_bd (ht_cov (m_F_X11_init 42) hC4 (fr_al (fr_212 ((fr_233t hJ0).mono fun _ P5 hJT M5 hC5 hb5 => ?_))))
    obtain ⟨p, q, r', hJ, hT⟩ := hJT
    have c5 : ∀ {i : Nat} {c : zC}, i ≠ 42 → i ≠ 53 → i ≠ 54 → i ≠ 55 → fr_N1[i]? = some c → c ≠ z_psn → M5[i]? = some c := fun {i c} e1 e2 e3 e4 hc hn => hC5.at (by rw [hJ.2.2.2.2.2.2 i e1 e2 e3 e4]; exact hc) hn
    have b5 : ∀ {i : Nat}, i < 42 → fr_P[i]? = some z_psn → M5[i]? = M2[i]? := fun {i} hi hc => hC5.bl (by rw [hJ.2.2.2.2.2.2 i (by omega) (by omega) (by omega) (by omega), st_Np hi]; exact hc)
    have hl5 : M5.length = 68 := by
      rw [← hC5.1, hJ.1]
      decide +kernel
    have hz5 : zsz M5 ≤ 390000 := by
      have e1 := hC5.2.1
      have e2 := hC4.2.1
      have e3 := hC3.2.1
      have e4 : zsz (fr_P ++ [.inr (11, [.null, .int 0, .null, .null, .null, .null, .int 0, .null, .null, .null, .null, .null, .int 0, .int 0, .null, .null, .int 0, .null, .null, .null, .null, .int 0, .int 0, .null, .null, .null, .null, .null, .null, .null, .null, .null])]) = zsz fr_P + 32 := zsz_push _ _
      have e5 := fr_Nz
      rw [hJ.2.1] at e1
      omega
    refine ht_bd (ht_nwa (by decide) (by decide) ?_)
    rw [hl5]
    have g7 : ∀ {i : Nat} {c : zC}, M5[i]? = some c → (M5 ++ [.inl (3, List.replicate (Int32.toNatClampNeg 1) (.long 0))])[i]? = some c := fun e => z_gp e
    have h68 : (M5 ++ [.inl (3, List.replicate (Int32.toNatClampNeg 1) (.long 0))])[68]? = some (.inl (3, [.long 0])) := by
      rw [← hl5, z_gn]
      rfl
    have hl7 : (M5 ++ [.inl (3, List.replicate (Int32.toNatClampNeg 1) (.long 0))] : zM).length = 69 := by rw [List.length_append, hl5]; rfl
    have hz7 : zsz (M5 ++ [.inl (3, List.replicate (Int32.toNatClampNeg 1) (.long 0))]) ≤ 390001 := by
      rw [zsz_push]
      have e3 : zn (.inl (3, List.replicate (Int32.toNatClampNeg 1) (Value.long 0))) = 1 := by decide
      omega
    have hRI : RI [] (M5 ++ [.inl (3, List.replicate (Int32.toNatClampNeg 1) (.long 0))]) := by
      refine st_RI (p := p) (q := q) (r := r') (g7 (hC5.at hJ.2.2.1 (fun e => by cases e))) (g7 (c5 (by decide) (by decide) (by decide) (by decide) st_N48 (fun e => by cases e))) (g7 (hC5.at hJ.2.2.2.1.1 (fun e => by cases e))) (g7 (hC5.at hJ.2.2.2.2.1.1 (fun e => by cases e))) (g7 (hC5.at hJ.2.2.2.2.2.1.1 (fun e => by cases e))) hT (fun i c i1 i2 i3 i4 hc => g7 (c5 (by omega) (by omega) (by omega) (by omega) (st_N i1 hc) (fun e => ?_)))
      subst e
      have hil : i < 25 := (List.getElem?_eq_some_iff.mp hc).1
      have hi : i = 0 ∨ i = 1 ∨ i = 2 ∨ i = 3 ∨ i = 4 ∨ i = 5 ∨ i = 6 ∨ i = 7 ∨ i = 8 ∨ i = 9 ∨ i = 10 ∨ i = 11 ∨ i = 12 ∨ i = 13 ∨ i = 14 ∨ i = 15 ∨ i = 16 ∨ i = 17 ∨ i = 18 ∨ i = 19 ∨ i = 20 ∨ i = 21 ∨ i = 22 ∨ i = 23 ∨ i = 24 := by omega
      rcases hi with rfl | rfl | rfl | rfl | rfl | rfl | rfl | rfl | rfl | rfl | rfl | rfl | rfl | rfl | rfl | rfl | rfl | rfl | rfl | rfl | rfl | rfl | rfl | rfl | rfl <;> cases hc
    have hcl : ∀ (i : Nat) (c : zC), st_F[i]? = some c → c = z_psn ∨ (M5 ++ [.inl (3, List.replicate (Int32.toNatClampNeg 1) (.long 0))])[i]? = some c := by
      intro i c hi
      have hil : i < 69 := by rw [← st_Fl]; exact (List.getElem?_eq_some_iff.mp hi).1
      by_cases h42 : 42 ≤ i
      · left
        rw [st_ps h42 hil] at hi
        exact (Option.some.inj hi).symm
      · by_cases ht : i ≠ 4 ∧ i ≠ 5 ∧ i ≠ 6 ∧ i ≠ 35 ∧ i ≠ 36 ∧ i ≠ 37
        · by_cases hn : c = z_psn
          · exact Or.inl hn
          · right
            rw [st_P (by omega) ht] at hi
            exact g7 (c5 (by omega) (by omega) (by omega) (by omega) (by rw [st_Np (by omega)]; exact hi) hn)
        · right
          have : i = 4 ∨ i = 5 ∨ i = 6 ∨ i = 35 ∨ i = 36 ∨ i = 37 := by omega
          rcases this with rfl | rfl | rfl | rfl | rfl | rfl
          · cases hi; exact g7 (by rw [b5 (by decide) rfl]; exact tb s4)
          · cases hi; exact g7 (by rw [b5 (by decide) rfl]; exact tb s5)
          · cases hi; exact g7 (by rw [b5 (by decide) rfl]; exact tb s6)
          · cases hi; exact g7 (by rw [b5 (by decide) rfl]; exact tb s35)
          · cases hi; exact g7 (by rw [b5 (by decide) rfl]; exact tb s36)
          · cases hi; exact g7 (by rw [b5 (by decide) rfl]; exact tb s37)
    refine h _ (zsz (M5 ++ [.inl (3, List.replicate (Int32.toNatClampNeg 1) (.long 0))]) - zsz st_F) (by omega) ⟨⟨List.nodup_nil, by simp, fun x hx => by simp at hx⟩, hRI, ?_, ⟨_, h68⟩, fun v hv => ⟨by simp [odeg], by simp [ideg]⟩, oK_4 st_CG ⟨List.nodup_nil, by simp, fun x hx => by simp at hx⟩, st_F, st_g, [], ?_, st_WX, fun S' e => by rw [e]; exact st_CG, by simp⟩
    · exact g7 (by rw [b5 (by decide) rfl, h20]; exact hB0)
    · exact z_C_in (by rw [st_Fl, hl7]) (z_cov_sz (by rw [st_Fl, hl7]) hcl) hcl st_Fk
