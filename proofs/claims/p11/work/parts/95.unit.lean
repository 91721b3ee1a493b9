/-! THE REFERENCE's unit: nine to the slot of a place -/
section UN
variable {h : Nat → zC} {nA nE kn wr pc th : Int32} {M : zM}
theorem n_9 {k : Nat} : (9 : Int32) * Int32.ofNat k = Int32.ofNat (9 * k) := (Int32.ofNat_mul 9 k).symm
theorem t_unit (R : RT h (rob nA nE kn wr pc th) M) {ps : List Int32} {L : List Nat} (h58 : M[58]? = some (.inl (0, ps.map .int))) (hL : ∀ i x : Nat, L[i]? = some x → ps[i]? = some (Int32.ofNat x)) (hl5 : L.length ≤ 5) (hb : ∀ x ∈ L, x < 60) {e : Nat} (he : e ∈ L) {Q : Int32 → zM → Prop} (q : ∀ i : Nat, i < 5 → Q (Int32.ofNat (9 ^ i)) M) : z_T (F_X11_unit 42 (Int32.ofNat e)) M Q := by
  obtain ⟨i0, hi0, ei0⟩ := List.mem_iff_getElem.mp he
  unfold F_X11_unit F_X11_unit_4
  refine ht_fix (body := fun ih s => B_X11_unit_4 42 (fun y0 y1 y2 => ih (y0, y1, y2)) s.1 s.2.1 s.2.2) (I := fun m st M' => M' = M ∧ ∃ j : Nat, st = (Int32.ofNat e, Int32.ofNat (9 ^ j), Int32.ofNat j) ∧ j + m = i0) ?_ z_N i0 _ M (Nat.lt_of_le_of_lt (show i0 ≤ 5 by omega) (by decide)) ⟨rfl, 0, rfl, by omega⟩
  intro m st M' ih hI hih
  obtain ⟨rfl, j, rfl, hj⟩ := hI
  unfold B_X11_unit_4
  dsimp only
  have hjl : j < L.length := by omega
  have hpj := hL j _ (List.getElem?_eq_getElem hjl)
  have hbj := hb _ (List.getElem_mem hjl)
  have hbe := hb _ he
  refine ht_bd (ht_ga R.1 (x := some 58) rfl ?_)
  refine ht_bd (va_li h58 rfl (by omega) hpj ?_)
  refine ht_if (fun _ => ht_ret (q j (by omega))) (fun hne => ?_)
  have hlt : j < i0 := by
    by_cases e' : j = i0
    · subst e'
      exact absurd (by rw [ei0]) hne
    · omega
  refine ht_bd (ht_ret ?_)
  rw [n_9, n_s, show 9 * 9 ^ j = 9 ^ (j + 1) by rw [Nat.pow_succ, Nat.mul_comm]]
  exact hih (m - 1) _ _ (by omega) ⟨rfl, j + 1, rfl, by omega⟩
theorem g_ds9 : ∀ i : Fin 5, 9 ^ i.1 < 59049 ∧ g_ds (9 ^ i.1) = 1 := by decide +kernel
/-- where a unit stands among the bags -/
theorem t_un {p q r : List Value} (hT : TBJ 59049 p q r) {i : Nat} (hi : i < 5) : 9 ^ i < 59049 ∧ ∃ j, j < 1287 ∧ p[9 ^ i]? = some (.int (Int32.ofNat j)) := by
  obtain ⟨h1, h2⟩ := g_ds9 ⟨i, hi⟩
  have := hT.2
  rw [g_cnt_all] at this
  exact ⟨h1, this _ h1 (by rw [h2]; decide)⟩
end UN
