/-! THE REFERENCE's ARCS: a list of numbers, in its order -/
def rob (nA nE kn wr pc th : Int32) : List Value := [.ref 43, .int nA, .ref 44, .ref 45, .ref 46, .ref 47, .int nE, .ref 48, .ref 49, .ref 50, .ref 51, .ref 52, .int kn, .int wr, .ref 53, .ref 54, .int 1287, .ref 55, .ref 56, .ref 57, .ref 58, .int pc, .int th, .ref 59, .ref 60, .ref 61, .ref 62, .ref 63, .ref 64, .ref 65, .ref 66, .ref 67]
def pArcs (S : List Nat) (c : zC) : Prop := ∃ as : List Int32, c = .inl (0, as.map .int) ∧ as.length = 180 ∧ ∀ k x : Nat, S[k]? = some x → as[3 * k]? = some (Int32.ofNat (x / 128)) ∧ as[3 * k + 1]? = some (Int32.ofNat (x / 16 % 8)) ∧ as[3 * k + 2]? = some (Int32.ofNat (x % 16))
section RF
variable {M : zM} {nA nE kn wr pc th : Int32} {S : List Nat} {c43 : zC}
theorem n_3 {k : Nat} : (3 : Int32) * Int32.ofNat k = Int32.ofNat (3 * k) := (Int32.ofNat_mul 3 k).symm
theorem n_p {a b : Nat} : Int32.ofNat a + Int32.ofNat b = Int32.ofNat (a + b) := (Int32.ofNat_add a b).symm
theorem f_find (hl : S.length ≤ 60) (h : M[42]? = some (.inr (11, rob (Int32.ofNat S.length) nE kn wr pc th))) (h43 : M[43]? = some c43) (hA : pArcs S c43) {a b c : Int32} {Q : Int32 → zM → Prop} (q1 : ∀ k x : Nat, S[k]? = some x → a = Int32.ofNat (x / 128) → b = Int32.ofNat (x / 16 % 8) → c = Int32.ofNat (x % 16) → Q (Int32.ofNat k) M) (q2 : (∀ x ∈ S, ¬ (a = Int32.ofNat (x / 128) ∧ b = Int32.ofNat (x / 16 % 8) ∧ c = Int32.ofNat (x % 16))) → Q (-1) M) : z_T (F_X11_find 42 a b c) M Q := by
  obtain ⟨as, rfl, hal, H⟩ := hA
  unfold F_X11_find F_X11_find_3
  refine ht_fix (body := fun ih s => B_X11_find_3 42 (fun y0 y1 y2 y3 => ih (y0, y1, y2, y3)) s.1 s.2.1 s.2.2.1 s.2.2.2) (I := fun n st M' => M' = M ∧ ∃ j : Nat, st = (a, b, c, Int32.ofNat j) ∧ j + n = S.length ∧ ∀ t x : Nat, t < j → S[t]? = some x → ¬ (a = Int32.ofNat (x / 128) ∧ b = Int32.ofNat (x / 16 % 8) ∧ c = Int32.ofNat (x % 16))) ?_ z_N S.length _ M (Nat.lt_of_le_of_lt hl (by decide)) ⟨rfl, 0, rfl, by omega, fun t x ht => by omega⟩
  intro n st M' ih hI hih
  obtain ⟨rfl, j, rfl, hj, hno⟩ := hI
  unfold B_X11_find_3 F_X11_find_58
  dsimp only
  refine ht_bd (ht_gi h (x := Int32.ofNat S.length) rfl ?_)
  refine ht_if (fun hle => ?_) (fun hle => ?_)
  · have hle := (n_le (by omega) (by omega)).mp hle
    refine ht_ret (q2 fun x hx => ?_)
    obtain ⟨t, ht, rfl⟩ := List.mem_iff_getElem.mp hx
    exact hno t _ (by omega) (List.getElem?_eq_getElem ht)
  · have hlt : j < S.length := Nat.lt_of_not_le fun g => hle ((n_le (by omega) (by omega)).mpr g)
    have hS := List.getElem?_eq_getElem hlt
    obtain ⟨a1, a2, a3⟩ := H j _ hS
    have nx : ¬ (a = Int32.ofNat (S[j] / 128) ∧ b = Int32.ofNat (S[j] / 16 % 8) ∧ c = Int32.ofNat (S[j] % 16)) → z_T (ih (a, b, c, Int32.ofNat j + 1)) M' Q := fun hn => by
      rw [n_s]
      refine hih (n - 1) _ _ (by omega) ⟨rfl, j + 1, rfl, by omega, fun t x ht hx => ?_⟩
      by_cases et : t < j
      · exact hno t x et hx
      · have : t = j := by omega
        subst this
        rw [hS] at hx
        cases hx
        exact hn
    refine ht_bd (ht_ga h (x := some 43) rfl ?_)
    refine ht_bd (va_li h43 n_3 (by omega) a1 ?_)
    refine ht_if (fun e0 => ?_) (fun e0 => nx (fun e => e0 e.1.symm))
    refine ht_bd (ht_ga h (x := some 43) rfl ?_)
    refine ht_bd (va_li h43 (by rw [n_3, n_s]) (by omega) a2 ?_)
    refine ht_if (fun e1 => ?_) (fun e1 => nx (fun e => e1 e.2.1.symm))
    refine ht_bd (ht_ga h (x := some 43) rfl ?_)
    refine ht_bd (va_li h43 (by rw [n_3, show (2 : Int32) = Int32.ofNat 2 from rfl, n_p]) (by omega) a3 ?_)
    refine ht_if (fun e2 => ?_) (fun e2 => nx (fun e => e2 e.2.2.symm))
    exact ht_ret (q1 j _ hS e0.symm e1.symm e2.symm)
theorem cnt_take {P : Nat → Bool} {j : Nat} (h : j < S.length) : ((S.take (j + 1)).filter P).length = ((S.take j).filter P).length + (if P S[j] = true then 1 else 0) := by
  rw [List.take_succ_eq_append_getElem h, List.filter_append, List.length_append]
  congr 1
  by_cases e : P S[j] = true
  · simp [e]
  · simp [e]
theorem f_many (hl : S.length ≤ 60) (h : M[42]? = some (.inr (11, rob (Int32.ofNat S.length) nE kn wr pc th))) (h43 : M[43]? = some c43) (hA : pArcs S c43) {v e : Nat} {P : Nat → Bool} (he : ∀ k x : Nat, S[k]? = some x → ∃ y : Int32, (∀ as : List Int32, (as[3 * k]? = some (Int32.ofNat (x / 128)) ∧ as[3 * k + 1]? = some (Int32.ofNat (x / 16 % 8)) ∧ as[3 * k + 2]? = some (Int32.ofNat (x % 16))) → as[3 * k + e]? = some y) ∧ (y = Int32.ofNat v ↔ P x = true)) (he3 : e < 3) {Q : Int32 → zM → Prop} (q : Q (Int32.ofNat (S.filter P).length) M) : z_T (F_X11_many 42 (Int32.ofNat v) (Int32.ofNat e)) M Q := by
  obtain ⟨as, rfl, hal, H⟩ := hA
  unfold F_X11_many F_X11_many_5
  refine ht_fix (body := fun ih s => B_X11_many_5 42 (fun y0 y1 y2 y3 => ih (y0, y1, y2, y3)) s.1 s.2.1 s.2.2.1 s.2.2.2) (I := fun n st M' => M' = M ∧ ∃ j : Nat, st = (Int32.ofNat v, Int32.ofNat e, Int32.ofNat ((S.take j).filter P).length, Int32.ofNat j) ∧ j + n = S.length) ?_ z_N S.length _ M (Nat.lt_of_le_of_lt hl (by decide)) ⟨rfl, 0, rfl, by omega⟩
  intro n st M' ih hI hih
  obtain ⟨rfl, j, rfl, hj⟩ := hI
  unfold B_X11_many_5 F_X11_many_35
  dsimp only
  refine ht_bd (ht_gi h (x := Int32.ofNat S.length) rfl ?_)
  refine ht_if (fun hle => ?_) (fun hle => ?_)
  · have hle := (n_le (by omega) (by omega)).mp hle
    rw [List.take_of_length_le (by omega)]
    exact ht_ret q
  · have hlt : j < S.length := Nat.lt_of_not_le fun g => hle ((n_le (by omega) (by omega)).mpr g)
    have hS := List.getElem?_eq_getElem hlt
    obtain ⟨y, hy1, hy2⟩ := he j _ hS
    have hct := cnt_take (P := P) hlt
    refine ht_bd (ht_ga h (x := some 43) rfl ?_)
    refine ht_bd (va_li h43 (by rw [n_3, n_p]) (by omega) (hy1 as (H j _ hS)) ?_)
    refine ht_if (fun e0 => ?_) (fun e0 => ?_)
    · rw [if_pos (hy2.mp e0)] at hct
      refine ht_bd (ht_ret ?_)
      rw [n_s, n_s, ← hct]
      exact hih (n - 1) _ _ (by omega) ⟨rfl, j + 1, rfl, by omega⟩
    · rw [if_neg (fun g => e0 (hy2.mpr g))] at hct
      refine ht_bd (ht_ret ?_)
      rw [show (0 : Int32) = Int32.ofNat 0 from rfl, n_p, ← hct, n_s]
      exact hih (n - 1) _ _ (by omega) ⟨rfl, j + 1, rfl, by omega⟩
theorem f_od (hS : SOK S) (h : M[42]? = some (.inr (11, rob (Int32.ofNat S.length) nE kn wr pc th))) (h43 : M[43]? = some c43) (hA : pArcs S c43) {v : Nat} (hv : v < 16) {Q : Int32 → zM → Prop} (q : Q (Int32.ofNat (odeg S v)) M) : z_T (F_X11_many 42 (Int32.ofNat v) 0) M Q := by
  refine f_many (e := 0) hS.2.1 h h43 hA (P := fun x => decide (x / 128 = v)) (fun k x hx => ⟨_, fun as ha => ha.1, ?_⟩) (by decide) q
  have := hS.2.2 x (List.mem_of_getElem? hx)
  rw [n_e (by omega) (by omega), decide_eq_true_eq]
theorem f_id (hS : SOK S) (h : M[42]? = some (.inr (11, rob (Int32.ofNat S.length) nE kn wr pc th))) (h43 : M[43]? = some c43) (hA : pArcs S c43) {v : Nat} (hv : v < 16) {Q : Int32 → zM → Prop} (q : Q (Int32.ofNat (ideg S v)) M) : z_T (F_X11_many 42 (Int32.ofNat v) 2) M Q := by
  refine f_many (e := 2) hS.2.1 h h43 hA (P := fun x => decide (x % 16 = v)) (fun k x hx => ⟨_, fun as ha => ha.2.2, ?_⟩) (by decide) q
  rw [n_e (by omega) (by omega), decide_eq_true_eq]
end RF
