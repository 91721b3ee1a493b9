/-! NUMBERS: int counters as Nat; how many numbers below 9^5 have a digit sum of at most 8 -/
theorem n_le {a b : Nat} (ha : a < 2 ^ 31) (hb : b < 2 ^ 31) : Int32.ofNat a ≤ Int32.ofNat b ↔ a ≤ b := Int32.ofNat_le_iff_le ha hb
theorem n_lt {a b : Nat} (ha : a < 2 ^ 31) (hb : b < 2 ^ 31) : Int32.ofNat a < Int32.ofNat b ↔ a < b := Int32.ofNat_lt_iff_lt ha hb
theorem n_nn {a : Nat} (ha : a < 2 ^ 31) : ¬ Int32.ofNat a < 0 := fun h => absurd ((n_lt ha (b := 0) (by decide)).mp h) (Nat.not_lt_zero _)
theorem n_cl {a : Nat} (ha : a < 2 ^ 31) : (Int32.ofNat a).toNatClampNeg = a := Int32.toNatClampNeg_ofNat_of_lt ha
theorem n_s {a : Nat} : Int32.ofNat a + 1 = Int32.ofNat (a + 1) := (Int32.ofNat_add a 1).symm
theorem n_dv {a : Nat} (ha : a < 2 ^ 31) : Int32.ofNat a / 9 = Int32.ofNat (a / 9) := (Int32.ofNat_div ha (b := 9) (by decide)).symm
theorem n_md {a : Nat} (ha : a < 2 ^ 31) : Int32.ofNat a - Int32.ofNat a / 9 * 9 = Int32.ofNat (a % 9) := by
  rw [n_dv ha, show (9 : Int32) = Int32.ofNat 9 from rfl, ← Int32.ofNat_mul, ← Int32.ofNat_sub _ _ (by omega)]
  congr 1
  omega
def g_ds (n : Nat) : Nat := n % 9 + n / 9 % 9 + n / 81 % 9 + n / 729 % 9 + n / 6561 % 9
theorem g_ds_s {n : Nat} (h : n < 59049) : g_ds n = n % 9 + g_ds (n / 9) := by
  unfold g_ds
  have h1 : n / 9 / 9 = n / 81 := by omega
  have h2 : n / 9 / 81 = n / 729 := by omega
  have h3 : n / 9 / 729 = n / 6561 := by omega
  have h4 : n / 9 / 6561 % 9 = 0 := by omega
  rw [h1, h2, h3, h4]
  omega
def g_one (n : Nat) : Nat := bif Nat.ble (g_ds n) 8 then 1 else 0
def g_c (k : Nat) : Nat → Nat := Nat.rec (motive := fun _ => Nat → Nat) (fun a => g_one a) (fun k ih a => ih a + ih (a + 9 ^ k) + ih (a + 9 ^ k + 9 ^ k) + ih (a + 9 ^ k + 9 ^ k + 9 ^ k) + ih (a + 9 ^ k + 9 ^ k + 9 ^ k + 9 ^ k) + ih (a + 9 ^ k + 9 ^ k + 9 ^ k + 9 ^ k + 9 ^ k) + ih (a + 9 ^ k + 9 ^ k + 9 ^ k + 9 ^ k + 9 ^ k + 9 ^ k) + ih (a + 9 ^ k + 9 ^ k + 9 ^ k + 9 ^ k + 9 ^ k + 9 ^ k + 9 ^ k) + ih (a + 9 ^ k + 9 ^ k + 9 ^ k + 9 ^ k + 9 ^ k + 9 ^ k + 9 ^ k + 9 ^ k)) k
def g_cnt : Nat → Nat
  | 0 => 0
  | n + 1 => g_cnt n + g_one n
theorem g_cnt_add : ∀ (k a : Nat), g_cnt (a + 9 ^ k) = g_cnt a + g_c k a := by
  intro k
  induction k with
  | zero => intro a; rfl
  | succ k ih =>
    intro a
    have e : g_c (k + 1) a = g_c k a + g_c k (a + 9 ^ k) + g_c k (a + 9 ^ k + 9 ^ k) + g_c k (a + 9 ^ k + 9 ^ k + 9 ^ k) + g_c k (a + 9 ^ k + 9 ^ k + 9 ^ k + 9 ^ k) + g_c k (a + 9 ^ k + 9 ^ k + 9 ^ k + 9 ^ k + 9 ^ k) + g_c k (a + 9 ^ k + 9 ^ k + 9 ^ k + 9 ^ k + 9 ^ k + 9 ^ k) + g_c k (a + 9 ^ k + 9 ^ k + 9 ^ k + 9 ^ k + 9 ^ k + 9 ^ k + 9 ^ k) + g_c k (a + 9 ^ k + 9 ^ k + 9 ^ k + 9 ^ k + 9 ^ k + 9 ^ k + 9 ^ k + 9 ^ k) := rfl
    rw [e, show a + 9 ^ (k + 1) = a + 9 ^ k + 9 ^ k + 9 ^ k + 9 ^ k + 9 ^ k + 9 ^ k + 9 ^ k + 9 ^ k + 9 ^ k by rw [Nat.pow_succ]; omega]
    rw [ih, ih, ih, ih, ih, ih, ih, ih, ih]
    omega
theorem g_all : g_c 5 0 = 1287 := by decide +kernel
theorem g_cnt_all : g_cnt 59049 = 1287 := by
  have := g_cnt_add 5 0
  rw [g_all] at this
  rw [show (0 : Nat) + 9 ^ 5 = 59049 from rfl, show g_cnt 0 = 0 from rfl, Nat.zero_add] at this
  exact this
theorem g_cnt_mono {a b : Nat} (h : a ≤ b) : g_cnt a ≤ g_cnt b := by
  induction b with
  | zero => have : a = 0 := by omega
            subst this; exact Nat.le_refl _
  | succ b ih =>
    by_cases e : a = b + 1
    · subst e; exact Nat.le_refl _
    · have := ih (by omega)
      show g_cnt a ≤ g_cnt b + g_one b
      omega
theorem g_cnt_lt {b : Nat} (h : b < 59049) (hd : g_ds b ≤ 8) : g_cnt b < 1287 ∧ g_cnt (b + 1) = g_cnt b + 1 := by
  have h1 : g_cnt (b + 1) = g_cnt b + 1 := by
    show g_cnt b + g_one b = _
    unfold g_one
    rw [show Nat.ble (g_ds b) 8 = true from Nat.ble_eq_true_of_le hd]
    rfl
  have h2 := g_cnt_mono (a := b + 1) (b := 59049) (by omega)
  rw [g_cnt_all] at h2
  omega
theorem g_cnt_no {b : Nat} (hd : ¬ g_ds b ≤ 8) : g_cnt (b + 1) = g_cnt b := by
  show g_cnt b + g_one b = _
  unfold g_one
  rw [show Nat.ble (g_ds b) 8 = false from by
    cases h : Nat.ble (g_ds b) 8 with
    | false => rfl
    | true => exact absurd (Nat.le_of_ble_eq_true h) hd]
  rfl
/-- which cells a literal picture leaves out -/
def z_covb : zM → zM → Bool
  | [], [] => true
  | c :: P, c' :: P' => (decide (c = z_psn) || decide (c = c')) && z_covb P P'
  | _, _ => false
def z_kdb (P : zM) : Bool := P.all (fun c => match c with
  | .inl y => Nat.blt y.1 900
  | .inr _ => true)
theorem z_kdb_1 {P : zM} (h : z_kdb P = true) : ∀ (i : Nat) (y : Nat × List Value), P[i]? = some (.inl y) → y.1 < 900 := by
  intro i y hi
  have := List.all_eq_true.mp h _ (List.mem_of_getElem? hi)
  exact Nat.blt_eq.mp this
theorem z_covb_1 : ∀ {P P' : zM}, z_covb P P' = true → P.length = P'.length ∧ zsz P ≤ zsz P' ∧ ∀ (i : Nat) (c : zC), P[i]? = some c → c = z_psn ∨ P'[i]? = some c
  | [], [], _ => ⟨rfl, Nat.le_refl _, fun i c h => by simp at h⟩
  | [], _ :: _, h => by cases h
  | _ :: _, [], h => by cases h
  | c :: P, c' :: P', h => by
    have h' : ((decide (c = z_psn) || decide (c = c')) && z_covb P P') = true := h
    rw [Bool.and_eq_true, Bool.or_eq_true, decide_eq_true_eq, decide_eq_true_eq] at h'
    obtain ⟨h1, h2, h3⟩ := z_covb_1 h'.2
    refine ⟨by simp [h1], ?_, ?_⟩
    · have hn : zn c ≤ zn c' := by
        rcases h'.1 with e | e
        · rw [e]; exact Nat.zero_le _
        · rw [e]; exact Nat.le_refl _
      simp only [zsz, List.map_cons, List.sum_cons] at h2 ⊢
      omega
    · intro i k hi
      cases i with
      | zero =>
        have e : c = k := by simpa using hi
        subst e
        rcases h'.1 with e | e
        · exact Or.inl e
        · right; rw [e]; rfl
      | succ i => exact h3 i k (by simpa using hi)
theorem z_C_new {B : zM} {d : Nat} {P P' M : zM} (h : z_C B d P' M) (hl : P.length = P'.length) (hz : zsz P ≤ zsz P') (hc : ∀ (i : Nat) (c : zC), P[i]? = some c → c = z_psn ∨ P'[i]? = some c) (hk : z_kdb P = true) : z_C M (d + (zsz P' - zsz P)) P M := by
  obtain ⟨g1, g2, g3, g4⟩ := h
  refine ⟨by omega, by omega, z_kdb_1 hk, fun i c hi => ⟨fun _ => rfl, fun hn => ?_⟩⟩
  rcases hc i c hi with e | e
  · exact absurd e hn
  · exact (g4 i c e).2 hn
theorem z_C_weak {B : zM} {d : Nat} {P P' M : zM} (h : z_C B d P' M) (hb : z_covb P P' = true) (hk : z_kdb P = true) : z_C M (d + (zsz P' - zsz P)) P M := by
  obtain ⟨h1, h2, h3⟩ := z_covb_1 hb
  exact z_C_new h h1 h2 h3 hk
/-- a memory and its own picture -/
theorem z_C_in {M P : zM} (hl : P.length = M.length) (hz : zsz P ≤ zsz M) (hc : ∀ (i : Nat) (c : zC), P[i]? = some c → c = z_psn ∨ M[i]? = some c) (hk : z_kdb P = true) : z_C M (zsz M - zsz P) P M := ⟨hl, by omega, z_kdb_1 hk, fun i c hi => ⟨fun _ => rfl, fun hn => (hc i c hi).resolve_left hn⟩⟩
