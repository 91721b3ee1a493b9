/-! ROWS OF ARCS -/
def pRow (r : Nat → List Nat) (ck cc : zC) : Prop := ∃ ks cs : List Int32, ck = .inl (0, ks.map .int) ∧ cc = .inl (0, cs.map .int) ∧ ks.length = 64 ∧ cs.length = 16 ∧ ∀ v, v < 16 → (r v).length ≤ 4 ∧ cs[v]? = some (Int32.ofNat (r v).length) ∧ (∀ i k : Nat, (r v)[i]? = some k → ks[4 * v + i]? = some (Int32.ofNat k)) ∧ ∀ k ∈ r v, k < 128
section RW
variable {M : zM}
theorem va_li {a : Nat} {vs : List Int32} {i : Int32} {j : Nat} {x : Int32} {Q : Int32 → zM → Prop} (hc : M[a]? = some (.inl (0, vs.map .int))) (hi : i = Int32.ofNat j) (hj : j < 2147483648) (hx : vs[j]? = some x) (q : Q x M) : z_T (z_li (some a) i) M Q := by
  subst hi
  exact ht_li hc (by decide) (n_nn hj) (by rw [n_cl hj, List.getElem?_map, hx]; rfl) q
theorem va_si {a : Nat} {vs : List Int32} {i x : Int32} {j : Nat} {Q : Unit → zM → Prop} (ha : 2 ≤ a) (hc : M[a]? = some (.inl (0, vs.map .int))) (hi : i = Int32.ofNat j) (hj : j < 2147483648) (hl : j < vs.length) (q : Q () (M.set a (.inl (0, (vs.set j x).map .int)))) : z_T (z_si (some a) i x) M Q := by
  subst hi
  refine ht_si ha hc (n_nn hj) (by rw [n_cl hj, List.length_map]; exact hl) ?_
  rw [n_cl hj, ← List.map_set]
  exact q
theorem n_4 {v i : Nat} : Int32.ofNat v * 4 + Int32.ofNat i = Int32.ofNat (4 * v + i) := by
  rw [n_m4, ← Int32.ofNat_add, Nat.mul_comm]
theorem n_e {a b : Nat} (ha : a < 2147483648) (hb : b < 2147483648) : Int32.ofNat a = Int32.ofNat b ↔ a = b := by
  constructor
  · intro h
    have := congrArg Int32.toInt h
    rw [n_ti ha, n_ti hb] at this
    omega
  · intro h; rw [h]
/-- an object of rows at a, its keys at ak, its counts at ac -/
theorem r_indexOf {a ak ac v k : Nat} {r : Nat → List Nat} {ck cc : zC} (h : M[a]? = some (.inr (1, [.ref ak, .ref ac]))) (hk : M[ak]? = some ck) (hc : M[ac]? = some cc) (hr : pRow r ck cc) (hv : v < 16) (hk8 : k < 128) {Q : Int32 → zM → Prop} (q1 : ∀ i : Nat, (r v)[i]? = some k → Q (Int32.ofNat i) M) (q2 : k ∉ r v → Q (-1) M) : z_T (F_X0_indexOf a (Int32.ofNat v) (Int32.ofNat k)) M Q := by
  obtain ⟨ks, cs, rfl, rfl, hkl, hcl, H⟩ := hr
  obtain ⟨hl, hcv, hkv, hlt⟩ := H v hv
  unfold F_X0_indexOf F_X0_indexOf_2
  refine ht_fix (body := fun ih s => B_X0_indexOf_2 a (fun y0 y1 y2 => ih (y0, y1, y2)) s.1 s.2.1 s.2.2) (I := fun n st M' => M' = M ∧ ∃ j : Nat, st = (Int32.ofNat v, Int32.ofNat k, Int32.ofNat j) ∧ j + n = (r v).length ∧ ∀ t : Nat, t < j → (r v)[t]? ≠ some k) ?_ z_N (r v).length _ M (Nat.lt_of_le_of_lt hl (by decide)) ⟨rfl, 0, rfl, by omega, fun t ht => by omega⟩
  intro n st M' ih hI hih
  obtain ⟨rfl, j, rfl, hj, hno⟩ := hI
  unfold B_X0_indexOf_2
  dsimp only
  refine ht_bd (ht_ga h (x := some ac) rfl ?_)
  refine ht_bd (va_li hc rfl (by omega) hcv ?_)
  refine ht_if (fun hle => ?_) (fun hle => ?_)
  · have hle := (n_le (by omega) (by omega)).mp hle
    refine ht_ret (q2 fun hm => ?_)
    obtain ⟨t, ht, e⟩ := List.mem_iff_getElem.mp hm
    exact hno t (by omega) (by rw [List.getElem?_eq_getElem ht, e])
  · have hlt' : j < (r v).length := Nat.lt_of_not_le fun g => hle ((n_le (by omega) (by omega)).mpr g)
    refine ht_bd (ht_rc h ?_)
    refine ht_bd ?_
    unfold F_X0_key
    refine ht_bd (ht_ga h (x := some ak) rfl ?_)
    have hkj := hkv j _ (List.getElem?_eq_getElem hlt')
    have hb := hlt _ (List.getElem_mem hlt')
    refine ht_bd (va_li hk n_4 (by omega) hkj ?_)
    refine ht_ret ?_
    refine ht_if (fun he => ?_) (fun he => ?_)
    · have he := (n_e (by omega) (by omega)).mp he
      exact ht_ret (q1 j (by rw [List.getElem?_eq_getElem hlt', he]))
    · rw [n_s]
      refine hih (n - 1) _ _ (by omega) ⟨rfl, j + 1, rfl, by omega, fun t ht => ?_⟩
      by_cases et : t < j
      · exact hno t et
      · have : t = j := by omega
        subst this
        rw [List.getElem?_eq_getElem hlt']
        intro e
        exact he ((n_e (by omega) (by omega)).mpr (Option.some.inj e))
theorem r_count {a ak ac v : Nat} {r : Nat → List Nat} {ck cc : zC} (h : M[a]? = some (.inr (1, [.ref ak, .ref ac]))) (hc : M[ac]? = some cc) (hr : pRow r ck cc) (hv : v < 16) {Q : Int32 → zM → Prop} (q : Q (Int32.ofNat (r v).length) M) : z_T (F_X0_count a (Int32.ofNat v)) M Q := by
  obtain ⟨ks, cs, rfl, rfl, hkl, hcl, H⟩ := hr
  obtain ⟨hl, hcv, hkv, hlt⟩ := H v hv
  unfold F_X0_count
  refine ht_bd (ht_ga h (x := some ac) rfl ?_)
  refine ht_bd (va_li hc rfl (by omega) hcv ?_)
  exact ht_ret q
theorem r_key {a ak ac v i k : Nat} {r : Nat → List Nat} {ck cc : zC} (h : M[a]? = some (.inr (1, [.ref ak, .ref ac]))) (hk : M[ak]? = some ck) (hr : pRow r ck cc) (hv : v < 16) (hi : (r v)[i]? = some k) {Q : Int32 → zM → Prop} (q : Q (Int32.ofNat k) M) : z_T (F_X0_key a (Int32.ofNat v) (Int32.ofNat i)) M Q := by
  obtain ⟨ks, cs, rfl, rfl, hkl, hcl, H⟩ := hr
  obtain ⟨hl, hcv, hkv, hlt⟩ := H v hv
  have : i < (r v).length := (List.getElem?_eq_some_iff.mp hi).1
  unfold F_X0_key
  refine ht_bd (ht_ga h (x := some ak) rfl ?_)
  refine ht_bd (va_li hk n_4 (by omega) (hkv i k hi) ?_)
  exact ht_ret q
theorem r_isFull {a ak ac v : Nat} {r : Nat → List Nat} {ck cc : zC} (h : M[a]? = some (.inr (1, [.ref ak, .ref ac]))) (hc : M[ac]? = some cc) (hr : pRow r ck cc) (hv : v < 16) {Q : Int32 → zM → Prop} (q0 : (r v).length < 4 → Q 0 M) (q1 : (r v).length = 4 → Q 1 M) : z_T (F_X0_isFull a (Int32.ofNat v)) M Q := by
  obtain ⟨ks, cs, rfl, rfl, hkl, hcl, H⟩ := hr
  obtain ⟨hl, hcv, hkv, hlt⟩ := H v hv
  unfold F_X0_isFull F_X0_isFull_15
  rw [z_rb0, z_rb1]
  refine ht_bd (ht_ga h (x := some ac) rfl ?_)
  refine ht_bd (va_li hc rfl (by omega) hcv ?_)
  refine ht_if (fun h4 => ?_) (fun h4 => ?_)
  · exact ht_ret (q0 ((n_lt (b := 4) (by omega) (by decide)).mp h4))
  · exact ht_ret (q1 (Nat.le_antisymm hl (Nat.le_of_not_lt fun g => h4 ((n_lt (b := 4) (by omega) (by decide)).mpr g))))
/-- a key put into its place -/
def r_upd (r : Nat → List Nat) (v : Nat) (L : List Nat) : Nat → List Nat := fun w => if w = v then L else r w
theorem r_insert {a ak ac v k : Nat} {r : Nat → List Nat} {ck cc : zC} (hak : 2 ≤ ak) (hac : 2 ≤ ac) (hne : ak ≠ ac) (hna : ak ≠ a) (h : M[a]? = some (.inr (1, [.ref ak, .ref ac]))) (hk : M[ak]? = some ck) (hc : M[ac]? = some cc) (hr : pRow r ck cc) (hv : v < 16) (hk8 : k < 128) (hnf : (r v).length < 4) {Q : Unit → zM → Prop} (q : ∀ (L1 L2 : List Nat) (ck' cc' : zC), r v = L1 ++ L2 → (∀ m ∈ L2, k < m) → (∀ m, L1.getLast? = some m → m ≤ k) → pRow (r_upd r v (L1 ++ k :: L2)) ck' cc' → Q () ((M.set ak ck').set ac cc')) : z_T (F_X0_insert a (Int32.ofNat v) (Int32.ofNat k)) M Q := by
  have hrr := hr
  obtain ⟨ks, cs, rfl, rfl, hkl, hcl, H⟩ := hr
  obtain ⟨hl, hcv, hkv, hlt⟩ := H v hv
  unfold F_X0_insert
  refine ht_bd (ht_rc h ?_)
  refine ht_bd (r_isFull h hc hrr hv (fun _ => ?_) (fun h4 => by omega))
  rw [if_pos rfl]
  refine ht_bd (ht_ret ?_)
  refine ht_bd (ht_ga h (x := some ac) rfl ?_)
  refine ht_bd (va_li hc rfl (by omega) hcv ?_)
  refine ht_bd (ht_ret ?_)
  rw [n_4]
  have e0 : Int32.ofNat v * 4 = Int32.ofNat (4 * v) := by rw [n_m4, Nat.mul_comm]
  rw [e0]
  unfold F_X0_insert_23
  refine ht_fix (body := fun ih s => B_X0_insert_23 a (fun y0 y1 y2 y3 => ih (y0, y1, y2, y3)) s.1 s.2.1 s.2.2.1 s.2.2.2) (I := fun n st M' => ∃ (L1 L2 : List Nat) (ks' : List Int32), st = (Int32.ofNat v, Int32.ofNat k, Int32.ofNat (4 * v), Int32.ofNat (4 * v + L1.length)) ∧ n = L1.length ∧ r v = L1 ++ L2 ∧ (∀ m ∈ L2, k < m) ∧ M' = M.set ak (.inl (0, ks'.map .int)) ∧ ks'.length = 64 ∧ (∀ i x : Nat, L1[i]? = some x → ks'[4 * v + i]? = some (Int32.ofNat x)) ∧ (∀ i x : Nat, L2[i]? = some x → ks'[4 * v + L1.length + 1 + i]? = some (Int32.ofNat x)) ∧ ∀ p : Nat, (p < 4 * v ∨ 4 * v + 4 ≤ p) → ks'[p]? = ks[p]?) ?_ z_N (r v).length _ M (Nat.lt_of_le_of_lt hl (by decide)) ⟨r v, [], ks, rfl, rfl, by simp, fun m hm => by simp at hm, (z_ss hk).symm, hkl, hkv, fun i x hx => by simp at hx, fun p _ => rfl⟩
  intro n st M' ih hI hih
  obtain ⟨L1, L2, ks', rfl, rfl, hrv, hL2, rfl, hkl', J1, J2, J3⟩ := hI
  have hlen : L1.length + L2.length = (r v).length := by rw [hrv, List.length_append]
  have h' : (M.set ak (.inl (0, ks'.map .int)))[a]? = some (.inr (1, [.ref ak, .ref ac])) := by rw [z_go hna]; exact h
  have hk' : (M.set ak (.inl (0, ks'.map .int)))[ak]? = some (.inl (0, ks'.map .int)) := z_gs hk
  have hc' : (M.set ak (.inl (0, ks'.map .int)))[ac]? = some (.inl (0, cs.map .int)) := by rw [z_go hne]; exact hc
  -- the end
  have fin : (∀ m, L1.getLast? = some m → m ≤ k) → z_T (F_X0_insert_64 a (Int32.ofNat v) (Int32.ofNat k) (Int32.ofNat (4 * v + L1.length))) (M.set ak (.inl (0, ks'.map .int))) Q := by
    intro hlast
    unfold F_X0_insert_64
    refine ht_bd (ht_ga h' (x := some ak) rfl ?_)
    refine ht_bd (va_si hak hk' rfl (by omega) (by omega) ?_)
    rw [List.set_set]
    have h2 : (M.set ak (.inl (0, (ks'.set (4 * v + L1.length) (Int32.ofNat k)).map .int)))[a]? = some (.inr (1, [.ref ak, .ref ac])) := by rw [z_go hna]; exact h
    have hc2 : (M.set ak (.inl (0, (ks'.set (4 * v + L1.length) (Int32.ofNat k)).map .int)))[ac]? = some (.inl (0, cs.map .int)) := by rw [z_go hne]; exact hc
    refine ht_bd (ht_ga h2 (x := some ac) rfl ?_)
    refine ht_bd (va_li hc2 rfl (by omega) hcv ?_)
    refine ht_bd (va_si hac hc2 rfl (by omega) (by omega) ?_)
    refine ht_ret (q L1 L2 _ _ hrv hL2 hlast ⟨_, _, rfl, rfl, by simpa using hkl', by simpa using hcl, fun w hw => ?_⟩)
    by_cases e : w = v
    · subst e
      have eu : r_upd r w (L1 ++ k :: L2) w = L1 ++ k :: L2 := by unfold r_upd; rw [if_pos rfl]
      rw [eu]
      refine ⟨by simp; omega, ?_, fun i x hx => ?_, fun x hx => ?_⟩
      · rw [List.getElem?_set_self (by omega), n_s]
        congr 2
        simp
        omega
      · by_cases e1 : i < L1.length
        · rw [List.getElem?_append_left e1] at hx
          rw [List.getElem?_set_ne (by omega)]
          exact J1 i x hx
        · by_cases e2 : i = L1.length
          · subst e2
            rw [List.getElem?_append_right (by omega), Nat.sub_self] at hx
            cases hx
            exact List.getElem?_set_self (by omega)
          · obtain ⟨t, rfl⟩ : ∃ t, i = L1.length + 1 + t := ⟨i - L1.length - 1, by omega⟩
            rw [List.getElem?_append_right (by omega), show L1.length + 1 + t - L1.length = t + 1 by omega] at hx
            rw [List.getElem?_set_ne (by omega)]
            have := J2 t x hx
            rw [← this]
            congr 1
            omega
      · rcases List.mem_append.mp hx with hx | hx
        · exact hlt x (by rw [hrv]; exact List.mem_append_left _ hx)
        · rcases List.mem_cons.mp hx with hx | hx
          · rw [hx]; exact hk8
          · exact hlt x (by rw [hrv]; exact List.mem_append_right _ hx)
    · have eu : r_upd r v (L1 ++ k :: L2) w = r w := by unfold r_upd; rw [if_neg e]
      rw [eu]
      obtain ⟨a1, a2, a3, a4⟩ := H w hw
      refine ⟨a1, by rw [List.getElem?_set_ne (fun e' => e e'.symm)]; exact a2, fun i x hx => ?_, a4⟩
      have hi : i < (r w).length := (List.getElem?_eq_some_iff.mp hx).1
      rw [List.getElem?_set_ne (by omega), J3 (4 * w + i) (by omega)]
      exact a3 i x hx
  unfold B_X0_insert_23
  dsimp only
  refine ht_if (fun hle => ?_) (fun hle => ?_)
  · have hle := (n_le (by omega) (by omega)).mp hle
    refine fin (fun m hm => ?_)
    have : L1 = [] := List.eq_nil_of_length_eq_zero (by omega)
    subst this
    cases hm
  · have hgt : 0 < L1.length := Nat.pos_of_ne_zero fun g => hle ((n_le (by omega) (by omega)).mpr (by omega))
    have em : Int32.ofNat (4 * v + L1.length) - 1 = Int32.ofNat (4 * v + (L1.length - 1)) := by
      rw [show (1 : Int32) = Int32.ofNat 1 from rfl, ← Int32.ofNat_sub _ _ (by omega)]
      congr 1
      omega
    have hlast : L1[L1.length - 1]? = some (L1[L1.length - 1]'(by omega)) := List.getElem?_eq_getElem (by omega)
    have hmem : L1[L1.length - 1]'(by omega) < 128 := hlt _ (by rw [hrv]; exact List.mem_append_left _ (List.getElem_mem _))
    have hJ := J1 _ _ hlast
    refine ht_bd (ht_ga h' (x := some ak) rfl ?_)
    rw [em]
    refine ht_bd (va_li hk' rfl (by omega) hJ ?_)
    refine ht_if (fun hle2 => ?_) (fun hgt2 => ?_)
    · have hle2 := (n_le (by omega) (by omega)).mp hle2
      refine fin (fun m hm => ?_)
      rw [List.getLast?_eq_getElem?, hlast] at hm
      cases hm
      exact hle2
    · have hgt2 : k < L1[L1.length - 1]'(by omega) := Nat.lt_of_not_le fun g => hgt2 ((n_le (by omega) (by omega)).mpr g)
      refine ht_bd (ht_ga h' (x := some ak) rfl ?_)
      refine ht_bd (ht_ga h' (x := some ak) rfl ?_)
      refine ht_bd (va_li hk' rfl (by omega) hJ ?_)
      refine ht_bd (va_si hak hk' rfl (by omega) (by omega) ?_)
      rw [List.set_set]
      have ed : L1 = L1.dropLast ++ [L1[L1.length - 1]'(by omega)] := by
        have := List.dropLast_concat_getLast (l := L1) (fun e => by rw [e] at hgt; simp at hgt)
        rw [List.getLast_eq_getElem] at this
        exact this.symm
      have hdl : L1.dropLast.length = L1.length - 1 := by simp
      have em2 : Int32.ofNat (4 * v + L1.length) + (-1) = Int32.ofNat (4 * v + L1.dropLast.length) := by
        rw [hdl]
        have : Int32.ofNat (4 * v + L1.length) + (-1) = Int32.ofNat (4 * v + L1.length) - 1 := (Int32.sub_eq_add_neg _ _).symm
        rw [this]; exact em
      rw [em2]
      refine hih (L1.length - 1) _ _ (by omega) ⟨L1.dropLast, (L1[L1.length - 1]'(by omega)) :: L2, _, rfl, by simp, ?_, ?_, rfl, by simpa using hkl', ?_, ?_, ?_⟩
      · rw [hrv]
        rw [← List.singleton_append (l := L2), ← List.append_assoc, ← ed]
      · intro m hm
        rcases List.mem_cons.mp hm with e | e
        · rw [e]; exact hgt2
        · exact hL2 m e
      · intro i x hx
        have hi : i < L1.dropLast.length := (List.getElem?_eq_some_iff.mp hx).1
        rw [List.getElem?_set_ne (by omega)]
        refine J1 i x ?_
        rw [ed, List.getElem?_append_left hi]
        exact hx
      · intro i x hx
        rw [hdl]
        cases i with
        | zero =>
          cases hx
          rw [show 4 * v + (L1.length - 1) + 1 + 0 = 4 * v + L1.length by omega]
          exact List.getElem?_set_self (by omega)
        | succ i =>
          rw [List.getElem?_set_ne (by omega)]
          have := J2 i x hx
          rw [← this]
          congr 1
          omega
      · intro p hp
        rw [List.getElem?_set_ne (by omega)]
        exact J3 p hp
theorem n_1 {a : Nat} (h : 0 < a) : Int32.ofNat a - 1 = Int32.ofNat (a - 1) := by
  rw [show (1 : Int32) = Int32.ofNat 1 from rfl, ← Int32.ofNat_sub _ _ (by omega)]
/-- a key taken out -/
theorem r_remove {a ak ac v k : Nat} {r : Nat → List Nat} {ck cc : zC} (hak : 2 ≤ ak) (hac : 2 ≤ ac) (hne : ak ≠ ac) (hna : ak ≠ a) (h : M[a]? = some (.inr (1, [.ref ak, .ref ac]))) (hk : M[ak]? = some ck) (hc : M[ac]? = some cc) (hr : pRow r ck cc) (hv : v < 16) (hk8 : k < 128) (hin : k ∈ r v) {Q : Unit → zM → Prop} (q : ∀ (i0 : Nat) (ck' cc' : zC), (r v)[i0]? = some k → pRow (r_upd r v ((r v).eraseIdx i0)) ck' cc' → Q () ((M.set ak ck').set ac cc')) : z_T (F_X0_remove a (Int32.ofNat v) (Int32.ofNat k)) M Q := by
  have hrr := hr
  obtain ⟨ks, cs, rfl, rfl, hkl, hcl, H⟩ := hr
  obtain ⟨hl, hcv, hkv, hlt⟩ := H v hv
  unfold F_X0_remove
  refine ht_bd (ht_rc h ?_)
  refine ht_bd (r_indexOf h hk hc hrr hv hk8 (fun i0 hi0 => ?_) (fun hn => absurd hin hn))
  have hil : i0 < (r v).length := (List.getElem?_eq_some_iff.mp hi0).1
  have h00 : (0 : Int32) ≤ Int32.ofNat i0 := (n_le (a := 0) (by decide) (by omega)).mpr (Nat.zero_le _)
  rw [if_pos h00]
  refine ht_bd (ht_ret ?_)
  have e0 : Int32.ofNat v * 4 = Int32.ofNat (4 * v) := by rw [n_m4, Nat.mul_comm]
  rw [e0]
  unfold F_X0_remove_20
  refine ht_fix (body := fun ih s => B_X0_remove_20 a (fun y0 y1 y2 => ih (y0, y1, y2)) s.1 s.2.1 s.2.2) (I := fun n st M' => ∃ (i : Nat) (ks' : List Int32), st = (Int32.ofNat v, Int32.ofNat (4 * v), Int32.ofNat i) ∧ i0 ≤ i ∧ i + n + 1 = (r v).length ∧ M' = M.set ak (.inl (0, ks'.map .int)) ∧ ks'.length = 64 ∧ (∀ t x : Nat, t < i → ((r v).eraseIdx i0)[t]? = some x → ks'[4 * v + t]? = some (Int32.ofNat x)) ∧ (∀ t x : Nat, i ≤ t → (r v)[t]? = some x → ks'[4 * v + t]? = some (Int32.ofNat x)) ∧ ∀ p : Nat, (p < 4 * v ∨ 4 * v + 4 ≤ p) → ks'[p]? = ks[p]?) ?_ z_N ((r v).length - i0 - 1) _ M (Nat.lt_of_le_of_lt (show _ ≤ 4 by omega) (by decide)) ⟨i0, ks, rfl, Nat.le_refl _, by omega, (z_ss hk).symm, hkl, fun t x ht hx => ?_, fun t x _ hx => hkv t x hx, fun p _ => rfl⟩
  · intro n st M' ih hI hih
    obtain ⟨i, ks', rfl, hi0', hn, rfl, hkl', J1, J2, J3⟩ := hI
    have h' : (M.set ak (.inl (0, ks'.map .int)))[a]? = some (.inr (1, [.ref ak, .ref ac])) := by rw [z_go hna]; exact h
    have hk' : (M.set ak (.inl (0, ks'.map .int)))[ak]? = some (.inl (0, ks'.map .int)) := z_gs hk
    have hc' : (M.set ak (.inl (0, ks'.map .int)))[ac]? = some (.inl (0, cs.map .int)) := by rw [z_go hne]; exact hc
    unfold B_X0_remove_20
    dsimp only
    refine ht_bd (ht_ga h' (x := some ac) rfl ?_)
    refine ht_bd (va_li hc' rfl (by omega) hcv ?_)
    rw [n_s]
    refine ht_if (fun hle => ?_) (fun hle => ?_)
    · have hle := (n_le (by omega) (by omega)).mp hle
      have ei : i + 1 = (r v).length := by omega
      refine ht_bd (ht_ga h' (x := some ac) rfl ?_)
      refine ht_bd (va_li hc' rfl (by omega) hcv ?_)
      rw [n_1 (by omega)]
      refine ht_bd (va_si hac hc' rfl (by omega) (by omega) ?_)
      refine ht_ret (q i0 _ _ hi0 ⟨_, _, rfl, rfl, hkl', by simpa using hcl, fun w hw => ?_⟩)
      by_cases e : w = v
      · subst e
        have eu : r_upd r w ((r w).eraseIdx i0) w = (r w).eraseIdx i0 := by unfold r_upd; rw [if_pos rfl]
        rw [eu]
        have hle' : ((r w).eraseIdx i0).length = (r w).length - 1 := List.length_eraseIdx_of_lt hil
        refine ⟨by omega, ?_, fun t x hx => ?_, fun x hx => hlt x (List.mem_of_mem_eraseIdx hx)⟩
        · rw [List.getElem?_set_self (by omega), hle']
        · have ht : t < ((r w).eraseIdx i0).length := (List.getElem?_eq_some_iff.mp hx).1
          exact J1 t x (by omega) hx
      · have eu : r_upd r v ((r v).eraseIdx i0) w = r w := by unfold r_upd; rw [if_neg e]
        rw [eu]
        obtain ⟨a1, a2, a3, a4⟩ := H w hw
        refine ⟨a1, by rw [List.getElem?_set_ne (fun e' => e e'.symm)]; exact a2, fun t x hx => ?_, a4⟩
        have ht : t < (r w).length := (List.getElem?_eq_some_iff.mp hx).1
        rw [J3 (4 * w + t) (by omega)]
        exact a3 t x hx
    · have hgt : i + 1 < (r v).length := Nat.lt_of_not_le fun g => hle ((n_le (by omega) (by omega)).mpr g)
      refine ht_bd (ht_ga h' (x := some ak) rfl ?_)
      refine ht_bd (ht_ga h' (x := some ak) rfl ?_)
      have e1 : Int32.ofNat (4 * v) + Int32.ofNat i + 1 = Int32.ofNat (4 * v + (i + 1)) := by rw [← Int32.ofNat_add, n_s]; rfl
      have e2 : Int32.ofNat (4 * v) + Int32.ofNat i = Int32.ofNat (4 * v + i) := (Int32.ofNat_add _ _).symm
      rw [e1, e2]
      have hx1 : (r v)[i + 1]? = some ((r v)[i + 1]'hgt) := List.getElem?_eq_getElem hgt
      refine ht_bd (va_li hk' rfl (by omega) (J2 (i + 1) _ (by omega) hx1) ?_)
      refine ht_bd (va_si hak hk' rfl (by omega) (by omega) ?_)
      rw [List.set_set]
      refine hih (n - 1) _ _ (by omega) ⟨i + 1, _, rfl, by omega, by omega, rfl, by simpa using hkl', fun t x ht hx => ?_, fun t x ht hx => ?_, fun p hp => ?_⟩
      · by_cases et : t = i
        · subst et
          rw [List.getElem?_eraseIdx_of_ge hi0', hx1] at hx
          cases hx
          exact List.getElem?_set_self (by omega)
        · rw [List.getElem?_set_ne (by omega)]
          exact J1 t x (by omega) hx
      · rw [List.getElem?_set_ne (by omega)]
        exact J2 t x (by omega) hx
      · rw [List.getElem?_set_ne (by omega)]
        exact J3 p hp
  · rw [List.getElem?_eraseIdx_of_lt ht] at hx
    exact hkv t x hx
end RW
