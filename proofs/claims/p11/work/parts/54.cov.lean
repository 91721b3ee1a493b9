/-! COVERS: P covers M: the same length, and each cell of P is M's, or is the blank cell, at which every program fails, and there M is as B. What a program answers on P it answers on M, and where P stays blank M stays as it was. -/
def z_psn : zC := .inr (998, [])
def z_C (B : zM) (d : Nat) (P M : zM) : Prop := P.length = M.length ∧ zsz M = zsz P + d ∧ (∀ (i : Nat) (y : Nat × List Value), P[i]? = some (.inl y) → y.1 < 900) ∧ ∀ (i : Nat) (c : zC), P[i]? = some c → (c = z_psn → M[i]? = B[i]?) ∧ (c ≠ z_psn → M[i]? = some c)
def z_Mo {α : Type} (x : zMn α) : Prop := ∀ (B : zM) (d : Nat) (P M : zM) (r : α × zM), z_C B d P M → x.1 P = some r → ∃ M', x.1 M = some (r.1, M') ∧ z_C B d r.2 M' ∧ ∀ i : Nat, P[i]? = some z_psn → r.2[i]? = some z_psn
theorem z_C.bl {B : zM} {d : Nat} {P M : zM} (h : z_C B d P M) {i : Nat} (hi : P[i]? = some z_psn) : M[i]? = B[i]? := (h.2.2.2 i _ hi).1 rfl
theorem z_C.at {B : zM} {d : Nat} {P M : zM} (h : z_C B d P M) {i : Nat} {c : zC} (hi : P[i]? = some c) (hc : c ≠ z_psn) : M[i]? = some c := (h.2.2.2 i c hi).2 hc
theorem z_C.ar {B : zM} {d : Nat} {P M : zM} (h : z_C B d P M) {v : Option Nat} {x : Nat × List Value} (hx : z_ar P v = some x) : z_ar M v = some x := by
  obtain ⟨a, rfl, ha⟩ := z_ar_inv hx
  exact z_ar_eq (h.at ha (fun e => by cases e))
theorem z_C.ob {B : zM} {d : Nat} {P M : zM} (h : z_C B d P M) {v : Option Nat} {ci : Nat} {fs : List Value} (hc : ci ≠ 998) (hx : z_ob P v ci = some fs) : z_ob M v ci = some fs := by
  obtain ⟨a, rfl, ha⟩ := z_ob_inv hx
  exact z_ob_eq (h.at ha (fun e => by cases e; exact hc rfl))
theorem mo_ret {α : Type} {a : α} : z_Mo (z_ret a) := fun B d P M r hC h => by cases h; exact ⟨M, rfl, hC, fun _ h => h⟩
theorem mo_no {α : Type} : z_Mo (z_no : zMn α) := fun B d P M r hC h => by cases h
theorem mo_bd {α β : Type} {x : zMn α} {f : α → zMn β} (h : z_Mo x) (k : ∀ a, z_Mo (f a)) : z_Mo (z_bd x f) := by
  intro B d P M r hC hr
  obtain ⟨q, hq, hr'⟩ := z_bd_inv hr
  obtain ⟨M1, h1, hC1, hb1⟩ := h B d P M q hC hq
  obtain ⟨M2, h2, hC2, hb2⟩ := k q.1 B d q.2 M1 r hC1 hr'
  exact ⟨M2, by rw [z_bd_eq h1]; exact h2, hC2, fun i hi => hb2 i (hb1 i hi)⟩
theorem mo_if {α : Type} {G : Prop} [Decidable G] {x y : zMn α} (h1 : z_Mo x) (h2 : z_Mo y) : z_Mo (if G then x else y) := by
  by_cases h : G
  · rw [if_pos h]; exact h1
  · rw [if_neg h]; exact h2
theorem mo_fix {σ ρ : Type} {body : (σ → zMn ρ) → σ → zMn ρ} (h : ∀ ih : σ → zMn ρ, (∀ s, z_Mo (ih s)) → ∀ s, z_Mo (body ih s)) : ∀ (n : Nat) (s : σ), z_Mo (z_fix body n s) := by
  intro n
  induction n with
  | zero => intro s; exact mo_no
  | succ n ih => intro s; exact h _ ih s
theorem mo_rd {α : Type} {g : zM → Option α} (h : ∀ B d P M x, z_C B d P M → g P = some x → g M = some x) : z_Mo (z_rd g) := by
  intro B d P M r hC hr
  obtain ⟨x, hx, rfl⟩ := z_rd_inv hr
  exact ⟨M, z_rd_eq (h B d P M x hC hx), hC, fun _ h => h⟩
theorem mo_wr {g : zM → Option (Nat × zC)} (h : ∀ B d P M q, z_C B d P M → g P = some q → g M = some q ∧ M[q.1]? = P[q.1]? ∧ (∀ y : Nat × List Value, q.2 = .inl y → y.1 < 900) ∧ q.2 ≠ z_psn ∧ P[q.1]? ≠ some z_psn) : z_Mo (z_wr g) := by
  intro B d P M r hC hr
  obtain ⟨a, c, c', hg, hc, hn, hg0, rfl⟩ := z_wr_inv hr
  obtain ⟨h1, h2, h3, h4, h5⟩ := h B d P M _ hC hg
  dsimp only at h2 h3 h4 h5
  have hcM : M[a]? = some c := by rw [h2]; exact hc
  refine ⟨M.set a c', z_wr_eq h1 hcM hn hg0, ⟨by simpa using hC.1, ?_, ?_, ?_⟩, fun i hi => by
    rw [List.getElem?_set_ne (fun e => h5 (by rw [e]; exact hi))]; exact hi⟩
  · rw [zsz_set M a c c' hcM hn, zsz_set P a c c' hc hn]; exact hC.2.1
  · intro i y hi
    by_cases e : a = i
    · subst e
      rw [List.getElem?_set_self (List.getElem?_eq_some_iff.mp hc).1] at hi
      exact h3 y (Option.some.inj hi)
    · rw [List.getElem?_set_ne e] at hi
      exact hC.2.2.1 i y hi
  · intro i k hi
    by_cases e : a = i
    · subst e
      rw [List.getElem?_set_self (List.getElem?_eq_some_iff.mp hc).1] at hi
      rw [List.getElem?_set_self (List.getElem?_eq_some_iff.mp hcM).1]
      exact ⟨fun e => absurd ((Option.some.inj hi).trans e) h4, fun _ => hi⟩
    · rw [List.getElem?_set_ne e] at hi ⊢
      exact hC.2.2.2 i k hi
theorem mo_nw {c : zC} (hk : ∀ y : Nat × List Value, c = .inl y → y.1 < 900) (hp : c ≠ z_psn) : z_Mo (z_nw c) := by
  intro B d P M r hC hr
  cases hr
  refine ⟨M ++ [c], by rw [hC.1]; rfl, ⟨by simp [hC.1], ?_, ?_, ?_⟩, fun i hi => z_gp hi⟩
  · rw [zsz_push, zsz_push, hC.2.1]; omega
  · intro i y hi
    by_cases e : i < P.length
    · rw [List.getElem?_append_left e] at hi; exact hC.2.2.1 i y hi
    · rw [List.getElem?_append_right (by omega)] at hi
      have : i - P.length = 0 := by
        have := (List.getElem?_eq_some_iff.mp hi).1
        simp at this; omega
      rw [this] at hi
      exact hk y (Option.some.inj hi)
  · intro i k hi
    by_cases e : i < P.length
    · rw [List.getElem?_append_left e] at hi
      rw [List.getElem?_append_left (by rw [← hC.1]; exact e)]
      exact hC.2.2.2 i k hi
    · rw [List.getElem?_append_right (by omega)] at hi
      rw [List.getElem?_append_right (by rw [← hC.1]; omega), ← hC.1]
      refine ⟨fun e => ?_, fun _ => hi⟩
      have : i - P.length = 0 := by
        have := (List.getElem?_eq_some_iff.mp hi).1
        simp at this; omega
      rw [this] at hi
      exact absurd ((Option.some.inj hi).trans e) hp
theorem mo_gi {v : Option Nat} {ci k : Nat} (hc : ci ≠ 998) : z_Mo (z_gi v ci k) := mo_rd fun B d P M x hC h => by
  cases ho : z_ob P v ci with
  | none => rw [ho] at h; cases h
  | some fs => rw [hC.ob hc ho]; rw [ho] at h; exact h
theorem mo_gl {v : Option Nat} {ci k : Nat} (hc : ci ≠ 998) : z_Mo (z_gl v ci k) := mo_rd fun B d P M x hC h => by
  cases ho : z_ob P v ci with
  | none => rw [ho] at h; cases h
  | some fs => rw [hC.ob hc ho]; rw [ho] at h; exact h
theorem mo_ga {v : Option Nat} {ci k : Nat} (hc : ci ≠ 998) : z_Mo (z_ga v ci k) := mo_rd fun B d P M x hC h => by
  cases ho : z_ob P v ci with
  | none => rw [ho] at h; cases h
  | some fs => rw [hC.ob hc ho]; rw [ho] at h; exact h
theorem mo_rc {v : Option Nat} {ci : Nat} (hc : ci ≠ 998) : z_Mo (z_rc v ci) := mo_rd fun B d P M x hC h => by
  cases v with
  | none => cases h
  | some a =>
    simp only [Option.bind_some] at h ⊢
    cases ho : z_ob P (some a) ci with
    | none => rw [ho] at h; cases h
    | some fs => rw [hC.ob hc ho]; rw [ho] at h; exact h
theorem mo_len {v : Option Nat} : z_Mo (z_len v) := mo_rd fun B d P M x hC h => by
  cases ho : z_ar P v with
  | none => rw [ho] at h; cases h
  | some fs => rw [hC.ar ho]; rw [ho] at h; exact h
theorem mo_li {v : Option Nat} {i : Int32} : z_Mo (z_li v i) := mo_rd fun B d P M x hC h => by
  cases ho : z_ar P v with
  | none => rw [ho] at h; cases h
  | some fs => rw [hC.ar ho]; rw [ho] at h; exact h
theorem mo_ll {v : Option Nat} {i : Int32} : z_Mo (z_ll v i) := mo_rd fun B d P M x hC h => by
  cases ho : z_ar P v with
  | none => rw [ho] at h; cases h
  | some fs => rw [hC.ar ho]; rw [ho] at h; exact h
theorem mo_lb {v : Option Nat} {i : Int32} : z_Mo (z_lb v i) := mo_rd fun B d P M x hC h => by
  cases ho : z_ar P v with
  | none => rw [ho] at h; cases h
  | some fs => rw [hC.ar ho]; rw [ho] at h; exact h
theorem mo_la {v : Option Nat} {i : Int32} : z_Mo (z_la v i) := mo_rd fun B d P M x hC h => by
  cases ho : z_ar P v with
  | none => rw [ho] at h; cases h
  | some fs => rw [hC.ar ho]; rw [ho] at h; exact h
theorem mo_ia {v : Option Nat} : z_Mo (z_ia v) := mo_rd fun B d P M x hC h => by
  cases ho : z_ar P v with
  | none => rw [ho] at h; cases h
  | some fs => rw [hC.ar ho]; rw [ho] at h; exact h
theorem mo_nn {v : Option Nat} : z_Mo (z_nn v) := mo_rd fun B d P M x hC h => h
theorem mo_pf {v : Option Nat} {ci k : Nat} {w : Value} (hc : ci ≠ 998) : z_Mo (z_pf v ci k w) := mo_wr fun B d P M q hC h => by
  cases v with
  | none => cases h
  | some a =>
    simp only [Option.bind_some] at h ⊢
    cases ho : z_ob P (some a) ci with
    | none => rw [ho] at h; cases h
    | some fs =>
      rw [hC.ob hc ho]
      rw [ho, Option.bind_some] at h
      rw [Option.bind_some]
      refine ⟨h, ?_, ?_, ?_, ?_⟩
      · split at h
        · cases h
          obtain ⟨a', e, ha⟩ := z_ob_inv ho
          cases e
          dsimp only
          rw [ha]
          exact hC.at ha (fun e => by cases e; exact hc rfl)
        · cases h
      · split at h
        · cases h; intro y e; cases e
        · cases h
      · split at h
        · cases h; intro e; exact hc (congrArg Prod.fst (Sum.inr.inj e))
        · cases h
      · split at h
        · cases h
          obtain ⟨a', e, ha⟩ := z_ob_inv ho
          cases e
          dsimp only
          rw [ha]
          exact fun e => hc (congrArg Prod.fst (Sum.inr.inj (Option.some.inj e)))
        · cases h
theorem mo_arw {v : Option Nat} {g : (Nat × List Value) → Option (Nat × List Value)} (hg : ∀ y z, g y = some z → z.1 = y.1) : z_Mo (z_wr fun M => v.bind fun a => (z_ar M v).bind fun y => (g y).map fun z => (a, .inl z)) := mo_wr fun B d P M q hC h => by
  cases v with
  | none => cases h
  | some a =>
    simp only [Option.bind_some] at h ⊢
    cases ho : z_ar P (some a) with
    | none => rw [ho] at h; cases h
    | some y =>
      rw [hC.ar ho]
      rw [ho, Option.bind_some] at h
      rw [Option.bind_some]
      obtain ⟨a', e, ha⟩ := z_ar_inv ho
      cases e
      cases hz : g y with
      | none => rw [hz] at h; cases h
      | some z =>
        rw [hz] at h
        cases h
        refine ⟨rfl, ?_, ?_, (fun e => by cases e), (by dsimp only; rw [ha]; exact fun e => by cases e)⟩
        · dsimp only
          rw [ha]
          exact hC.at ha (fun e => by cases e)
        · intro y' e
          cases e
          rw [hg y z hz]
          exact hC.2.2.1 a y ha
theorem z_ifm {γ δ : Type} {B : Prop} [Decidable B] {x : γ} {f : γ → δ} : (if B then some (f x) else none) = (if B then some x else none).map f := by split <;> rfl
theorem mo_if1 {B : Prop} [Decidable B] {y w z : Nat × List Value} (h : (if B then some w else none) = some z) (e : w.1 = y.1) : z.1 = y.1 := by
  split at h
  · cases h; exact e
  · cases h
theorem mo_si {v : Option Nat} {i x : Int32} : z_Mo (z_si v i x) := by
  have := mo_arw (v := v) (g := fun y => if y.1 = 0 ∧ ¬ i < 0 ∧ i.toNatClampNeg < y.2.length then some (y.1, y.2.set i.toNatClampNeg (.int x)) else none) (fun y z h => mo_if1 h rfl)
  simp only [← z_ifm] at this
  exact this
theorem mo_slo {v : Option Nat} {i : Int32} {x : Int64} : z_Mo (z_slo v i x) := by
  have := mo_arw (v := v) (g := fun y => if y.1 = 3 ∧ ¬ i < 0 ∧ i.toNatClampNeg < y.2.length then some (y.1, y.2.set i.toNatClampNeg (.long x)) else none) (fun y z h => mo_if1 h rfl)
  simp only [← z_ifm] at this
  exact this
theorem mo_sb {v : Option Nat} {i x : Int32} : z_Mo (z_sb v i x) := by
  have := mo_arw (v := v) (g := fun y => if (y.1 = 4 ∧ (x = 0 ∨ x = 1)) ∧ ¬ i < 0 ∧ i.toNatClampNeg < y.2.length then some (y.1, y.2.set i.toNatClampNeg (.int x)) else none) (fun y z h => mo_if1 h rfl)
  simp only [← z_ifm] at this
  exact this
theorem mo_sa {v : Option Nat} {i : Int32} {x : Option Nat} : z_Mo (z_sa v i x) := mo_wr fun B d P M q hC h => by
  cases v with
  | none => cases h
  | some a =>
    simp only [Option.bind_some] at h ⊢
    cases ho : z_ar P (some a) with
    | none => rw [ho] at h; cases h
    | some y =>
      rw [hC.ar ho]
      rw [ho, Option.bind_some] at h
      rw [Option.bind_some]
      obtain ⟨a', e, ha⟩ := z_ar_inv ho
      cases e
      have hk := hC.2.2.1 a y ha
      split at h
      · rename_i hb
        cases h
        refine ⟨?_, ?_, ?_, (fun e => by cases e), (by dsimp only; rw [ha]; exact fun e => by cases e)⟩
        · rw [if_pos]
          refine ⟨hb.1, hb.2.1, hb.2.2.1, ?_⟩
          rcases hb.2.2.2 with h1 | h1
          · exact Or.inl h1
          · right
            cases hz : z_ob P x (y.1 - 8) with
            | none => rw [hz] at h1; cases h1
            | some fs => rw [hC.ob (by omega) hz]; rfl
        · dsimp only
          rw [ha]
          exact hC.at ha (fun e => by cases e)
        · intro y' e
          cases e
          exact hk
      · cases h
theorem mo_cp {v w : Option Nat} {n : Int32} : z_Mo (z_cp v w n) := mo_wr fun B d P M q hC h => by
  cases w with
  | none => cases h
  | some b =>
    simp only [Option.bind_some] at h ⊢
    cases ho : z_ar P v with
    | none => rw [ho] at h; cases h
    | some x =>
      rw [hC.ar ho]
      rw [ho, Option.bind_some] at h
      rw [Option.bind_some]
      cases hw : z_ar P (some b) with
      | none => rw [hw] at h; cases h
      | some y =>
        rw [hC.ar hw]
        rw [hw, Option.bind_some] at h
        rw [Option.bind_some]
        refine ⟨h, ?_, ?_, ?_, ?_⟩
        · split at h
          · cases h
            obtain ⟨b', e, hb⟩ := z_ar_inv hw
            cases e
            dsimp only
            rw [hb]
            exact hC.at hb (fun e => by cases e)
          · cases h
        · split at h
          · cases h; intro y' e; cases e; show 0 < 900; omega
          · cases h
        · split at h
          · cases h; intro e; cases e
          · cases h
        · split at h
          · cases h
            obtain ⟨b', e, hb⟩ := z_ar_inv hw
            cases e
            dsimp only
            rw [hb]
            exact fun e => by cases e
          · cases h
theorem mo_nwa {k : Nat} {d : Value} {n : Int32} (hk : k < 900) : z_Mo (z_nwa k d n) := mo_if (mo_nw (fun y e => by cases e; exact hk) (fun e => by cases e)) mo_no
theorem mo_rb {x : Int32} : z_Mo (z_rb x) := mo_if mo_ret mo_no
theorem mo_ck {B : Prop} [Decidable B] : z_Mo (z_ck B) := mo_if mo_ret mo_no
theorem mo_nwo {o : Nat × List Value} (hc : o.1 ≠ 998) : z_Mo (z_nw (.inr o)) := mo_nw (fun y e => by cases e) (fun e => hc (congrArg Prod.fst (Sum.inr.inj e)))
theorem mo_thr : z_Mo z_thr := mo_bd (mo_nwo (by decide)) (fun _ => mo_ret)
/-- the rule: what is answered on the cover; what is blank there stays -/
theorem ht_cov {α : Type} {x : zMn α} {B : zM} {d : Nat} {P M : zM} {Q : α → zM → Prop} (hm : z_Mo x) (hC : z_C B d P M) (h : z_T x P fun a P' => ∀ M', z_C B d P' M' → (∀ i : Nat, P[i]? = some z_psn → M'[i]? = B[i]?) → Q a M') : z_T x M Q := by
  obtain ⟨r, h1, h2⟩ := h
  obtain ⟨M', h3, h4, h5⟩ := hm B d P M r hC h1
  exact ⟨_, h3, h2 M' h4 (fun i hi => h4.bl (h5 i hi))⟩
/-- growth -/
def z_Gw (k n : Nat) {α : Type} (x : zMn α) : Prop := ∀ M r, x.1 M = some r → r.2.length ≤ M.length + k ∧ zsz r.2 ≤ zsz M + n
theorem gw_ret {α : Type} {a : α} : z_Gw 0 0 (z_ret a) := fun M r h => by cases h; exact ⟨Nat.le_refl _, Nat.le_refl _⟩
theorem gw_no {α : Type} : z_Gw 0 0 (z_no : zMn α) := fun M r h => by cases h
theorem gw_bd {α β : Type} {x : zMn α} {f : α → zMn β} {k n k' n' : Nat} (h : z_Gw k n x) (g : ∀ a, z_Gw k' n' (f a)) : z_Gw (k + k') (n + n') (z_bd x f) := fun M r hr => by
  obtain ⟨q, hq, hr'⟩ := z_bd_inv hr
  obtain ⟨h1, h2⟩ := h M q hq
  obtain ⟨h3, h4⟩ := g q.1 q.2 r hr'
  exact ⟨by omega, by omega⟩
theorem gw_le {α : Type} {x : zMn α} {k n k' n' : Nat} (h : z_Gw k n x) (hk : k ≤ k') (hn : n ≤ n') : z_Gw k' n' x := fun M r hr => ⟨Nat.le_trans (h M r hr).1 (by omega), Nat.le_trans (h M r hr).2 (by omega)⟩
theorem gw_if {α : Type} {G : Prop} [Decidable G] {x y : zMn α} {k n : Nat} (h1 : z_Gw k n x) (h2 : z_Gw k n y) : z_Gw k n (if G then x else y) := by
  by_cases h : G
  · rw [if_pos h]; exact h1
  · rw [if_neg h]; exact h2
theorem gw_fix {σ ρ : Type} {body : (σ → zMn ρ) → σ → zMn ρ} (h : ∀ ih : σ → zMn ρ, (∀ s, z_Gw 0 0 (ih s)) → ∀ s, z_Gw 0 0 (body ih s)) : ∀ (n : Nat) (s : σ), z_Gw 0 0 (z_fix body n s) := by
  intro n
  induction n with
  | zero => intro s; exact gw_no
  | succ n ih => intro s; exact h _ ih s
theorem gw_rd {α : Type} {g : zM → Option α} : z_Gw 0 0 (z_rd g) := fun M r hr => by
  obtain ⟨x, hx, rfl⟩ := z_rd_inv hr
  exact ⟨Nat.le_refl _, Nat.le_refl _⟩
theorem gw_wr {g : zM → Option (Nat × zC)} : z_Gw 0 0 (z_wr g) := fun M r hr => by
  obtain ⟨a, c, c', hg, hc, hn, hg0, rfl⟩ := z_wr_inv hr
  exact ⟨by simp, by rw [zsz_set M a c c' hc hn]; exact Nat.le_refl _⟩
theorem gw_nw {c : zC} {n : Nat} (h : zn c ≤ n) : z_Gw 1 n (z_nw c) := fun M r hr => by
  cases hr
  exact ⟨by simp, by rw [zsz_push]; omega⟩
theorem gw_nwa {k : Nat} {d : Value} {n : Int32} {m : Nat} (h : n.toNatClampNeg ≤ m) : z_Gw 1 m (z_nwa k d n) := gw_if (gw_nw (by show (List.replicate _ _).length ≤ m; rw [List.length_replicate]; exact h)) (gw_le gw_no (by omega) (by omega))
theorem gw_rb {x : Int32} : z_Gw 0 0 (z_rb x) := gw_if gw_ret gw_no
theorem gw_ck {G : Prop} [Decidable G] : z_Gw 0 0 (z_ck G) := gw_if gw_ret gw_no
theorem gz_bd {α β : Type} {x : zMn α} {f : α → zMn β} (h : z_Gw 0 0 x) (g : ∀ a, z_Gw 0 0 (f a)) : z_Gw 0 0 (z_bd x f) := gw_bd h g
theorem gw_b2 {α β : Type} {x : zMn α} {f : α → zMn β} {K N k n k' n' : Nat} (h : z_Gw k n x) (g : ∀ a, z_Gw k' n' (f a)) (e1 : k + k' ≤ K) (e2 : n + n' ≤ N) : z_Gw K N (z_bd x f) := gw_le (gw_bd h g) e1 e2
