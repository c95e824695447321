/-! PERSONS: how many, their places, errands, worths; what they say: the end (10: nothing), the minutes to it -/
abbrev PD : Type := Nat × (Nat → Nat) × (Nat → Nat) × (Nat → Nat)
abbrev VT : Type := (Nat → Nat) × (Nat → Nat)
def pE (P : PD) (V : VT) : EG := (P.1, P.2.1, V.1, fun p => 16 * V.2 p + 1, fun p => decide (p < P.1) && decide (V.1 p < 10))
def vOk (np : Nat) (P : PD) (V : VT) : Prop := np ≤ 10 ∧ P.1 ≤ 6 ∧ ∀ p, p < P.1 → P.2.1 p < np ∧ (V.1 p < 10 → V.1 p < np) ∧ V.2 p ≤ 891
theorem pE_ac {P : PD} {V : VT} {p : Nat} : (pE P V).2.2.2.2 p = true ↔ p < P.1 ∧ V.1 p < 10 := by
  show (decide (p < P.1) && decide (V.1 p < 10)) = true ↔ _
  simp only [Bool.and_eq_true, decide_eq_true_eq]
theorem pE_ok {np : Nat} {P : PD} {V : VT} (h : vOk np P V) : sp_ok (pE P V) 14257 := by
  intro p hp
  obtain ⟨h1, h2⟩ := pE_ac.mp hp
  obtain ⟨a, b, c⟩ := h.2.2 p h1
  have := h.1
  refine ⟨?_, h2, ?_, ?_⟩
  · show P.2.1 p < 10; omega
  · show 1 ≤ 16 * V.2 p + 1; omega
  · show 16 * V.2 p + 1 ≤ 14257; omega
/-- the keys of persons, far off at F -/
def kP (P : PD) (V : VT) (F t : Nat) : Nat → Nat := sp_K (pE P V) F t
abbrev FC : Nat := 1000000000
theorem kP_two {np : Nat} {P : PD} {V : VT} (h : vOk np P V) (t : Nat) {a : Nat} (ha : a < 10) : (kP P V FR t a < FR ∧ kP P V FC t a = kP P V FR t a) ∨ (kP P V FR t a = FR ∧ kP P V FC t a = FC) := sp_K_two (pE_ok h) ha (by decide) (by decide)
theorem kP_fix {np : Nat} {P : PD} {V : VT} (h : vOk np P V) {F t p : Nat} (hp : p < P.1) (hv : V.1 p < 10) : kP P V F t (P.2.1 p) ≤ kP P V F t (V.1 p) + (16 * V.2 p + 1) := sp_K_fix (pE_ok h) (show p < (pE P V).1 from hp) (pE_ac.mpr ⟨hp, hv⟩)
theorem kP_tight {np : Nat} {P : PD} {V : VT} (h : vOk np P V) {F t a : Nat} (ha : a ≠ t) (hl : kP P V F t a < F) : ∃ p, p < P.1 ∧ V.1 p < 10 ∧ P.2.1 p = a ∧ kP P V F t (V.1 p) + (16 * V.2 p + 1) = kP P V F t a := by
  obtain ⟨j, q1, q2, q3, q4⟩ := sp_K_tight (pE_ok h) ha hl
  obtain ⟨r1, r2⟩ := pE_ac.mp q2
  exact ⟨j, r1, r2, q3, q4⟩
theorem kP_t {P : PD} {V : VT} {F t : Nat} : kP P V F t t = 0 := sp_K_t
theorem kP_le {P : PD} {V : VT} {F t : Nat} (a : Nat) : kP P V F t a ≤ F := sp_K_le a
theorem kP_small {np : Nat} {P : PD} {V : VT} (h : vOk np P V) {F t a : Nat} (ha : a < 10) (hl : kP P V F t a < F) : kP P V F t a ≤ 128313 := sp_K_small (pE_ok h) ha hl
/-- whether a person leads from here, if the set has led -/
def ldB (P : PD) (V : VT) (here set p : Nat) : Bool := decide (P.2.1 p = here) && (decide (V.1 p < 10) && !(set.testBit p))
theorem ldB_iff {P : PD} {V : VT} {here set p : Nat} : ldB P V here set p = true ↔ P.2.1 p = here ∧ V.1 p < 10 ∧ set.testBit p = false := by
  unfold ldB
  simp only [Bool.and_eq_true, decide_eq_true_eq, Bool.not_eq_true']
/-- the set may have led, and none of it is wanted from here on -/
def cdS (P : PD) (V : VT) (K : Nat → Nat) (set a : Nat) : Prop := ∀ p, p < P.1 → set.testBit p = true → K a < K (P.2.1 p)
theorem or_bit {s p q : Nat} : (s ||| 1 <<< p).testBit q = (s.testBit q || decide (p = q)) := by
  rw [Nat.testBit_or, Nat.one_shiftLeft, Nat.testBit_two_pow]
theorem cdS_step {P : PD} {V : VT} {K : Nat → Nat} {set a p : Nat} (h : cdS P V K set a) (hp : P.2.1 p = a) {b : Nat} (hb : K b < K a) : cdS P V K (set ||| 1 <<< p) b := by
  intro q hq hs
  rw [or_bit, Bool.or_eq_true, decide_eq_true_eq] at hs
  rcases hs with hs | hs
  · have := h q hq hs; omega
  · rw [← hs, hp]; exact hb
theorem cdS_free {P : PD} {V : VT} {K : Nat → Nat} {set a p : Nat} (h : cdS P V K set a) (hpn : p < P.1) (hp : P.2.1 p = a) : set.testBit p = false := by
  cases e : set.testBit p with
  | false => rfl
  | true =>
    have := h p hpn e
    rw [hp] at this
    omega
theorem cdS_0 {P : PD} {V : VT} {K : Nat → Nat} {a : Nat} : cdS P V K 0 a := by
  intro p _ h
  rw [Nat.zero_testBit] at h
  cases h
/-- the soonest guide at a place; how many are wanted -/
def gdN (P : PD) (V : VT) (K : Nat → Nat) (here : Nat) : Nat := fdF (fun p => decide (P.2.1 p = here) && (decide (V.1 p < 10) && decide (K (V.1 p) + (16 * V.2 p + 1) = K here))) P.1 0
def gdA (P : PD) (V : VT) (K : Nat → Nat) (a : Nat) : Nat → Nat
  | 0 => a
  | i + 1 => V.1 (gdN P V K (gdA P V K a i))
theorem fdF_hit {p : Nat → Bool} : ∀ n i, (∃ k, i ≤ k ∧ k < i + n ∧ p k = true) → p (fdF p n i) = true ∧ fdF p n i < i + n ∧ ∀ j, i ≤ j → j < fdF p n i → p j = false
  | 0, i, ⟨k, h1, h2, _⟩ => by omega
  | n + 1, i, ⟨k, h1, h2, h3⟩ => by
    unfold fdF
    by_cases e : p i = true
    · rw [if_pos e]
      exact ⟨e, by omega, fun j q1 q2 => by omega⟩
    · rw [if_neg e]
      have hk : k ≠ i := fun z => e (z ▸ h3)
      obtain ⟨g1, g2, g3⟩ := fdF_hit n (i + 1) ⟨k, by omega, by omega, h3⟩
      refine ⟨g1, by omega, fun j q1 q2 => ?_⟩
      by_cases ej : j = i
      · rw [ej]; cases h : p i with
        | false => rfl
        | true => exact absurd h e
      · exact g3 j (by omega) q2
theorem gdN_is {np : Nat} {P : PD} {V : VT} (h : vOk np P V) {F t a : Nat} (ha : a ≠ t) (hl : kP P V F t a < F) : gdN P V (kP P V F t) a < P.1 ∧ P.2.1 (gdN P V (kP P V F t) a) = a ∧ V.1 (gdN P V (kP P V F t) a) < 10 ∧ kP P V F t (V.1 (gdN P V (kP P V F t) a)) + (16 * V.2 (gdN P V (kP P V F t) a) + 1) = kP P V F t a := by
  obtain ⟨p, q1, q2, q3, q4⟩ := kP_tight h ha hl
  obtain ⟨g1, g2, -⟩ := fdF_hit (p := fun p => decide (P.2.1 p = a) && (decide (V.1 p < 10) && decide (kP P V F t (V.1 p) + (16 * V.2 p + 1) = kP P V F t a))) P.1 0 ⟨p, Nat.zero_le _, by omega, by simp [q2, q3, q4]⟩
  simp only [Bool.and_eq_true, decide_eq_true_eq] at g1
  unfold gdN
  exact ⟨by omega, g1.1, g1.2.1, g1.2.2⟩
/-- how many persons may still lead -/
def rkP (P : PD) (K : Nat → Nat) (a : Nat) : Nat := sp_cn (fun p => decide (K (P.2.1 p) ≤ K a)) P.1
theorem rkP_lt {P : PD} {K : Nat → Nat} {a b p : Nat} (hp : p < P.1) (hpa : P.2.1 p = a) (h : K b < K a) : rkP P K b < rkP P K a := by
  refine sp_cn_lt P.1 (fun k _ hk => ?_) ⟨p, hp, by simp [hpa], by simp [hpa]; omega⟩
  simp only [decide_eq_true_eq] at hk ⊢
  omega
theorem gd_go {np : Nat} {P : PD} {V : VT} (h : vOk np P V) {F t a : Nat} (hnp : a < np) (hl : kP P V F t a < F) : ∃ n, n ≤ 6 ∧ gdA P V (kP P V F t) a n = t ∧ (∀ i, i < n → gdA P V (kP P V F t) a i ≠ t) ∧ (∀ i, i ≤ n → gdA P V (kP P V F t) a i < np ∧ kP P V F t (gdA P V (kP P V F t) a i) + i ≤ kP P V F t a) ∧ kP P V F t a % 16 = n := by
  have step : ∀ m i M, rkP P (kP P V F t) (gdA P V (kP P V F t) a i) ≤ m → (∀ j, j < i → gdA P V (kP P V F t) a j ≠ t) → (∀ j, j ≤ i → gdA P V (kP P V F t) a j < np ∧ kP P V F t (gdA P V (kP P V F t) a j) + j ≤ kP P V F t a) → kP P V F t (gdA P V (kP P V F t) a i) + i + 16 * M = kP P V F t a → ∃ n, n ≤ i + m ∧ gdA P V (kP P V F t) a n = t ∧ (∀ i, i < n → gdA P V (kP P V F t) a i ≠ t) ∧ (∀ i, i ≤ n → gdA P V (kP P V F t) a i < np ∧ kP P V F t (gdA P V (kP P V F t) a i) + i ≤ kP P V F t a) ∧ ∃ M, n + 16 * M = kP P V F t a := by
    intro m
    induction m with
    | zero =>
      intro i M hm h1 h2 h3
      by_cases e : gdA P V (kP P V F t) a i = t
      · rw [e, kP_t] at h3
        exact ⟨i, by omega, e, h1, h2, M, by omega⟩
      · have hl' : kP P V F t (gdA P V (kP P V F t) a i) < F := by have := (h2 i (Nat.le_refl _)).2; omega
        obtain ⟨g1, g2, g3, g4⟩ := gdN_is h e hl'
        have := rkP_lt (K := kP P V F t) (b := V.1 (gdN P V (kP P V F t) (gdA P V (kP P V F t) a i))) g1 g2 (by omega)
        omega
    | succ m ih =>
      intro i M hm h1 h2 h3
      by_cases e : gdA P V (kP P V F t) a i = t
      · rw [e, kP_t] at h3
        exact ⟨i, by omega, e, h1, h2, M, by omega⟩
      · have h20 := (h2 i (Nat.le_refl _)).2
        have hl' : kP P V F t (gdA P V (kP P V F t) a i) < F := by omega
        obtain ⟨g1, g2, g3, g4⟩ := gdN_is h e hl'
        have hr := rkP_lt (K := kP P V F t) (b := V.1 (gdN P V (kP P V F t) (gdA P V (kP P V F t) a i))) g1 g2 (by omega)
        have e1 : gdA P V (kP P V F t) a (i + 1) = V.1 (gdN P V (kP P V F t) (gdA P V (kP P V F t) a i)) := rfl
        obtain ⟨n, k1, k2⟩ := ih (i + 1) (M + V.2 (gdN P V (kP P V F t) (gdA P V (kP P V F t) a i))) (by rw [e1]; omega) (fun j hj => by
          by_cases q : j = i
          · rw [q]; exact e
          · exact h1 j (by omega)) (fun j hj => by
          by_cases q : j = i + 1
          · subst q
            rw [e1]
            exact ⟨(h.2.2 _ g1).2.1 g3, by omega⟩
          · exact h2 j (by omega)) (by rw [e1]; omega)
        exact ⟨n, by omega, k2⟩
  have hr6 : rkP P (kP P V F t) a ≤ 6 := Nat.le_trans (sp_cn_le _ _) h.2.1
  obtain ⟨n, k1, k2, k3, k4, M, k5⟩ := step 6 0 0 hr6 (fun j hj => by omega) (fun j hj => by
    have : j = 0 := by omega
    subst this
    exact ⟨hnp, by show kP P V F t a + 0 ≤ _; omega⟩) (by show kP P V F t a + 0 + 16 * 0 = _; omega)
  exact ⟨n, by omega, k2, k3, k4, by omega⟩
