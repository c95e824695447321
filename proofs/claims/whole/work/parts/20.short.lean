/-! SHORTEST: directed edges j < E.1 from E.2.1 j to E.2.2.1 j at cost E.2.2.2.1 j, those that are active (E.2.2.2.2) -/
abbrev EG : Type := Nat × (Nat → Nat) × (Nat → Nat) × (Nat → Nat) × (Nat → Bool)
def sp_rx (E : EG) (j : Nat) (K : Nat → Nat) : Nat → Nat := fun a => if E.2.2.2.2 j = true ∧ a = E.2.1 j then min (K a) (K (E.2.2.1 j) + E.2.2.2.1 j) else K a
def sp_rd (E : EG) : Nat → (Nat → Nat) → Nat → Nat
  | 0, K => K
  | j + 1, K => sp_rx E j (sp_rd E j K)
def sp_ch (E : EG) : Nat → (Nat → Nat) → Bool
  | 0, _ => false
  | j + 1, K => sp_ch E j K || (E.2.2.2.2 j && decide ((sp_rd E j K) (E.2.2.1 j) + E.2.2.2.1 j < (sp_rd E j K) (E.2.1 j)))
def sp_it (E : EG) (K0 : Nat → Nat) : Nat → Nat → Nat
  | 0 => K0
  | r + 1 => sp_rd E E.1 (sp_it E K0 r)
def sp_in (F t : Nat) : Nat → Nat := fun a => if a = t then 0 else F
def sp_cn (p : Nat → Bool) : Nat → Nat
  | 0 => 0
  | n + 1 => sp_cn p n + (if p n = true then 1 else 0)
def sp_sm (K : Nat → Nat) : Nat → Nat
  | 0 => 0
  | n + 1 => sp_sm K n + K n
theorem sp_cn_le (p : Nat → Bool) : ∀ n, sp_cn p n ≤ n
  | 0 => Nat.le_refl 0
  | n + 1 => by
    have := sp_cn_le p n
    unfold sp_cn
    split <;> omega
theorem sp_cn_mono {p q : Nat → Bool} : ∀ n, (∀ k, k < n → p k = true → q k = true) → sp_cn p n ≤ sp_cn q n
  | 0, _ => Nat.le_refl 0
  | n + 1, h => by
    have h1 := sp_cn_mono n (fun k hk => h k (by omega))
    have h2 := h n (by omega)
    unfold sp_cn
    by_cases hp : p n = true
    · rw [if_pos hp, if_pos (h2 hp)]; omega
    · rw [if_neg hp]; split <;> omega
theorem sp_cn_lt {p q : Nat → Bool} : ∀ n, (∀ k, k < n → p k = true → q k = true) → (∃ k, k < n ∧ q k = true ∧ ¬ p k = true) → sp_cn p n < sp_cn q n
  | 0, _, h => by obtain ⟨k, hk, _⟩ := h; omega
  | n + 1, h, ⟨k, hk, h1, h2⟩ => by
    unfold sp_cn
    by_cases hkn : k = n
    · subst hkn
      have := sp_cn_mono k (fun j hj => h j (by omega))
      rw [if_neg h2, if_pos h1]; omega
    · have h3 := sp_cn_lt n (fun j hj => h j (by omega)) ⟨k, by omega, h1, h2⟩
      by_cases hp : p n = true
      · rw [if_pos hp, if_pos (h n (by omega) hp)]; omega
      · rw [if_neg hp]; split <;> omega
theorem sp_cn_top {p : Nat → Bool} : ∀ n k, k < n → ¬ p k = true → sp_cn p n < n
  | 0, k, h, _ => by omega
  | n + 1, k, h, hp => by
    unfold sp_cn
    by_cases hk : k = n
    · subst hk
      rw [if_neg hp]
      have := sp_cn_le p k
      omega
    · have := sp_cn_top n k (by omega) hp
      split <;> omega
theorem sp_sm_le {K K' : Nat → Nat} (h : ∀ a, K' a ≤ K a) : ∀ n, sp_sm K' n ≤ sp_sm K n
  | 0 => Nat.le_refl 0
  | n + 1 => by
    have := sp_sm_le h n
    have := h n
    unfold sp_sm
    omega
theorem sp_sm_lt {K K' : Nat → Nat} (h : ∀ a, K' a ≤ K a) : ∀ n a, a < n → K' a < K a → sp_sm K' n < sp_sm K n
  | 0, a, ha, _ => by omega
  | n + 1, a, ha, hl => by
    unfold sp_sm
    by_cases e : a = n
    · subst e
      have := sp_sm_le h a
      omega
    · have := sp_sm_lt h n a (by omega) hl
      have := h n
      omega
theorem sp_rx_le (E : EG) (j : Nat) (K : Nat → Nat) (a : Nat) : sp_rx E j K a ≤ K a := by
  unfold sp_rx
  split
  · exact Nat.min_le_left _ _
  · exact Nat.le_refl _
theorem sp_rd_le (E : EG) (K : Nat → Nat) (a : Nat) : ∀ n, sp_rd E n K a ≤ K a
  | 0 => Nat.le_refl _
  | n + 1 => Nat.le_trans (sp_rx_le E n _ a) (sp_rd_le E K a n)
theorem sp_rd_mono (E : EG) (K : Nat → Nat) (a : Nat) {m : Nat} : ∀ n, m ≤ n → sp_rd E n K a ≤ sp_rd E m K a
  | 0, h => by have : m = 0 := by omega
               subst this; exact Nat.le_refl _
  | n + 1, h => by
    by_cases e : m = n + 1
    · subst e; exact Nat.le_refl _
    · exact Nat.le_trans (sp_rx_le E n _ a) (sp_rd_mono E K a n (by omega))
theorem sp_rd_edge (E : EG) (K : Nat → Nat) {j n : Nat} (hj : j < n) (ha : E.2.2.2.2 j = true) : sp_rd E n K (E.2.1 j) ≤ K (E.2.2.1 j) + E.2.2.2.1 j := by
  refine Nat.le_trans (sp_rd_mono E K _ (m := j + 1) n hj) ?_
  show sp_rx E j (sp_rd E j K) (E.2.1 j) ≤ _
  unfold sp_rx
  rw [if_pos ⟨ha, rfl⟩]
  refine Nat.le_trans (Nat.min_le_right _ _) ?_
  have := sp_rd_le E K (E.2.2.1 j) j
  omega
theorem sp_rx_id {E : EG} {j : Nat} {K : Nat → Nat} (h : ¬ (E.2.2.2.2 j = true ∧ K (E.2.2.1 j) + E.2.2.2.1 j < K (E.2.1 j))) : sp_rx E j K = K := by
  funext a
  unfold sp_rx
  split
  · rename_i h1
    obtain ⟨h1, rfl⟩ := h1
    have : ¬ K (E.2.2.1 j) + E.2.2.2.1 j < K (E.2.1 j) := fun z => h ⟨h1, z⟩
    omega
  · rfl
theorem sp_ch_fix {E : EG} {K : Nat → Nat} : ∀ n, sp_ch E n K = false → sp_rd E n K = K ∧ ∀ j, j < n → E.2.2.2.2 j = true → K (E.2.1 j) ≤ K (E.2.2.1 j) + E.2.2.2.1 j
  | 0, _ => ⟨rfl, fun j hj => by omega⟩
  | n + 1, h => by
    simp only [sp_ch, Bool.or_eq_false_iff, Bool.and_eq_false_iff, decide_eq_false_iff_not] at h
    obtain ⟨h1, h2⟩ := h
    obtain ⟨e, h3⟩ := sp_ch_fix n h1
    rw [e] at h2
    have h4 : ¬ (E.2.2.2.2 n = true ∧ K (E.2.2.1 n) + E.2.2.2.1 n < K (E.2.1 n)) := by
      rintro ⟨a, b⟩
      rcases h2 with h2 | h2
      · rw [h2] at a; cases a
      · exact h2 b
    refine ⟨?_, fun j hj ha => ?_⟩
    · show sp_rx E n (sp_rd E n K) = K
      rw [e]
      exact sp_rx_id h4
    · by_cases hjn : j = n
      · subst hjn
        exact Nat.not_lt.mp (fun z => h4 ⟨ha, z⟩)
      · exact h3 j (by omega) ha
theorem sp_ch_drop {E : EG} {K : Nat → Nat} (hE : ∀ j, E.2.2.2.2 j = true → E.2.1 j < 10) : ∀ n, sp_ch E n K = true → ∃ a, a < 10 ∧ sp_rd E n K a < K a
  | 0, h => by cases h
  | n + 1, h => by
    simp only [sp_ch, Bool.or_eq_true, Bool.and_eq_true, decide_eq_true_eq] at h
    rcases h with h | ⟨h1, h2⟩
    · obtain ⟨a, ha, hl⟩ := sp_ch_drop hE n h
      exact ⟨a, ha, Nat.lt_of_le_of_lt (sp_rx_le E n _ a) hl⟩
    · refine ⟨E.2.1 n, hE n h1, ?_⟩
      show sp_rx E n (sp_rd E n K) (E.2.1 n) < _
      unfold sp_rx
      rw [if_pos ⟨h1, rfl⟩]
      have := sp_rd_le E K (E.2.1 n) n
      omega
/-- what holds all along -/
def sp_iv (E : EG) (F t : Nat) (K : Nat → Nat) : Prop := K t = 0 ∧ (∀ a, K a ≤ F) ∧ ∀ a, a ≠ t → K a < F → ∃ j, j < E.1 ∧ E.2.2.2.2 j = true ∧ E.2.1 j = a ∧ K (E.2.2.1 j) + E.2.2.2.1 j ≤ K a
theorem sp_iv_rx {E : EG} {F t j : Nat} {K : Nat → Nat} (h : sp_iv E F t K) (hj : j < E.1) : sp_iv E F t (sp_rx E j K) := by
  obtain ⟨h1, h2, h3⟩ := h
  refine ⟨?_, fun a => Nat.le_trans (sp_rx_le E j K a) (h2 a), fun a ha hl => ?_⟩
  · have := sp_rx_le E j K t
    omega
  · by_cases e : E.2.2.2.2 j = true ∧ a = E.2.1 j ∧ K (E.2.2.1 j) + E.2.2.2.1 j ≤ K a
    · obtain ⟨e1, e2, e3⟩ := e
      refine ⟨j, hj, e1, e2.symm, ?_⟩
      have h4 : sp_rx E j K a = K (E.2.2.1 j) + E.2.2.2.1 j := by
        unfold sp_rx
        rw [if_pos ⟨e1, e2⟩]
        omega
      rw [h4]
      have := sp_rx_le E j K (E.2.2.1 j)
      omega
    · have h4 : sp_rx E j K a = K a := by
        unfold sp_rx
        split
        · rename_i q
          have : ¬ K (E.2.2.1 j) + E.2.2.2.1 j ≤ K a := fun z => e ⟨q.1, q.2, z⟩
          omega
        · rfl
      rw [h4] at hl ⊢
      obtain ⟨i, q1, q2, q3, q4⟩ := h3 a ha hl
      refine ⟨i, q1, q2, q3, ?_⟩
      have := sp_rx_le E j K (E.2.2.1 i)
      omega
theorem sp_iv_rd {E : EG} {F t : Nat} {K : Nat → Nat} (h : sp_iv E F t K) : ∀ n, n ≤ E.1 → sp_iv E F t (sp_rd E n K)
  | 0, _ => h
  | n + 1, hn => sp_iv_rx (sp_iv_rd h n (by omega)) (by omega)
theorem sp_iv_in {E : EG} {F t : Nat} : sp_iv E F t (sp_in F t) := by
  refine ⟨by simp [sp_in], fun a => by unfold sp_in; split <;> omega, fun a ha hl => ?_⟩
  simp [sp_in, ha] at hl
theorem sp_iv_it {E : EG} {F t : Nat} : ∀ r, sp_iv E F t (sp_it E (sp_in F t) r)
  | 0 => sp_iv_in
  | r + 1 => sp_iv_rd (sp_iv_it r) E.1 (Nat.le_refl _)
theorem sp_it_add (E : EG) (K : Nat → Nat) (m : Nat) : ∀ n, sp_it E K (m + n) = sp_it E (sp_it E K m) n
  | 0 => rfl
  | n + 1 => by show sp_rd E E.1 (sp_it E K (m + n)) = sp_rd E E.1 (sp_it E (sp_it E K m) n); rw [sp_it_add E K m n]
theorem sp_it_le (E : EG) (K : Nat → Nat) (a : Nat) : ∀ n, sp_it E K n a ≤ K a
  | 0 => Nat.le_refl _
  | n + 1 => Nat.le_trans (sp_rd_le E _ a E.1) (sp_it_le E K a n)
theorem sp_it_fix {E : EG} {K : Nat → Nat} (h : sp_ch E E.1 K = false) : ∀ n, sp_it E K n = K
  | 0 => rfl
  | n + 1 => by show sp_rd E E.1 (sp_it E K n) = K; rw [sp_it_fix h n]; exact (sp_ch_fix E.1 h).1
theorem sp_ex {E : EG} (hE : ∀ j, E.2.2.2.2 j = true → E.2.1 j < 10) : ∀ (m : Nat) (K : Nat → Nat), sp_sm K 10 ≤ m → ∃ N, sp_ch E E.1 (sp_it E K N) = false
  | 0, K, h => by
    refine ⟨0, ?_⟩
    cases e : sp_ch E E.1 (sp_it E K 0) with
    | false => rfl
    | true =>
      obtain ⟨a, ha, hl⟩ := sp_ch_drop hE E.1 e
      have := sp_sm_lt (fun a => sp_rd_le E (sp_it E K 0) a E.1) 10 a ha hl
      have h2 : sp_it E K 0 = K := rfl
      rw [h2] at this
      omega
  | m + 1, K, h => by
    cases e : sp_ch E E.1 K with
    | false => exact ⟨0, e⟩
    | true =>
      obtain ⟨a, ha, hl⟩ := sp_ch_drop hE E.1 e
      have := sp_sm_lt (fun a => sp_rd_le E K a E.1) 10 a ha hl
      obtain ⟨N, hN⟩ := sp_ex hE m (sp_rd E E.1 K) (by omega)
      refine ⟨1 + N, ?_⟩
      rw [sp_it_add]
      exact hN
/-- edges that the theory bears: ends below 10, costs from 1 to C -/
def sp_ok (E : EG) (C : Nat) : Prop := ∀ j, E.2.2.2.2 j = true → E.2.1 j < 10 ∧ E.2.2.1 j < 10 ∧ 1 ≤ E.2.2.2.1 j ∧ E.2.2.2.1 j ≤ C
def sp_rk (K : Nat → Nat) (v : Nat) : Nat := sp_cn (fun u => decide (K u < K v)) 10
theorem sp_rk_lt {K : Nat → Nat} {u v : Nat} (hu : u < 10) (h : K u < K v) : sp_rk K u < sp_rk K v := by
  refine sp_cn_lt 10 (fun k _ hk => ?_) ⟨u, hu, by simpa using h, by simp⟩
  simp only [decide_eq_true_eq] at hk ⊢
  omega
theorem sp_rk_9 {K : Nat → Nat} {v : Nat} (hv : v < 10) : sp_rk K v ≤ 9 := by
  have := sp_cn_top (p := fun u => decide (K u < K v)) 10 v hv (by simp)
  unfold sp_rk
  omega
theorem sp_in_far {F t a : Nat} (ha : a ≠ t) : sp_in F t a = F := by simp [sp_in, ha]
theorem sp_rd_out {E : EG} {C : Nat} (hE : sp_ok E C) (K : Nat → Nat) {a : Nat} (ha : 10 ≤ a) : ∀ n, sp_rd E n K a = K a
  | 0 => rfl
  | n + 1 => by
    show sp_rx E n (sp_rd E n K) a = K a
    unfold sp_rx
    rw [if_neg, sp_rd_out hE K ha n]
    rintro ⟨h1, h2⟩
    have := (hE n h1).1
    omega
theorem sp_it_out {E : EG} {C : Nat} (hE : sp_ok E C) (K : Nat → Nat) {a : Nat} (ha : 10 ≤ a) : ∀ n, sp_it E K n a = K a
  | 0 => rfl
  | n + 1 => by
    show sp_rd E E.1 (sp_it E K n) a = K a
    rw [sp_rd_out hE _ ha, sp_it_out hE K ha n]
/-- after nine rounds nothing is closer any more -/
theorem sp_nine {E : EG} {C F t : Nat} (hE : sp_ok E C) : sp_ch E E.1 (sp_it E (sp_in F t) 9) = false := by
  obtain ⟨N, hN⟩ := sp_ex (fun j h => (hE j h).1) _ (sp_in F t) (Nat.le_refl _)
  obtain ⟨hf1, hf2⟩ := sp_ch_fix E.1 hN
  have hiv := sp_iv_it (E := E) (F := F) (t := t) N
  generalize hK : sp_it E (sp_in F t) N = K at hN hf1 hf2 hiv
  have hlow : ∀ r a, K a ≤ sp_it E (sp_in F t) r a := by
    intro r a
    rcases Nat.le_total r N with h | h
    · obtain ⟨k, rfl⟩ := Nat.le.dest h
      rw [← hK, sp_it_add]
      exact sp_it_le E _ a k
    · obtain ⟨k, rfl⟩ := Nat.le.dest h
      rw [sp_it_add, hK, sp_it_fix hN]
      exact Nat.le_refl _
  have hset : ∀ r a, a < 10 → sp_rk K a ≤ r → sp_it E (sp_in F t) r a = K a := by
    intro r
    induction r with
    | zero =>
      intro a ha hr
      by_cases hat : a = t
      · subst hat
        rw [hiv.1]
        simp [sp_it, sp_in]
      · by_cases hl : K a < F
        · obtain ⟨j, q1, q2, q3, q4⟩ := hiv.2.2 a hat hl
          have q5 := hE j q2
          have := sp_rk_lt (K := K) (u := E.2.2.1 j) (v := a) q5.2.1 (by omega)
          omega
        · have h1 := hlow 0 a
          have h2 : sp_it E (sp_in F t) 0 a = F := sp_in_far hat
          have := hiv.2.1 a
          omega
    | succ r ih =>
      intro a ha hr
      refine Nat.le_antisymm ?_ (hlow _ a)
      by_cases hat : a = t
      · subst hat
        have h1 := (sp_iv_it (E := E) (F := F) (t := a) (r + 1)).1
        rw [h1]; exact Nat.zero_le _
      · by_cases hl : K a < F
        · obtain ⟨j, q1, q2, q3, q4⟩ := hiv.2.2 a hat hl
          have q5 := hE j q2
          have h1 := sp_rk_lt (K := K) (u := E.2.2.1 j) (v := a) q5.2.1 (by omega)
          have h2 := ih (E.2.2.1 j) q5.2.1 (by omega)
          have h3 := sp_rd_edge E (sp_it E (sp_in F t) r) q1 q2
          rw [h2, q3] at h3
          show sp_rd E E.1 (sp_it E (sp_in F t) r) a ≤ K a
          omega
        · have h2 := (sp_iv_it (E := E) (F := F) (t := t) (r + 1)).2.1 a
          omega
  have he : sp_it E (sp_in F t) 9 = K := by
    funext a
    by_cases ha : a < 10
    · exact hset 9 a ha (sp_rk_9 ha)
    · rw [← hK, sp_it_out hE _ (by omega), sp_it_out hE _ (by omega)]
  rw [he]
  exact hN
/-- the keys -/
def sp_K (E : EG) (F t : Nat) : Nat → Nat := sp_it E (sp_in F t) 9
theorem sp_K_t {E : EG} {F t : Nat} : sp_K E F t t = 0 := (sp_iv_it 9).1
theorem sp_K_le {E : EG} {F t : Nat} (a : Nat) : sp_K E F t a ≤ F := (sp_iv_it 9).2.1 a
theorem sp_K_fix {E : EG} {C F t : Nat} (hE : sp_ok E C) {j : Nat} (hj : j < E.1) (ha : E.2.2.2.2 j = true) : sp_K E F t (E.2.1 j) ≤ sp_K E F t (E.2.2.1 j) + E.2.2.2.1 j := (sp_ch_fix E.1 (sp_nine hE)).2 j hj ha
theorem sp_K_tight {E : EG} {C F t : Nat} (hE : sp_ok E C) {a : Nat} (ha : a ≠ t) (hl : sp_K E F t a < F) : ∃ j, j < E.1 ∧ E.2.2.2.2 j = true ∧ E.2.1 j = a ∧ sp_K E F t (E.2.2.1 j) + E.2.2.2.1 j = sp_K E F t a := by
  obtain ⟨j, q1, q2, q3, q4⟩ := (sp_iv_it (E := E) (F := F) (t := t) 9).2.2 a ha hl
  have h := sp_K_fix (F := F) (t := t) hE q1 q2
  rw [q3] at h
  refine ⟨j, q1, q2, q3, ?_⟩
  unfold sp_K at *
  omega
/-- any number of rounds that ends without a change ends there -/
theorem sp_K_of {E : EG} {C F t r : Nat} (hE : sp_ok E C) (h : r = 10 ∨ sp_ch E E.1 (sp_it E (sp_in F t) r) = false) : sp_it E (sp_in F t) r = sp_K E F t := by
  rcases h with rfl | h
  · exact (sp_ch_fix E.1 (sp_nine hE)).1
  · rcases Nat.le_total r 9 with hr | hr
    · obtain ⟨k, hk⟩ := Nat.le.dest hr
      unfold sp_K
      rw [← hk, sp_it_add, sp_it_fix h]
    · obtain ⟨k, hk⟩ := Nat.le.dest hr
      unfold sp_K
      rw [← hk, sp_it_add, sp_it_fix (sp_nine hE)]
theorem sp_K_bnd {E : EG} {C F t : Nat} (hE : sp_ok E C) : ∀ n a, a < 10 → sp_K E F t a < F → sp_rk (sp_K E F t) a ≤ n → sp_K E F t a ≤ C * n
  | 0, a, ha, hl, hr => by
    by_cases hat : a = t
    · subst hat; rw [sp_K_t]; exact Nat.zero_le _
    · obtain ⟨j, q1, q2, q3, q4⟩ := sp_K_tight hE hat hl
      have q5 := hE j q2
      have := sp_rk_lt (K := sp_K E F t) (u := E.2.2.1 j) (v := a) q5.2.1 (by omega)
      omega
  | n + 1, a, ha, hl, hr => by
    by_cases hat : a = t
    · subst hat; rw [sp_K_t]; exact Nat.zero_le _
    · obtain ⟨j, q1, q2, q3, q4⟩ := sp_K_tight hE hat hl
      have q5 := hE j q2
      have := sp_rk_lt (K := sp_K E F t) (u := E.2.2.1 j) (v := a) q5.2.1 (by omega)
      have := sp_K_bnd (F := F) (t := t) hE n (E.2.2.1 j) q5.2.1 (by omega) (by omega)
      rw [Nat.mul_succ]
      omega
theorem sp_K_small {E : EG} {C F t a : Nat} (hE : sp_ok E C) (ha : a < 10) (hl : sp_K E F t a < F) : sp_K E F t a ≤ C * 9 := sp_K_bnd hE 9 a ha hl (sp_rk_9 ha)
theorem sp_K_sub {E : EG} {C F F' t : Nat} (hE : sp_ok E C) : ∀ n a, sp_K E F t a < n → sp_K E F t a < F → sp_K E F' t a ≤ sp_K E F t a
  | 0, a, h, _ => by omega
  | n + 1, a, h, hl => by
    by_cases hat : a = t
    · subst hat; rw [sp_K_t]; exact Nat.zero_le _
    · obtain ⟨j, q1, q2, q3, q4⟩ := sp_K_tight hE hat hl
      have q5 := hE j q2
      have h1 := sp_K_sub hE (F := F) (F' := F') (t := t) n (E.2.2.1 j) (by omega) (by omega)
      have h2 := sp_K_fix (F := F') (t := t) hE q1 q2
      rw [q3] at h2
      omega
/-- the keys don't hang on how far far off is -/
theorem sp_K_two {E : EG} {C F F' t a : Nat} (hE : sp_ok E C) (ha : a < 10) (hF : C * 9 < F) (hF' : C * 9 < F') : (sp_K E F t a < F ∧ sp_K E F' t a = sp_K E F t a) ∨ (sp_K E F t a = F ∧ sp_K E F' t a = F') := by
  have h0 := sp_K_le (E := E) (F := F) (t := t) a
  have h0' := sp_K_le (E := E) (F := F') (t := t) a
  by_cases h : sp_K E F t a < F
  · have h1 := sp_K_sub hE (F' := F') _ a (Nat.lt_succ_self _) h
    have h2 := sp_K_small hE ha h
    have h3 := sp_K_sub hE (F := F') (F' := F) (t := t) _ a (Nat.lt_succ_self _) (by omega)
    exact Or.inl ⟨h, by omega⟩
  · by_cases h' : sp_K E F' t a < F'
    · have h1 := sp_K_sub hE (F' := F) _ a (Nat.lt_succ_self _) h'
      have h2 := sp_K_small hE ha h'
      omega
    · exact Or.inr ⟨by omega, by omega⟩
