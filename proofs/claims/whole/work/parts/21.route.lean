/-! ROUTES: ways (how many, one end, the other, minutes), known by kn -/
abbrev WD : Type := Nat × (Nat → Nat) × (Nat → Nat) × (Nat → Nat)
def wE (D : WD) (kn : Nat → Bool) : EG := (2 * D.1, fun j => if j % 2 = 0 then D.2.1 (j / 2) else D.2.2.1 (j / 2), fun j => if j % 2 = 0 then D.2.2.1 (j / 2) else D.2.1 (j / 2), fun j => 16 * D.2.2.2 (j / 2) + 1, fun j => decide (j / 2 < D.1) && kn (j / 2))
def wOk (np : Nat) (D : WD) : Prop := D.1 ≤ 14 ∧ np ≤ 10 ∧ ∀ w, w < D.1 → D.2.1 w < np ∧ D.2.2.1 w < np ∧ D.2.1 w ≠ D.2.2.1 w ∧ 1 ≤ D.2.2.2 w ∧ D.2.2.2 w ≤ 99
theorem wE_ok {np : Nat} {D : WD} (h : wOk np D) (kn : Nat → Bool) : sp_ok (wE D kn) 1585 := by
  intro j hj
  have h1 : j / 2 < D.1 := by
    have : (decide (j / 2 < D.1) && kn (j / 2)) = true := hj
    simp only [Bool.and_eq_true, decide_eq_true_eq] at this
    exact this.1
  obtain ⟨a, b, c, d, e⟩ := h.2.2 _ h1
  have := h.2.1
  refine ⟨?_, ?_, ?_, ?_⟩
  · show (if j % 2 = 0 then D.2.1 (j / 2) else D.2.2.1 (j / 2)) < 10
    split <;> omega
  · show (if j % 2 = 0 then D.2.2.1 (j / 2) else D.2.1 (j / 2)) < 10
    split <;> omega
  · show 1 ≤ 16 * D.2.2.2 (j / 2) + 1
    omega
  · show 16 * D.2.2.2 (j / 2) + 1 ≤ 1585
    omega
theorem sp_ch_succ (E : EG) (j : Nat) (K : Nat → Nat) : sp_ch E (j + 1) K = (sp_ch E j K || (E.2.2.2.2 j && decide ((sp_rd E j K) (E.2.2.1 j) + E.2.2.2.1 j < (sp_rd E j K) (E.2.1 j)))) := rfl
theorem sp_rd_succ (E : EG) (j : Nat) (K : Nat → Nat) : sp_rd E (j + 1) K = sp_rx E j (sp_rd E j K) := rfl
/-- the step of one way, both ends at once -/
def wS (D : WD) (w : Nat) (K : Nat → Nat) : Nat → Nat := fun a => if a = D.2.1 w then min (K (D.2.1 w)) (K (D.2.2.1 w) + (16 * D.2.2.2 w + 1)) else if a = D.2.2.1 w then min (K (D.2.2.1 w)) (K (D.2.1 w) + (16 * D.2.2.2 w + 1)) else K a
theorem wE_ac {D : WD} {kn : Nat → Bool} {w : Nat} (hw : w < D.1) : (wE D kn).2.2.2.2 (2 * w) = kn w ∧ (wE D kn).2.2.2.2 (2 * w + 1) = kn w := by
  refine ⟨?_, ?_⟩
  · show (decide (2 * w / 2 < D.1) && kn (2 * w / 2)) = kn w
    rw [show 2 * w / 2 = w by omega]
    simp [hw]
  · show (decide ((2 * w + 1) / 2 < D.1) && kn ((2 * w + 1) / 2)) = kn w
    rw [show (2 * w + 1) / 2 = w by omega]
    simp [hw]
theorem wE_e0 {D : WD} {kn : Nat → Bool} {w : Nat} : (wE D kn).2.1 (2 * w) = D.2.1 w ∧ (wE D kn).2.2.1 (2 * w) = D.2.2.1 w ∧ (wE D kn).2.2.2.1 (2 * w) = 16 * D.2.2.2 w + 1 := by
  have h : 2 * w / 2 = w := by omega
  have h2 : 2 * w % 2 = 0 := by omega
  refine ⟨?_, ?_, ?_⟩
  · show (if 2 * w % 2 = 0 then D.2.1 (2 * w / 2) else D.2.2.1 (2 * w / 2)) = _
    rw [if_pos h2, h]
  · show (if 2 * w % 2 = 0 then D.2.2.1 (2 * w / 2) else D.2.1 (2 * w / 2)) = _
    rw [if_pos h2, h]
  · show 16 * D.2.2.2 (2 * w / 2) + 1 = _
    rw [h]
theorem wE_e1 {D : WD} {kn : Nat → Bool} {w : Nat} : (wE D kn).2.1 (2 * w + 1) = D.2.2.1 w ∧ (wE D kn).2.2.1 (2 * w + 1) = D.2.1 w ∧ (wE D kn).2.2.2.1 (2 * w + 1) = 16 * D.2.2.2 w + 1 := by
  have h : (2 * w + 1) / 2 = w := by omega
  have h2 : ¬ (2 * w + 1) % 2 = 0 := by omega
  refine ⟨?_, ?_, ?_⟩
  · show (if (2 * w + 1) % 2 = 0 then D.2.1 ((2 * w + 1) / 2) else D.2.2.1 ((2 * w + 1) / 2)) = _
    rw [if_neg h2, h]
  · show (if (2 * w + 1) % 2 = 0 then D.2.2.1 ((2 * w + 1) / 2) else D.2.1 ((2 * w + 1) / 2)) = _
    rw [if_neg h2, h]
  · show 16 * D.2.2.2 ((2 * w + 1) / 2) + 1 = _
    rw [h]
theorem wE_step {D : WD} {kn : Nat → Bool} {w : Nat} (hw : w < D.1) (hne : D.2.1 w ≠ D.2.2.1 w) (K : Nat → Nat) : sp_rd (wE D kn) (2 * (w + 1)) K = if kn w = true then wS D w (sp_rd (wE D kn) (2 * w) K) else sp_rd (wE D kn) (2 * w) K := by
  show sp_rx (wE D kn) (2 * w + 1) (sp_rx (wE D kn) (2 * w) (sp_rd (wE D kn) (2 * w) K)) = _
  generalize sp_rd (wE D kn) (2 * w) K = K'
  obtain ⟨a0, a1⟩ := wE_ac (kn := kn) hw
  obtain ⟨f0, t0, c0⟩ := wE_e0 (D := D) (kn := kn) (w := w)
  obtain ⟨f1, t1, c1⟩ := wE_e1 (D := D) (kn := kn) (w := w)
  funext a
  unfold sp_rx wS
  rw [a0, a1, f0, t0, c0, f1, t1, c1]
  by_cases hk : kn w = true
  · simp only [hk, true_and, if_true]
    by_cases h1 : a = D.2.2.1 w
    · subst h1
      rw [if_pos rfl, if_neg (Ne.symm hne), if_neg (Ne.symm hne)]
      try rw [if_pos rfl]
      omega
    · rw [if_neg h1, if_neg h1]
      by_cases h2 : a = D.2.1 w
      · subst h2
        rw [if_pos rfl]
      · rw [if_neg h2, if_neg h2]
  · simp only [hk, false_and, if_false]
    simp
theorem wE_chg {D : WD} {kn : Nat → Bool} {w : Nat} (hw : w < D.1) (hne : D.2.1 w ≠ D.2.2.1 w) (K : Nat → Nat) : sp_ch (wE D kn) (2 * (w + 1)) K = (sp_ch (wE D kn) (2 * w) K || (kn w && (decide ((sp_rd (wE D kn) (2 * w) K) (D.2.2.1 w) + (16 * D.2.2.2 w + 1) < (sp_rd (wE D kn) (2 * w) K) (D.2.1 w)) || decide ((sp_rd (wE D kn) (2 * w) K) (D.2.1 w) + (16 * D.2.2.2 w + 1) < (sp_rd (wE D kn) (2 * w) K) (D.2.2.1 w))))) := by
  obtain ⟨a0, a1⟩ := wE_ac (kn := kn) hw
  obtain ⟨f0, t0, c0⟩ := wE_e0 (D := D) (kn := kn) (w := w)
  obtain ⟨f1, t1, c1⟩ := wE_e1 (D := D) (kn := kn) (w := w)
  rw [show 2 * (w + 1) = 2 * w + 1 + 1 by omega, sp_ch_succ, sp_ch_succ, a0, a1, f0, t0, c0, f1, t1, c1, sp_rd_succ]
  generalize sp_rd (wE D kn) (2 * w) K = K'
  unfold sp_rx
  rw [a0, f0, t0, c0]
  rw [if_neg (show ¬ (kn w = true ∧ D.2.2.1 w = D.2.1 w) from fun z => hne z.2.symm)]
  cases hk : kn w with
  | false => simp
  | true =>
    simp only [true_and, if_true, Bool.true_and, Bool.or_assoc]
    congr 2
    simp only [decide_eq_decide]
    omega
/-- the other end of a way; 10: it does not begin here -/
def oE (D : WD) (w a : Nat) : Nat := if D.2.1 w = a then D.2.2.1 w else if D.2.2.1 w = a then D.2.1 w else 10
/-- the next place and the way to it, of the first n ways -/
def nX (D : WD) (kn : Nat → Bool) (K : Nat → Nat) (a : Nat) : Nat → Nat × Nat
  | 0 => (10, 14)
  | w + 1 => if kn w = true ∧ oE D w a < (nX D kn K a w).1 ∧ K (oE D w a) + (16 * D.2.2.2 w + 1) = K a then (oE D w a, w) else nX D kn K a w
def rO (D : WD) (kn : Nat → Bool) (K : Nat → Nat) (t a : Nat) : Nat → Nat × Nat
  | 0 => (a, 0)
  | i + 1 => if (rO D kn K t a i).1 = t then rO D kn K t a i else ((nX D kn K (rO D kn K t a i).1 D.1).1, (rO D kn K t a i).2 + D.2.2.2 (nX D kn K (rO D kn K t a i).1 D.1).2)
theorem rO_succ (D : WD) (kn : Nat → Bool) (K : Nat → Nat) (t a i : Nat) : rO D kn K t a (i + 1) = if (rO D kn K t a i).1 = t then rO D kn K t a i else ((nX D kn K (rO D kn K t a i).1 D.1).1, (rO D kn K t a i).2 + D.2.2.2 (nX D kn K (rO D kn K t a i).1 D.1).2) := rfl
def fdF (p : Nat → Bool) : Nat → Nat → Nat
  | 0, i => i
  | n + 1, i => if p i = true then i else fdF p n (i + 1)
theorem fdF_is {p : Nat → Bool} : ∀ n i k, i ≤ k → k ≤ i + n → p k = true → (∀ j, i ≤ j → j < k → p j = false) → fdF p n i = k
  | 0, i, k, h1, h2, _, _ => by show i = k; omega
  | n + 1, i, k, h1, h2, h3, h4 => by
    unfold fdF
    by_cases e : i = k
    · subst e; rw [if_pos h3]
    · rw [if_neg (by rw [h4 i (Nat.le_refl _) (by omega)]; simp)]
      exact fdF_is n (i + 1) k (by omega) (by omega) h3 (fun j q1 q2 => h4 j (by omega) q2)
abbrev FR : Nat := 1000000
def kW (D : WD) (kn : Nat → Bool) (t : Nat) : Nat → Nat := sp_K (wE D kn) FR t
/-- whether there is a route from a to t; of how many pieces; the place behind i of them; its minutes -/
def hasR (D : WD) (kn : Nat → Bool) (t a : Nat) : Prop := kW D kn t a < FR
def rN (D : WD) (kn : Nat → Bool) (t a : Nat) : Nat := fdF (fun i => decide ((rO D kn (kW D kn t) t a i).1 = t)) 9 0
def rP (D : WD) (kn : Nat → Bool) (t a i : Nat) : Nat := (rO D kn (kW D kn t) t a i).1
def rM (D : WD) (kn : Nat → Bool) (t a i : Nat) : Nat := (rO D kn (kW D kn t) t a i).2
theorem nX_le {D : WD} {kn : Nat → Bool} {K : Nat → Nat} {a : Nat} : ∀ n, (nX D kn K a n).1 ≤ 10
  | 0 => Nat.le_refl _
  | n + 1 => by
    have := nX_le (D := D) (kn := kn) (K := K) (a := a) n
    unfold nX
    split
    · rename_i h; show oE D n a ≤ 10; omega
    · exact this
theorem nX_in {D : WD} {kn : Nat → Bool} {K : Nat → Nat} {a : Nat} : ∀ n, (nX D kn K a n).1 < 10 → (nX D kn K a n).2 < n ∧ kn (nX D kn K a n).2 = true ∧ oE D (nX D kn K a n).2 a = (nX D kn K a n).1 ∧ K (nX D kn K a n).1 + (16 * D.2.2.2 (nX D kn K a n).2 + 1) = K a
  | 0, h => absurd (show 10 < 10 from h) (Nat.lt_irrefl _)
  | n + 1, h => by
    unfold nX at h ⊢
    split at h <;> rename_i q
    · rw [if_pos q]
      exact ⟨Nat.lt_succ_self _, q.1, rfl, q.2.2⟩
    · rw [if_neg q]
      obtain ⟨h1, h2⟩ := nX_in n h
      exact ⟨by omega, h2⟩
theorem nX_ex {D : WD} {kn : Nat → Bool} {K : Nat → Nat} {a : Nat} : ∀ n, (∃ w, w < n ∧ kn w = true ∧ oE D w a < 10 ∧ K (oE D w a) + (16 * D.2.2.2 w + 1) = K a) → (nX D kn K a n).1 < 10
  | 0, ⟨w, h, _⟩ => by omega
  | n + 1, ⟨w, h1, h2, h3, h4⟩ => by
    unfold nX
    split <;> rename_i q
    · have := nX_le (D := D) (kn := kn) (K := K) (a := a) n
      show oE D n a < 10
      omega
    · by_cases e : w = n
      · subst e
        by_cases e2 : oE D w a < (nX D kn K a w).1
        · exact absurd ⟨h2, e2, h4⟩ q
        · omega
      · exact nX_ex n ⟨w, by omega, h2, h3, h4⟩
theorem kW_next {np : Nat} {D : WD} (h : wOk np D) {kn : Nat → Bool} {t a : Nat} (ha : a ≠ t) (hl : kW D kn t a < FR) : (nX D kn (kW D kn t) a D.1).1 < np ∧ (nX D kn (kW D kn t) a D.1).2 < D.1 ∧ kn (nX D kn (kW D kn t) a D.1).2 = true ∧ oE D (nX D kn (kW D kn t) a D.1).2 a = (nX D kn (kW D kn t) a D.1).1 ∧ kW D kn t (nX D kn (kW D kn t) a D.1).1 + (16 * D.2.2.2 (nX D kn (kW D kn t) a D.1).2 + 1) = kW D kn t a := by
  obtain ⟨j, q1, q2, q3, q4⟩ := sp_K_tight (wE_ok h kn) ha hl
  have q5 : (decide (j / 2 < D.1) && kn (j / 2)) = true := q2
  simp only [Bool.and_eq_true, decide_eq_true_eq] at q5
  obtain ⟨w1, w2, w3, w4, w5⟩ := h.2.2 _ q5.1
  have hnp := h.2.1
  have q6 : (if j % 2 = 0 then D.2.1 (j / 2) else D.2.2.1 (j / 2)) = a := q3
  have q7 : sp_K (wE D kn) FR t (if j % 2 = 0 then D.2.2.1 (j / 2) else D.2.1 (j / 2)) + (16 * D.2.2.2 (j / 2) + 1) = sp_K (wE D kn) FR t a := q4
  have hoe : oE D (j / 2) a = if j % 2 = 0 then D.2.2.1 (j / 2) else D.2.1 (j / 2) := by
    unfold oE
    by_cases hj : j % 2 = 0
    · rw [if_pos hj] at q6 ⊢; rw [if_pos q6]
    · rw [if_neg hj] at q6 ⊢; rw [if_neg (fun z => w3 (z.trans q6.symm)), if_pos q6]
  have hoe10 : oE D (j / 2) a < 10 := by rw [hoe]; split <;> omega
  have h1 := nX_ex (D := D) (kn := kn) (K := kW D kn t) (a := a) D.1 ⟨j / 2, q5.1, q5.2, hoe10, by rw [hoe]; exact q7⟩
  obtain ⟨h2, h3, h4, h5⟩ := nX_in (D := D) (kn := kn) (K := kW D kn t) (a := a) D.1 h1
  refine ⟨?_, h2, h3, h4, h5⟩
  have h6 := h.2.2 _ h2
  rw [← h4]
  rw [← h4] at h1
  unfold oE at h1 ⊢
  split
  · omega
  · rename_i g1
    rw [if_neg g1] at h1
    split
    · omega
    · rename_i g2
      rw [if_neg g2] at h1
      omega
/-- a route comes to t, in nine pieces at most, and its keys tell its minutes and pieces -/
theorem rO_go {np : Nat} {D : WD} (h : wOk np D) {kn : Nat → Bool} {t a : Nat} (hnp : a < np) (hl : hasR D kn t a) : ∃ n, n ≤ 9 ∧ rP D kn t a n = t ∧ (∀ i, i < n → rP D kn t a i ≠ t) ∧ ∀ i, i ≤ n → rP D kn t a i < np ∧ kW D kn t (rP D kn t a i) + 16 * rM D kn t a i + i = kW D kn t a := by
  have hE := wE_ok h kn
  have step : ∀ m i, sp_rk (kW D kn t) (rP D kn t a i) ≤ m → (∀ j, j < i → rP D kn t a j ≠ t) → (∀ j, j ≤ i → rP D kn t a j < np ∧ kW D kn t (rP D kn t a j) + 16 * rM D kn t a j + j = kW D kn t a) → ∃ n, n ≤ i + m ∧ rP D kn t a n = t ∧ (∀ i, i < n → rP D kn t a i ≠ t) ∧ ∀ i, i ≤ n → rP D kn t a i < np ∧ kW D kn t (rP D kn t a i) + 16 * rM D kn t a i + i = kW D kn t a := by
    intro m
    induction m with
    | zero =>
      intro i hm h1 h2
      by_cases e : rP D kn t a i = t
      · exact ⟨i, by omega, e, h1, h2⟩
      · have g := h2 i (Nat.le_refl _)
        have hl' : kW D kn t (rP D kn t a i) < FR := by unfold hasR at hl; omega
        obtain ⟨n1, n2, n3, n4, n5⟩ := kW_next h e hl'
        have := sp_rk_lt (K := kW D kn t) (u := (nX D kn (kW D kn t) (rP D kn t a i) D.1).1) (v := rP D kn t a i) (by have := h.2.1; omega) (by omega)
        omega
    | succ m ih =>
      intro i hm h1 h2
      by_cases e : rP D kn t a i = t
      · exact ⟨i, by omega, e, h1, h2⟩
      · have g := h2 i (Nat.le_refl _)
        have hl' : kW D kn t (rP D kn t a i) < FR := by unfold hasR at hl; omega
        obtain ⟨n1, n2, n3, n4, n5⟩ := kW_next h e hl'
        have hr := sp_rk_lt (K := kW D kn t) (u := (nX D kn (kW D kn t) (rP D kn t a i) D.1).1) (v := rP D kn t a i) (by have := h.2.1; omega) (by omega)
        have e1 : rP D kn t a (i + 1) = (nX D kn (kW D kn t) (rP D kn t a i) D.1).1 := by
          show (rO D kn (kW D kn t) t a (i + 1)).1 = _
          unfold rO
          rw [if_neg (show ¬ (rO D kn (kW D kn t) t a i).1 = t from e)]
          rfl
        have e2 : rM D kn t a (i + 1) = rM D kn t a i + D.2.2.2 (nX D kn (kW D kn t) (rP D kn t a i) D.1).2 := by
          show (rO D kn (kW D kn t) t a (i + 1)).2 = _
          unfold rO
          rw [if_neg (show ¬ (rO D kn (kW D kn t) t a i).1 = t from e)]
          rfl
        obtain ⟨n, k1, k2⟩ := ih (i + 1) (by rw [e1]; omega) (fun j hj => by
          by_cases q : j = i
          · rw [q]; exact e
          · exact h1 j (by omega)) (fun j hj => by
          by_cases q : j = i + 1
          · subst q
            rw [e1, e2]
            exact ⟨n1, by omega⟩
          · exact h2 j (by omega))
        exact ⟨n, by omega, k2⟩
  obtain ⟨n, k1, k2⟩ := step 9 0 (sp_rk_9 (show rP D kn t a 0 < 10 by have := h.2.1; show a < 10; omega)) (fun j hj => by omega) (fun j hj => by
    have : j = 0 := by omega
    subst this
    exact ⟨hnp, by show kW D kn t a + 16 * 0 + 0 = _; omega⟩)
  exact ⟨n, by omega, k2⟩
theorem rN_go {np : Nat} {D : WD} (h : wOk np D) {kn : Nat → Bool} {t a : Nat} (hnp : a < np) (hl : hasR D kn t a) : rN D kn t a ≤ 9 ∧ rP D kn t a (rN D kn t a) = t ∧ (∀ i, i < rN D kn t a → rP D kn t a i ≠ t) ∧ ∀ i, i ≤ rN D kn t a → rP D kn t a i < np ∧ kW D kn t (rP D kn t a i) + 16 * rM D kn t a i + i = kW D kn t a := by
  obtain ⟨n, h1, h2, h3, h4⟩ := rO_go h hnp hl
  have e : rN D kn t a = n := fdF_is 9 0 n (Nat.zero_le _) (by omega) (decide_eq_true h2) (fun j _ hj => decide_eq_false (h3 j hj))
  rw [e]
  exact ⟨h1, h2, h3, h4⟩
theorem rN_key {np : Nat} {D : WD} (h : wOk np D) {kn : Nat → Bool} {t a : Nat} (hnp : a < np) (hl : hasR D kn t a) : kW D kn t a = 16 * rM D kn t a (rN D kn t a) + rN D kn t a := by
  obtain ⟨h1, h2, h3, h4⟩ := rN_go h hnp hl
  have h5 := (h4 _ (Nat.le_refl _)).2
  rw [h2] at h5
  have : kW D kn t t = 0 := sp_K_t
  omega
theorem rP_0 {D : WD} {kn : Nat → Bool} {t a : Nat} : rP D kn t a 0 = a := rfl
theorem rM_0 {D : WD} {kn : Nat → Bool} {t a : Nat} : rM D kn t a 0 = 0 := rfl
/-- no place twice -/
theorem rP_inj {np : Nat} {D : WD} (h : wOk np D) {kn : Nat → Bool} {t a : Nat} (hnp : a < np) (hl : hasR D kn t a) {i j : Nat} (hi : i < j) (hj : j ≤ rN D kn t a) : rP D kn t a i ≠ rP D kn t a j := by
  obtain ⟨h1, h2, h3, h4⟩ := rN_go h hnp hl
  have mono : ∀ k, i + k ≤ rN D kn t a → 0 < k → kW D kn t (rP D kn t a (i + k)) < kW D kn t (rP D kn t a i) := by
    intro k
    induction k with
    | zero => intro _ h; omega
    | succ k ih =>
      intro hk _
      have e : rP D kn t a (i + k) ≠ t := h3 _ (by omega)
      have g := (h4 (i + k) (by omega)).2
      have hl' : kW D kn t (rP D kn t a (i + k)) < FR := by unfold hasR at hl; omega
      obtain ⟨n1, n2, n3, n4, n5⟩ := kW_next h e hl'
      have e1 : rP D kn t a (i + (k + 1)) = (nX D kn (kW D kn t) (rP D kn t a (i + k)) D.1).1 := by
        show (rO D kn (kW D kn t) t a ((i + k) + 1)).1 = _
        unfold rO
        rw [if_neg (show ¬ (rO D kn (kW D kn t) t a (i + k)).1 = t from e)]
        rfl
      rw [e1]
      by_cases hk0 : k = 0
      · subst hk0
        have : i + 0 = i := rfl
        rw [this] at n5 ⊢
        omega
      · have := ih (by omega) (by omega)
        omega
  obtain ⟨k, rfl⟩ := Nat.le.dest (Nat.le_of_lt hi)
  have := mono k hj (by omega)
  intro e
  rw [e] at this
  omega
theorem rM_mono {D : WD} {kn : Nat → Bool} {t a : Nat} (i : Nat) : ∀ k, rM D kn t a i ≤ rM D kn t a (i + k)
  | 0 => Nat.le_refl _
  | k + 1 => by
    refine Nat.le_trans (rM_mono i k) ?_
    show (rO D kn (kW D kn t) t a (i + k)).2 ≤ (rO D kn (kW D kn t) t a ((i + k) + 1)).2
    rw [rO_succ]
    split
    · exact Nat.le_refl _
    · exact Nat.le_add_right _ _
theorem rM_bnd {np : Nat} {D : WD} (h : wOk np D) {kn : Nat → Bool} {t a : Nat} (hnp : a < np) (hl : hasR D kn t a) {i : Nat} (hi : i ≤ rN D kn t a) : rM D kn t a i ≤ 891 := by
  have h1 := rN_key h hnp hl
  have h2 : kW D kn t a ≤ 1585 * 9 := sp_K_small (F := FR) (t := t) (wE_ok h kn) (show a < 10 by have := h.2.1; omega) hl
  obtain ⟨k, hk⟩ := Nat.le.dest hi
  have h3 := rM_mono (D := D) (kn := kn) (t := t) (a := a) i k
  rw [hk] at h3
  omega
