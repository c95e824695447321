/-! THE MODEL: learnt -/
theorem FM_99 {g g2 : St} {f : Nat → Int32} (h2 : FM (upR g 99 f) g2) {f2 : Nat → Int32} (hf : ∀ r, f2 r = g.1 99 r) : FM g (upR g2 99 f2) := by
  refine ⟨fun j hj => ?_, fun k hk => ?_, h2.2.2⟩
  · by_cases e : j = 99
    · subst e; rw [upR_s]; exact funext hf
    · rw [upR_n e, h2.1 j hj, upR_n e]
  · rw [upR_n (by decide), h2.2.1 k hk, upR_n (by decide)]
/-- one lesson: learnt, tried, forgotten -/
theorem tch_1 {g g2 : St} {X : LN} {k : Nat} (hX : MC g X) (hc : cbL X k = true) (h2 : FM (upI g 99 (k / 14) (nI (kL X k))) g2) : FM g (upI g2 99 (k / 14) (nI (clrN (kL X k) (k % 14)))) := by
  obtain ⟨hok, hpo, -, -, -, hPs, -⟩ := hX
  unfold cbL at hc
  simp only [Bool.and_eq_true, decide_eq_true_eq, Bool.not_eq_true'] at hc
  obtain ⟨hp, hw, hb⟩ := hc
  have hkn := (hpo.2 _ hp).2.2.2.2
  rw [upI_upR] at h2
  rw [upI_upR]
  refine FM_99 h2 (fun r => ?_)
  rw [h2.1 99 (by omega), upR_s]
  unfold upd
  by_cases e : r = k / 14
  · rw [if_pos e, clr_or hkn (by omega) hb, e]; exact (hPs.2 _ hp).2.2.2.2.symm
  · rw [if_neg e, if_neg e]
theorem cb_p {X : LN} {k : Nat} (hc : cbL X k = true) : k / 14 < X.2.2.1.1 ∧ (X.2.2.2.2.1 (k / 14)).testBit (k % 14) = false := by
  unfold cbL at hc
  simp only [Bool.and_eq_true, decide_eq_true_eq, Bool.not_eq_true'] at hc
  exact ⟨hc.1, hc.2.2⟩
theorem kL_lt {np : Nat} {X : LN} {k : Nat} (hpo : pOk np X.2.2.1 X.2.2.2.1 X.2.2.2.2.1) (hp : k / 14 < X.2.2.1.1) : kL X k < 2 ^ 14 := Nat.or_lt_two_pow (hpo.2 _ hp).2.2.2.2 (by rw [Nat.one_shiftLeft]; exact Nat.pow_lt_pow_right (by decide) (by omega))
def lnM (X : LN) (k : Nat) : LN := lnK X (k / 14) (kL X k)
theorem one_iT {X : LN} {a t d k : Nat} (hc : cbL X k = true) : inT X.2.2.1 (vX (lnM X k) t false) a t d = oneB X a t d k := by
  unfold oneB lnM
  rw [hc, vX_lnK, Bool.true_and]
theorem two_iT {X : LN} {a t d j k : Nat} : inT X.2.2.1 (vX (lnM (lnM X j) k) t false) a t d = twoB X a t d j k := by
  unfold twoB lnM
  rw [vX_lnK]
  by_cases e : j / 14 = k / 14
  · rw [if_pos e]
    have e2 : kL (lnK X (j / 14) (kL X j)) k = kL X j ||| 1 <<< (k % 14) := by
      show upN _ _ _ _ ||| _ = _
      rw [e, up_s]
    have e3 : lE (lnK X (j / 14) (kL X j)) t (k / 14) (kL (lnK X (j / 14) (kL X j)) k) = lE X t (k / 14) (kL X j ||| 1 <<< (k % 14)) := by rw [e2]; rfl
    have e4 : lM (lnK X (j / 14) (kL X j)) t (k / 14) (kL (lnK X (j / 14) (kL X j)) k) = lM X t (k / 14) (kL X j ||| 1 <<< (k % 14)) := by rw [e2]; rfl
    rw [e3, e4, vX_lnK, ← e]
    congr 1
    unfold upV
    refine Prod.ext (funext fun q => ?_) (funext fun q => ?_)
    · show (if q = j / 14 then _ else if q = j / 14 then _ else _) = (if q = j / 14 then _ else _)
      by_cases h : q = j / 14
      · rw [if_pos h, if_pos h]
      · rw [if_neg h, if_neg h, if_neg h]
    · show (if q = j / 14 then _ else if q = j / 14 then _ else _) = (if q = j / 14 then _ else _)
      by_cases h : q = j / 14
      · rw [if_pos h, if_pos h]
      · rw [if_neg h, if_neg h, if_neg h]
  · rw [if_neg e]
    have e2 : kL (lnK X (j / 14) (kL X j)) k = kL X k := by
      show upN _ _ _ _ ||| _ = _
      rw [up_lt (Ne.symm e)]
    rw [e2, vX_lnK]
    rfl
theorem cb_lnM {X : LN} {j k : Nat} (hjk : j ≠ k) (hj : j < 84) (hk : k < 84) (hc : cbL X k = true) : cbL (lnM X j) k = true := by
  obtain ⟨h1, h2⟩ := cb_p hc
  unfold cbL at hc ⊢
  simp only [Bool.and_eq_true, decide_eq_true_eq, Bool.not_eq_true'] at hc ⊢
  refine ⟨hc.1, hc.2.1, ?_⟩
  show (upN _ _ _ _).testBit _ = false
  by_cases e : k / 14 = j / 14
  · rw [e, up_s, or_bit, ← e, hc.2.2, Bool.false_or]
    exact decide_eq_false (by omega)
  · rw [up_lt e]; exact hc.2.2
/-- two lessons: learnt, tried, forgotten in their order -/
theorem tch_2 {g g2 : St} {X : LN} {j k : Nat} (hX : MC g X) (hj : j < 84) (hk : k < 84) (hjk : j < k) (hcj : cbL X j = true) (hck : cbL X k = true) (h2 : FM (upI (upI g 99 (j / 14) (nI (kL X j))) 99 (k / 14) (nI (kL (lnM X j) k))) g2) {s1 s2 : Nat} (e1 : s1 = clrN ((lnM (lnM X j) k).2.2.2.2.1 (j / 14)) (j % 14)) (e2 : s2 = clrN ((lnK (lnM (lnM X j) k) (j / 14) s1).2.2.2.2.1 (k / 14)) (k % 14)) : FM g (upI (upI g2 99 (j / 14) (nI s1)) 99 (k / 14) (nI s2)) := by
  obtain ⟨hok, hpo, -, -, -, hPs, -⟩ := hX
  obtain ⟨hp, hb⟩ := cb_p hcj
  obtain ⟨hq, hb2⟩ := cb_p hck
  have hkn := (hpo.2 _ hp).2.2.2.2
  have hkn2 := (hpo.2 _ hq).2.2.2.2
  have er : ∀ (h : St) (p q : Nat) (x y : Int32), upI (upI h 99 p x) 99 q y = upR h 99 (upd (upd (h.1 99) p x) q y) := fun h p q x y => by
    rw [upI_upR, upI_s, upI_upR, upR_upR]
  rw [er] at h2
  rw [er]
  refine FM_99 h2 (fun r => ?_)
  rw [h2.1 99 (by omega), upR_s]
  by_cases e : j / 14 = k / 14
  · have hw : j % 14 ≠ k % 14 := by omega
    have f1 : kL (lnM X j) k = kL X j ||| 1 <<< (k % 14) := by
      show upN _ _ _ _ ||| _ = _
      rw [e, up_s]
    have f2 : (lnM (lnM X j) k).2.2.2.2.1 (j / 14) = X.2.2.2.2.1 (k / 14) ||| 1 <<< (j % 14) ||| 1 <<< (k % 14) := by
      show upN _ _ _ _ = _
      rw [e, up_s, f1]
      show X.2.2.2.2.1 (j / 14) ||| 1 <<< (j % 14) ||| 1 <<< (k % 14) = _
      rw [e]
    have hs1 : s1 = X.2.2.2.2.1 (k / 14) ||| 1 <<< (k % 14) := by
      rw [e1, f2]
      rw [show X.2.2.2.2.1 (k / 14) ||| 1 <<< (j % 14) ||| 1 <<< (k % 14) = (X.2.2.2.2.1 (k / 14) ||| 1 <<< (k % 14)) ||| 1 <<< (j % 14) by rw [Nat.or_assoc, Nat.or_assoc, Nat.or_comm (1 <<< (j % 14))]]
      refine clr_or (Nat.or_lt_two_pow hkn2 (by rw [Nat.one_shiftLeft]; exact Nat.pow_lt_pow_right (by decide) (by omega))) (by omega) ?_
      rw [or_bit, ← e, hb, Bool.false_or]
      exact decide_eq_false (Ne.symm hw)
    have hs2 : s2 = X.2.2.2.2.1 (k / 14) := by
      rw [e2]
      show clrN (upN _ _ _ _) _ = _
      rw [e, up_s, hs1]
      exact clr_or hkn2 (by omega) hb2
    rw [hs2]
    unfold upd
    by_cases h : r = k / 14
    · rw [if_pos h, h]; exact (hPs.2 _ hq).2.2.2.2.symm
    · rw [if_neg h, e, if_neg h, if_neg h, if_neg h]
  · have f1 : (lnM (lnM X j) k).2.2.2.2.1 (j / 14) = kL X j := by
      show upN _ _ _ _ = _
      rw [up_lt e]
      show upN _ _ _ _ = _
      rw [up_s]
    have hs1 : s1 = X.2.2.2.2.1 (j / 14) := by rw [e1, f1]; exact clr_or hkn (by omega) hb
    have f2 : (lnK (lnM (lnM X j) k) (j / 14) s1).2.2.2.2.1 (k / 14) = kL X k := by
      show upN _ _ _ _ = _
      rw [up_lt (Ne.symm e)]
      show upN _ _ _ _ = _
      rw [up_s]
      show upN _ _ _ _ ||| _ = _
      rw [up_lt (Ne.symm e)]
    have hs2 : s2 = X.2.2.2.2.1 (k / 14) := by rw [e2, f2]; exact clr_or hkn2 (by omega) hb2
    rw [hs1, hs2]
    unfold upd
    by_cases h : r = k / 14
    · rw [if_pos h, h]; exact (hPs.2 _ hq).2.2.2.2.symm
    · rw [if_neg h]
      by_cases h3 : r = j / 14
      · rw [if_pos h3, h3]; exact (hPs.2 _ hp).2.2.2.2.symm
      · rw [if_neg h3, if_neg h, if_neg h3]
/-- the flat search -/
def flB (X : LN) (a t d i : Nat) : Bool := decide (i / 84 < i % 84) && t2 X a t d (i / 84) (i % 84)
def flF (X : LN) (a t d : Nat) : Nat := fdF (flB X a t d) 7056 0
theorem iN_no {X : LN} {a t d j k : Nat} (hj : j < 84) (h : ¬ iN X a t d j < 84) (h1 : j < k) (h2 : k < 84) : t2 X a t d j k = false := by
  have hb := fdF_le (t2 X a t d j) (83 - j) (j + 1)
  exact fdF_all (83 - j) (j + 1) (by unfold iN at h; omega) k (by omega) (by omega)
theorem flF_1 {X : LN} {a t d : Nat} (h : fo2 X a t d < 84) : iN X a t d (fo2 X a t d) < 84 ∧ fo2 X a t d < iN X a t d (fo2 X a t d) ∧ flF X a t d = 84 * fo2 X a t d + iN X a t d (fo2 X a t d) := by
  obtain ⟨j, hj⟩ : ∃ j, j = fo2 X a t d := ⟨_, rfl⟩
  have h1 : o2 X a t d (fo2 X a t d) = true := fdF_at (p := o2 X a t d) 84 0 (by unfold fo2 at h; omega)
  rw [← hj] at h h1 ⊢
  have h2 : iN X a t d j < 84 := of_decide_eq_true h1
  obtain ⟨k, hk⟩ : ∃ k, k = iN X a t d j := ⟨_, rfl⟩
  have hb := fdF_le (t2 X a t d j) (83 - j) (j + 1)
  have h3 : t2 X a t d j (iN X a t d j) = true := fdF_at (p := t2 X a t d j) (83 - j) (j + 1) (by unfold iN at h2; omega)
  have hjk : j < iN X a t d j := by unfold iN; omega
  rw [← hk] at h2 h3 hjk ⊢
  refine ⟨h2, hjk, ?_⟩
  unfold flF
  refine fdF_is 7056 0 _ (Nat.zero_le _) (by omega) ?_ (fun i _ hi => ?_)
  · unfold flB
    rw [show (84 * j + k) / 84 = j by omega, show (84 * j + k) % 84 = k by omega, h3, decide_eq_true hjk]
    rfl
  · unfold flB
    by_cases hc : i / 84 < i % 84
    · rw [decide_eq_true hc, Bool.true_and]
      by_cases e : i / 84 = j
      · rw [e]
        refine fdF_bef (p := t2 X a t d j) (83 - j) (j + 1) (i % 84) (by omega) ?_
        have : i % 84 < iN X a t d j := by omega
        exact this
      · have hlt : i / 84 < j := by omega
        have ho : o2 X a t d (i / 84) = false := fdF_bef (p := o2 X a t d) 84 0 (i / 84) (Nat.zero_le _) (by rw [hj] at hlt; exact hlt)
        exact iN_no (by omega) (of_decide_eq_false ho) hc (by omega)
    · rw [decide_eq_false hc]; rfl
theorem flF_0 {X : LN} {a t d : Nat} (h : ¬ fo2 X a t d < 84) : ¬ flF X a t d < 7056 := fun z => by
  have h1 : flB X a t d (flF X a t d) = true := fdF_at (p := flB X a t d) 7056 0 (by unfold flF at z; omega)
  unfold flB at h1
  simp only [Bool.and_eq_true, decide_eq_true_eq] at h1
  have hb := fdF_le (o2 X a t d) 84 0
  have ho : o2 X a t d (flF X a t d / 84) = false := fdF_all 84 0 (by unfold fo2 at h; omega) _ (Nat.zero_le _) (by omega)
  rw [iN_no (by omega) (of_decide_eq_false ho) h1.1 (by omega)] at h1
  cases h1.2

