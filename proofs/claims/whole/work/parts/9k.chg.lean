/-! CLASS AND MODEL TOGETHER: the calls that change something small -/
theorem nC_nI {v : Int32} (h : ¬ v < 0) : nI (nC v) = v := by
  rw [Int32.lt_iff_toInt_lt] at h
  have h0 : (0 : Int32).toInt = 0 := by decide
  have hl := Int32.toInt_lt v
  have e : nC v = v.toInt.toNat := rfl
  apply Int32.toInt_inj.mp
  rw [nI_toInt (by omega), e]
  omega
theorem nC_le {v : Int32} {m : Nat} (hm : m < 2 ^ 31) (h : ¬ nI m < v) : nC v ≤ m := by
  rw [Int32.lt_iff_toInt_lt, nI_toInt hm] at h
  have e : nC v = v.toInt.toNat := rfl
  omega
theorem nC_lt31 {v : Int32} : nC v < 2147483648 := by
  have hl := Int32.toInt_lt v
  have e : nC v = v.toInt.toNat := rfl
  omega
abbrev lnU (X : LN) (ha kn : Nat → Nat) (lw : Nat) : LN := (X.1, X.2.1, X.2.2.1, ha, kn, lw)
theorem pOk_u {np : Nat} {P : PD} {ha kn ha' kn' : Nat → Nat} (h : pOk np P ha kn) (h1 : ∀ p, p < P.1 → ha' p ≤ 3) (h2 : ∀ p, p < P.1 → kn' p < 2 ^ 14) : pOk np P ha' kn' := ⟨h.1, fun p hp => by obtain ⟨a, b, c, _, _⟩ := h.2 p hp; exact ⟨a, b, c, h1 p hp, h2 p hp⟩⟩
theorem LC_u {g g' : St} {X : LN} {ha kn : Nat → Nat} {lw : Nat} (h : LC g X) (h1 : ∀ p, p < X.2.2.1.1 → ha p ≤ 3) (h2 : ∀ p, p < X.2.2.1.1 → kn p < 2 ^ 14) (h3 : lw ≤ 3) (hj : ∀ j, 13 ≤ j → j ≤ 19 → g'.1 j = g.1 j) (e1 : ∀ p, p < X.2.2.1.1 → g'.1 20 p = nI (ha p)) (e2 : ∀ p, p < X.2.2.1.1 → g'.1 21 p = nI (kn p)) (e3 : g'.1 0 9 = nI lw) : LC g' (lnU X ha kn lw) := by
  obtain ⟨a1, a2, a3, a4, a5, ⟨a6, a7⟩, a8⟩ := h
  refine ⟨a1, pOk_u a2 h1 h2, h3, by rw [hj 13 (by decide) (by decide)]; exact a4, ?_, ⟨by rw [hj 13 (by decide) (by decide)]; exact a6, fun p hp => ?_⟩, e3⟩
  · unfold WyC at *
    rw [hj 13 (by decide) (by decide), hj 14 (by decide) (by decide), hj 15 (by decide) (by decide), hj 16 (by decide) (by decide)]; exact a5
  · obtain ⟨b1, b2, b3, _, _⟩ := a7 p hp
    rw [hj 17 (by decide) (by decide), hj 18 (by decide) (by decide), hj 19 (by decide) (by decide)]
    exact ⟨b1, b2, b3, e1 p hp, e2 p hp⟩
theorem MC_u {g g' : St} {X : LN} {ha kn : Nat → Nat} {lw : Nat} (h : MC g X) (h1 : ∀ p, p < X.2.2.1.1 → ha p ≤ 3) (h2 : ∀ p, p < X.2.2.1.1 → kn p < 2 ^ 14) (h3 : lw ≤ 3) (hj : ∀ j, 92 ≤ j → j ≤ 97 → g'.1 j = g.1 j) (hk : ∀ k, k = 0 ∨ k = 1 ∨ k = 5 → g'.1 91 k = g.1 91 k) (e1 : ∀ p, p < X.2.2.1.1 → g'.1 98 p = nI (ha p)) (e2 : ∀ p, p < X.2.2.1.1 → g'.1 99 p = nI (kn p)) (e3 : g'.1 91 11 = nI lw) : MC g' (lnU X ha kn lw) := by
  obtain ⟨a1, a2, a3, a4, ⟨a5, a5b⟩, ⟨a6, a7⟩, a8⟩ := h
  refine ⟨a1, pOk_u a2 h1 h2, h3, (hk 0 (by decide)).trans a4, ⟨(hk 1 (by decide)).trans a5, ?_⟩, ⟨(hk 5 (by decide)).trans a6, fun p hp => ?_⟩, e3⟩
  · rw [hj 92 (by decide) (by decide), hj 93 (by decide) (by decide), hj 94 (by decide) (by decide)]; exact a5b
  · obtain ⟨b1, b2, b3, _, _⟩ := a7 p hp
    rw [hj 95 (by decide) (by decide), hj 96 (by decide) (by decide), hj 97 (by decide) (by decide)]
    exact ⟨b1, b2, b3, e1 p hp, e2 p hp⟩
theorem LC_hk {g : St} {X : LN} (h : LC g X) : (∀ p, p < X.2.2.1.1 → X.2.2.2.1 p ≤ 3) ∧ (∀ p, p < X.2.2.1.1 → X.2.2.2.2.1 p < 2 ^ 14) ∧ (∀ p, p < X.2.2.1.1 → g.1 20 p = nI (X.2.2.2.1 p)) ∧ (∀ p, p < X.2.2.1.1 → g.1 21 p = nI (X.2.2.2.2.1 p)) := by
  obtain ⟨a1, a2, a3, a4, a5, ⟨a6, a7⟩, a8⟩ := h
  exact ⟨fun p hp => (a2.2 p hp).2.2.2.1, fun p hp => (a2.2 p hp).2.2.2.2, fun p hp => (a7 p hp).2.2.2.1, fun p hp => (a7 p hp).2.2.2.2⟩
theorem MC_hk {g : St} {X : LN} (h : MC g X) : (∀ p, p < X.2.2.1.1 → X.2.2.2.1 p ≤ 3) ∧ (∀ p, p < X.2.2.1.1 → X.2.2.2.2.1 p < 2 ^ 14) ∧ (∀ p, p < X.2.2.1.1 → g.1 98 p = nI (X.2.2.2.1 p)) ∧ (∀ p, p < X.2.2.1.1 → g.1 99 p = nI (X.2.2.2.2.1 p)) := by
  obtain ⟨a1, a2, a3, a4, a5, ⟨a6, a7⟩, a8⟩ := h
  exact ⟨fun p hp => (a2.2 p hp).2.2.2.1, fun p hp => (a2.2 p hp).2.2.2.2, fun p hp => (a7 p hp).2.2.2.1, fun p hp => (a7 p hp).2.2.2.2⟩
/-- only the land changes -/
theorem CS_ln {g g' : St} {σ : SG} {ha kn : Nat → Nat} {lw : Nat} (h : CS g σ) (hl : LC g' (lnU σ.1 ha kn lw)) (hj : ∀ j, ((1 ≤ j ∧ j ≤ 12) ∨ 76 ≤ j) → j ≤ 90 → g'.1 j = g.1 j) : CS g' (lnU σ.1 ha kn lw, σ.2) := by
  obtain ⟨h1, h2, h3, h4, h5, h6⟩ := h
  exact ⟨hl, JC_of (X := lnU σ.1 ha kn lw) h2 (fun j a b => hj j (by omega) (by omega)), ⟨(congrFun (hj 76 (by omega) (by omega)) 0).trans h3.1, h3.2⟩, TXC_go h4 (hj 1 (by omega) (by omega)) (hj 2 (by omega) (by omega)), (congrFun (hj 3 (by omega) (by omega)) 3).trans h5, fun i hi => imC_j (h6 i hi) hi (fun j a b => hj j (by omega) b)⟩
theorem MS_ln {g g' : St} {σ : SG} {ha kn : Nat → Nat} {lw : Nat} (h : MS g σ) (hl : MC g' (lnU σ.1 ha kn lw)) (hj : ∀ j, (j = 100 ∨ (119 ≤ j ∧ j ≤ 126)) → g'.1 j = g.1 j) (hk : ∀ k, (k = 12 ∨ k = 14 ∨ k = 15 ∨ k = 47 ∨ k = 50) → g'.1 91 k = g.1 91 k) : MS g' (lnU σ.1 ha kn lw, σ.2) := by
  obtain ⟨h1, h2, h3, h4, h5, h6⟩ := h
  exact ⟨hl, MJ_go (X := lnU σ.1 ha kn lw) h2 (hk 50 (by omega)) (hk 47 (by omega)) (fun j a b => hj j (by omega)), ⟨(hk 12 (by omega)).trans h3.1, h3.2⟩, MTx_go h4 (hk 14 (by omega)) (hj 100 (by omega)), (hk 15 (by omega)).trans h5, fun i hi => imM_go (h6 i hi) (congrFun (hj 126 (by omega)) i) (fun k _ _ => congrFun (hj 125 (by omega)) k) h1.2.1.1⟩
-- law
def nLaw (σ : SG) (v : Int32) : SG := if v < 0 ∨ 3 < v then σ else (lnU σ.1 σ.1.2.2.2.1 σ.1.2.2.2.2.1 (nC v), σ.2)
theorem x_law {ad : Nat → Nat} {g : St} {σ : SG} (h : CS g σ) {v : Int32} : Ci 1 mX9_law [.ref 0, .int v] ad g (XQ (aLaw σ.1 v) (nLaw σ v) g) := Ci_more (c_law h.1) (fun r g' q => by
  obtain ⟨rfl, q⟩ := q
  unfold nLaw
  split at q
  · rename_i c
    rw [if_pos c]; exact XQ_rf h ⟨rfl, q⟩
  · rename_i c
    rw [if_neg c]
    subst q
    obtain ⟨k1, k2, k3, k4⟩ := LC_hk h.1
    refine ⟨rfl, CS_ln h (LC_u h.1 k1 k2 (nC_le (m := 3) (by decide) (fun z => c (Or.inr z))) (fun j a b => upI_n (by omega)) (fun p hp => (congrFun (upI_n (by decide)) p).trans (k3 p hp)) (fun p hp => (congrFun (upI_n (by decide)) p).trans (k4 p hp)) ?_) (fun j a b => upI_n (by omega)), fun j hj => upI_n (by omega)⟩
    rw [upI_s, upd_s, nC_nI (fun z => c (Or.inl z))])
theorem y_law {ad : Nat → Nat} {g : St} {σ : SG} (h : MS g σ) {v : Int32} : Ci 2 mX10_law [.ref 91, .int v] ad g (YQ (aLaw σ.1 v) (nLaw σ v) g) := Ci_more (c_mLaw h.1) (fun r g' q => by
  obtain ⟨rfl, q⟩ := q
  unfold nLaw
  split at q
  · rename_i c
    rw [if_pos c]; exact YQ_rf h ⟨rfl, q⟩
  · rename_i c
    rw [if_neg c]
    subst q
    obtain ⟨k1, k2, k3, k4⟩ := MC_hk h.1
    refine ⟨rfl, MS_ln h (MC_u h.1 k1 k2 (nC_le (m := 3) (by decide) (fun z => c (Or.inr z))) (fun j a b => upI_n (by omega)) (fun k hk => upd_n2 (by omega)) (fun p hp => (congrFun (upI_n (by decide)) p).trans (k3 p hp)) (fun p hp => (congrFun (upI_n (by decide)) p).trans (k4 p hp)) ?_) (fun j a => upI_n (by omega)) (fun k hk => upd_n2 (by omega)), fun j hj => upI_n (by omega)⟩
    rw [upI_s, upd_s, nC_nI (fun z => c (Or.inl z))])
-- habit
def nHab (σ : SG) (p v : Int32) : SG := if isB p σ.1.2.2.1.1 = true then (if v < 0 ∨ 3 < v then σ else (lnU σ.1 (upN σ.1.2.2.2.1 (nC p) (nC v)) σ.1.2.2.2.2.1 σ.1.2.2.2.2.2, σ.2)) else σ
theorem upN_q {f : Nat → Nat} {k x : Nat} {Q : Nat → Prop} {n : Nat} (h : ∀ p, p < n → Q (f p)) (hx : Q x) : ∀ p, p < n → Q (upN f k x p) := fun p hp => by
  by_cases e : p = k
  · rw [e, up_s]; exact hx
  · rw [up_lt e]; exact h p hp
theorem upI_q {g : St} {o k x n : Nat} {f : Nat → Nat} {y : Int32} (h : ∀ p, p < n → g.1 o p = nI (f p)) (hy : y = nI x) : ∀ p, p < n → (upI g o k y).1 o p = nI (upN f k x p) := fun p hp => by
  by_cases e : p = k
  · rw [e, up_s, upI_s, upd_s]; exact hy
  · rw [up_lt e, upd_n2 e]; exact h p hp

theorem x_habit {ad : Nat → Nat} {g : St} {σ : SG} (h : CS g σ) {p v : Int32} : Ci 2 mX9_habit [.ref 0, .int p, .int v] ad g (XQ (aHab σ.1 p v) (nHab σ p v) g) := Ci_more (c_habit h.1) (fun r g' q => by
  obtain ⟨rfl, q⟩ := q
  unfold nHab
  obtain ⟨k1, k2, k3, k4⟩ := LC_hk h.1
  by_cases c1 : isB p σ.1.2.2.1.1 = true
  · rw [if_pos c1] at q ⊢
    by_cases c : v < 0 ∨ 3 < v
    · rw [if_pos c] at q ⊢; exact XQ_rf h ⟨rfl, q⟩
    · rw [if_neg c] at q ⊢
      subst q
      have hv3 : nC v ≤ 3 := nC_le (m := 3) (by decide) (fun z => c (Or.inr z))
      have hv := nC_nI (fun z => c (Or.inl z))
      exact ⟨rfl, CS_ln h (LC_u h.1 (upN_q (Q := fun z => z ≤ 3) k1 hv3) k2 h.1.2.2.1 (fun j a b => upI_n (by omega)) (upI_q k3 hv.symm) (fun p hp => (congrFun (upI_n (by decide)) p).trans (k4 p hp)) ((congrFun (upI_n (by decide)) _).trans h.1.2.2.2.2.2.2)) (fun j a b => upI_n (by omega)), fun j hj => upI_n (by omega)⟩
  · rw [if_neg c1] at q ⊢; exact XQ_rf h ⟨rfl, q⟩)
theorem y_habit {ad : Nat → Nat} {g : St} {σ : SG} (h : MS g σ) {p v : Int32} : Ci 3 mX10_habit [.ref 91, .int p, .int v] ad g (YQ (aHab σ.1 p v) (nHab σ p v) g) := Ci_more (c_mHabit h.1) (fun r g' q => by
  obtain ⟨rfl, q⟩ := q
  unfold nHab
  obtain ⟨k1, k2, k3, k4⟩ := MC_hk h.1
  by_cases c1 : isB p σ.1.2.2.1.1 = true
  · rw [if_pos c1] at q ⊢
    by_cases c : v < 0 ∨ 3 < v
    · rw [if_pos c] at q ⊢; exact YQ_rf h ⟨rfl, q⟩
    · rw [if_neg c] at q ⊢
      subst q
      have hv3 : nC v ≤ 3 := nC_le (m := 3) (by decide) (fun z => c (Or.inr z))
      have hv := nC_nI (fun z => c (Or.inl z))
      exact ⟨rfl, MS_ln h (MC_u h.1 (upN_q (Q := fun z => z ≤ 3) k1 hv3) k2 h.1.2.2.1 (fun j a b => upI_n (by omega)) (fun k hk => congrFun (upI_n (by decide)) k) (upI_q k3 hv.symm) (fun p hp => (congrFun (upI_n (by decide)) p).trans (k4 p hp)) ((congrFun (upI_n (by decide)) _).trans h.1.2.2.2.2.2.2)) (fun j a => upI_n (by omega)) (fun k hk => congrFun (upI_n (by decide)) k), fun j hj => upI_n (by omega)⟩
  · rw [if_neg c1] at q ⊢; exact YQ_rf h ⟨rfl, q⟩)
-- learn
def lrn (s q : Nat) (is : Int32) : Nat := if is = 0 then clrN s q else s ||| 1 <<< q
theorem lrn_lt {s q : Nat} {is : Int32} (hs : s < 2 ^ 14) (hq : q < 14) : lrn s q is < 2 ^ 14 := by
  unfold lrn
  split
  · exact (clr_lt (s := s) (q := q)).resolve_right (by omega)
  · exact Nat.or_lt_two_pow hs (by rw [Nat.one_shiftLeft]; exact Nat.pow_lt_pow_right (by decide) hq)
def nLrn (σ : SG) (p w is : Int32) : SG := if (isB p σ.1.2.2.1.1 && isB w σ.1.2.1.1) = true then (lnU σ.1 σ.1.2.2.2.1 (upN σ.1.2.2.2.2.1 (nC p) (lrn (σ.1.2.2.2.2.1 (nC p)) (nC w) is)) σ.1.2.2.2.2.2, σ.2) else σ
theorem x_learn {ad : Nat → Nat} {g : St} {σ : SG} (h : CS g σ) {p w is : Int32} : Ci 2 mX9_learn [.ref 0, .int p, .int w, .int is] ad g (XQ (aLrn σ.1 p w) (nLrn σ p w is) g) := Ci_more (c_learn h.1) (fun r g' q => by
  obtain ⟨rfl, q⟩ := q
  unfold nLrn
  obtain ⟨k1, k2, k3, k4⟩ := LC_hk h.1
  by_cases c1 : (isB p σ.1.2.2.1.1 && isB w σ.1.2.1.1) = true
  · rw [if_pos c1] at q ⊢
    subst q
    obtain ⟨c2, c3⟩ := Bool.and_eq_true_iff.mp c1
    obtain ⟨hp1, -⟩ := isB_cl (by have := h.1.2.1.1; omega) c2
    obtain ⟨hw1, -⟩ := isB_cl (by have := h.1.1.1; omega) c3
    have hw14 : nC w < 14 := Nat.lt_of_lt_of_le hw1 h.1.1.1
    have hlt : lrn (σ.1.2.2.2.2.1 (nC p)) (nC w) is < 2 ^ 14 := lrn_lt (k2 _ hp1) hw14
    exact ⟨rfl, CS_ln h (LC_u h.1 k1 (upN_q (Q := fun z => z < 2 ^ 14) k2 hlt) h.1.2.2.1 (fun j a b => upI_n (by omega)) (fun p hp => (congrFun (upI_n (by decide)) p).trans (k3 p hp)) (upI_q k4 rfl) ((congrFun (upI_n (by decide)) _).trans h.1.2.2.2.2.2.2)) (fun j a b => upI_n (by omega)), fun j hj => upI_n (by omega)⟩
  · rw [if_neg c1] at q ⊢; exact XQ_rf h ⟨rfl, q⟩)
theorem y_learn {ad : Nat → Nat} {g : St} {σ : SG} (h : MS g σ) {p w is : Int32} : Ci 3 mX10_learn [.ref 91, .int p, .int w, .int is] ad g (YQ (aLrn σ.1 p w) (nLrn σ p w is) g) := Ci_more (c_mLearn h.1) (fun r g' q => by
  obtain ⟨rfl, q⟩ := q
  unfold nLrn
  obtain ⟨k1, k2, k3, k4⟩ := MC_hk h.1
  by_cases c1 : (isB p σ.1.2.2.1.1 && isB w σ.1.2.1.1) = true
  · rw [if_pos c1] at q ⊢
    subst q
    obtain ⟨c2, c3⟩ := Bool.and_eq_true_iff.mp c1
    obtain ⟨hp1, -⟩ := isB_cl (by have := h.1.2.1.1; omega) c2
    obtain ⟨hw1, -⟩ := isB_cl (by have := h.1.1.1; omega) c3
    have hw14 : nC w < 14 := Nat.lt_of_lt_of_le hw1 h.1.1.1
    have hlt : lrn (σ.1.2.2.2.2.1 (nC p)) (nC w) is < 2 ^ 14 := lrn_lt (k2 _ hp1) hw14
    exact ⟨rfl, MS_ln h (MC_u h.1 k1 (upN_q (Q := fun z => z < 2 ^ 14) k2 hlt) h.1.2.2.1 (fun j a b => upI_n (by omega)) (fun k hk => congrFun (upI_n (by decide)) k) (fun p hp => (congrFun (upI_n (by decide)) p).trans (k3 p hp)) (upI_q k4 rfl) ((congrFun (upI_n (by decide)) _).trans h.1.2.2.2.2.2.2)) (fun j a => upI_n (by omega)) (fun k hk => congrFun (upI_n (by decide)) k), fun j hj => upI_n (by omega)⟩
  · rw [if_neg c1] at q ⊢; exact YQ_rf h ⟨rfl, q⟩)
-- seed
def nSee (σ : SG) (v : Int32) : SG := if v < 0 then σ else (σ.1, σ.2.1, nC v, σ.2.2.2)
theorem CS_sd {g g' : St} {σ : SG} {s : Nat} (h : CS g σ) (hs : s < 2147483648) (e : g'.1 76 0 = nI s) (hj : ∀ j, (j ≤ 21 ∨ 77 ≤ j) → j ≤ 90 → g'.1 j = g.1 j) : CS g' (σ.1, σ.2.1, s, σ.2.2.2) := by
  obtain ⟨h1, h2, h3, h4, h5, h6⟩ := h
  exact ⟨LC_go h1 (fun j q => hj j (by omega) (by omega)), JC_of h2 (fun j a b => hj j (by omega) (by omega)), ⟨e, hs⟩, TXC_go h4 (hj 1 (by omega) (by omega)) (hj 2 (by omega) (by omega)), (congrFun (hj 3 (by omega) (by omega)) 3).trans h5, fun i hi => imC_j (h6 i hi) hi (fun j a b => hj j (by omega) b)⟩
theorem MS_sd {g g' : St} {σ : SG} {s : Nat} (h : MS g σ) (hs : s < 2147483648) (e : g'.1 91 12 = nI s) (hj : ∀ j, ((92 ≤ j ∧ j ≤ 100) ∨ (119 ≤ j ∧ j ≤ 126)) → g'.1 j = g.1 j) (hk : ∀ k, (k = 0 ∨ k = 1 ∨ k = 5 ∨ k = 11 ∨ k = 14 ∨ k = 15 ∨ k = 47 ∨ k = 50) → g'.1 91 k = g.1 91 k) : MS g' (σ.1, σ.2.1, s, σ.2.2.2) := by
  obtain ⟨h1, h2, h3, h4, h5, h6⟩ := h
  exact ⟨MC_pk h1 (fun j a b => hj j (by omega)) (fun k q => hk k (by omega)), MJ_go h2 (hk 50 (by omega)) (hk 47 (by omega)) (fun j a b => hj j (by omega)), ⟨e, hs⟩, MTx_go h4 (hk 14 (by omega)) (hj 100 (by omega)), (hk 15 (by omega)).trans h5, fun i hi => imM_go (h6 i hi) (congrFun (hj 126 (by omega)) i) (fun k _ _ => congrFun (hj 125 (by omega)) k) h1.2.1.1⟩
theorem x_seed {ad : Nat → Nat} {g : St} {σ : SG} (h : CS g σ) {v : Int32} : Ci 1 mX9_seed [.ref 0, .int v] ad g (XQ (aSee σ.2.2.1 v) (nSee σ v) g) := Ci_more (c_seed h.2.2.1.1) (fun r g' q => by
  obtain ⟨rfl, q⟩ := q
  unfold nSee
  by_cases c : v < 0
  · rw [if_pos c] at q ⊢; exact XQ_rf h ⟨rfl, q⟩
  · rw [if_neg c] at q ⊢
    subst q
    exact ⟨rfl, CS_sd h nC_lt31 (by rw [upI_s, upd_s, nC_nI c]) (fun j a b => upI_n (by omega)), fun j hj => upI_n (by omega)⟩)
theorem y_seed {ad : Nat → Nat} {g : St} {σ : SG} (h : MS g σ) {v : Int32} : Ci 1 mX10_seed [.ref 91, .int v] ad g (YQ (aSee σ.2.2.1 v) (nSee σ v) g) := Ci_more (c_mSeed h.2.2.1.1) (fun r g' q => by
  obtain ⟨rfl, q⟩ := q
  unfold nSee
  by_cases c : v < 0
  · rw [if_pos c] at q ⊢; exact YQ_rf h ⟨rfl, q⟩
  · rw [if_neg c] at q ⊢
    subst q
    exact ⟨rfl, MS_sd h nC_lt31 (by rw [upI_s, upd_s, nC_nI c]) (fun j a => upI_n (by omega)) (fun k hk => upd_n2 (by omega)), fun j hj => upI_n (by omega)⟩)
-- drift
theorem drF_lt {X : LN} (hok : wOk X.1 X.2.1) (hpo : pOk X.1 X.2.2.1 X.2.2.2.1 X.2.2.2.2.1) (h0 : X.1 ≠ 0) : ∀ n (A : DS), A.2.2 < 2147483648 → (drF X n A).2.2 < 2147483648
  | 0, A, h => by rw [drF_zero]; exact h
  | n + 1, A, h => by
    rw [drF_succ]
    refine drF_lt hok hpo h0 n _ ?_
    unfold drS
    rw [drQ_s]
    exact (drL_ok hok hpo (t := drT X A.2.2) (a := drA X A.2.2) (Nat.mod_lt _ (Nat.pos_of_ne_zero h0)) sdN_lt).2.2.2.2
theorem sDri_lt {X : LN} (hok : wOk X.1 X.2.1) (hpo : pOk X.1 X.2.2.1 X.2.2.2.1 X.2.2.2.2.1) {s : Nat} (hs : s < 2147483648) {n x : Int32} : sDri X s n x < 2147483648 := by
  unfold sDri
  split
  · exact hs
  · split
    · exact hs
    · rename_i h0; exact drF_lt hok hpo h0 _ _ hs
def nDri (σ : SG) (n x : Int32) : SG := (σ.1, σ.2.1, sDri σ.1 σ.2.2.1 n x, σ.2.2.2)
theorem x_drift {ad : Nat → Nat} {g : St} {σ : SG} (h : CS g σ) {n x : Int32} : Ci 8 mX9_drift [.ref 0, .int n, .int x] ad g (XQ (aDri σ.1 σ.2.2.1 n x) (nDri σ n x) g) := Ci_more (c_drift h.1 h.2.2.1.1 h.2.2.1.2) (fun r g' q => by
  obtain ⟨rfl, q1, q2, q3⟩ := q
  exact ⟨rfl, CS_sd h (sDri_lt h.1.1 h.1.2.1 h.2.2.1.2) q3 (fun j a b => q1 j (by omega)), fun j hj => q1 j (by omega)⟩)
theorem y_drift {ad : Nat → Nat} {g : St} {σ : SG} (h : MS g σ) {n x : Int32} : Ci 7 mX10_drift [.ref 91, .int n, .int x] ad g (YQ (aDri σ.1 σ.2.2.1 n x) (nDri σ n x) g) := Ci_more (c_mDrift h.1 h.2.2.1.1 h.2.2.1.2) (fun r g' q => by
  obtain ⟨rfl, q1, q2, q4, q3⟩ := q
  exact ⟨rfl, MS_sd h (sDri_lt h.1.1 h.1.2.1 h.2.2.1.2) q3 (fun j a => q1 j (by omega)) (fun k hk => q2 k (by rcases hk with rfl | rfl | rfl | rfl | rfl | rfl | rfl | rfl <;> rfl) (by omega)), fun j hj => q1 j (by omega)⟩)

-- the journal
abbrev J0 : JN := ((0, f0, f0, f0, f0), (0, f0, f0))
theorem CS_jo {g g' : St} {σ : SG} {J : JN} (h : CS g σ) (hJ : JC g' σ.1 J) (hj : ∀ j, (j ≤ 21 ∨ j = 76 ∨ 84 ≤ j) → j ≤ 90 → g'.1 j = g.1 j) : CS g' (σ.1, J, σ.2.2) := by
  obtain ⟨h1, h2, h3, h4, h5, h6⟩ := h
  exact ⟨LC_go h1 (fun j q => hj j (by omega) (by omega)), hJ, ⟨(congrFun (hj 76 (by omega) (by omega)) 0).trans h3.1, h3.2⟩, TXC_go h4 (hj 1 (by omega) (by omega)) (hj 2 (by omega) (by omega)), (congrFun (hj 3 (by omega) (by omega)) 3).trans h5, fun i hi => imC_j (h6 i hi) hi (fun j a b => hj j (by omega) b)⟩
theorem MS_jo {g g' : St} {σ : SG} {J : JN} (h : MS g σ) (hJ : MJ g' σ.1 J) (hj : ∀ j, ((92 ≤ j ∧ j ≤ 100) ∨ j = 125 ∨ j = 126) → g'.1 j = g.1 j) (hk : ∀ k, (k = 0 ∨ k = 1 ∨ k = 5 ∨ k = 11 ∨ k = 12 ∨ k = 14 ∨ k = 15) → g'.1 91 k = g.1 91 k) : MS g' (σ.1, J, σ.2.2) := by
  obtain ⟨h1, h2, h3, h4, h5, h6⟩ := h
  exact ⟨MC_pk h1 (fun j a b => hj j (by omega)) (fun k q => hk k (by omega)), hJ, ⟨(hk 12 (by omega)).trans h3.1, h3.2⟩, MTx_go h4 (hk 14 (by omega)) (hj 100 (by omega)), (hk 15 (by omega)).trans h5, fun i hi => imM_go (h6 i hi) (congrFun (hj 126 (by omega)) i) (fun k _ _ => congrFun (hj 125 (by omega)) k) h1.2.1.1⟩
def nCle (σ : SG) : SG := (σ.1, J0, σ.2.2)
theorem JC_0 {g : St} {X : LN} (h1 : g.1 77 6 = 0) (h2 : g.1 77 7 = 0) : JC g X J0 := ⟨⟨h1, Nat.zero_le _, fun i hi => absurd hi (Nat.not_lt_zero i)⟩, ⟨h2, Nat.zero_le _, fun i hi => absurd hi (Nat.not_lt_zero i)⟩⟩
theorem MJ_0 {g : St} {X : LN} (h1 : g.1 91 50 = 0) (h2 : g.1 91 47 = 0) : MJ g X J0 := ⟨⟨h1, Nat.zero_le _, fun i hi => absurd hi (Nat.not_lt_zero i)⟩, ⟨h2, Nat.zero_le _, fun i hi => absurd hi (Nat.not_lt_zero i)⟩⟩
theorem x_clear {ad : Nat → Nat} {g : St} {σ : SG} (h : CS g σ) : Ci 2 mX9_clear [.ref 0] ad g (XQ (nI (σ.2.1.1.1 + σ.2.1.2.1)) (nCle σ) g) := Ci_more (c_clear h.2.1.1.1 h.2.1.2.1) (fun r g' q => by
  obtain ⟨rfl, rfl⟩ := q
  exact ⟨rfl, CS_jo h (JC_0 (by rw [upd_n2 (by decide), upI_s, upd_s]) (by rw [upI_s, upd_s])) (fun j a b => (upI_n (by omega)).trans (upI_n (by omega))), fun j hj => (upI_n (by omega)).trans (upI_n (by omega))⟩)
theorem y_clear {ad : Nat → Nat} {g : St} {σ : SG} (h : MS g σ) : Ci 1 mX10_clear [.ref 91] ad g (YQ (nI (σ.2.1.1.1 + σ.2.1.2.1)) (nCle σ) g) := Ci_more (c_mClear h.2.1.1.1 h.2.1.2.1) (fun r g' q => by
  obtain ⟨rfl, rfl⟩ := q
  exact ⟨rfl, MS_jo h (MJ_0 (by rw [upd_n2 (by decide), upI_s, upd_s]) (by rw [upI_s, upd_s])) (fun j a => (upI_n (by omega)).trans (upI_n (by omega))) (fun k hk => (upd_n2 (by omega)).trans (upd_n2 (by omega))), fun j hj => (upI_n (by omega)).trans (upI_n (by omega))⟩)
def nLac (σ : SG) (p m : Int32) : SG := if isB p σ.1.2.2.1.1 = true then (if m < 0 ∨ 999 < m then σ else if σ.2.1.2.1 < 8 then (σ.1, (σ.2.1.1, (σ.2.1.2.1 + 1, upN σ.2.1.2.2.1 σ.2.1.2.1 (nC p), upN σ.2.1.2.2.2 σ.2.1.2.1 (nC m))), σ.2.2) else σ) else σ
def nLog (σ : SG) (p t k q : Int32) : SG := if (isB p σ.1.2.2.1.1 && (isB t σ.1.1 && isB q σ.1.1)) = true then (if k < 0 ∨ 9 < k then σ else if σ.2.1.1.1 < 30 then (σ.1, ((σ.2.1.1.1 + 1, upN σ.2.1.1.2.1 σ.2.1.1.1 (nC p), upN σ.2.1.1.2.2.1 σ.2.1.1.1 (nC t), upN σ.2.1.1.2.2.2.1 σ.2.1.1.1 (nC k), upN σ.2.1.1.2.2.2.2 σ.2.1.1.1 (nC q)), σ.2.1.2), σ.2.2) else σ) else σ
theorem JC_m {g : St} {X : LN} {J : JN} (h : JC g X J) (h8 : J.2.1 < 8) {p m : Nat} {x y : Int32} (hp : p < X.2.2.1.1) (hm : m ≤ 999) (hx : x = nI p) (hy : y = nI m) : JC (upI (upI (upI g 82 J.2.1 x) 83 J.2.1 y) 77 7 (nI (J.2.1 + 1))) X (J.1, (J.2.1 + 1, upN J.2.2.1 J.2.1 p, upN J.2.2.2 J.2.1 m)) := by
  obtain ⟨⟨a1, a2, a3⟩, b1, b2, b3⟩ := h
  refine ⟨⟨?_, a2, fun i hi => ?_⟩, ?_, h8, fun i hi => ?_⟩
  · exact (upd_n2 (by decide)).trans ((congrFun (upI_n (by decide)) _).trans ((congrFun (upI_n (by decide)) _).trans a1))
  · rw [show (upI (upI (upI g 82 J.2.1 x) 83 J.2.1 y) 77 7 (nI (J.2.1 + 1))).1 78 = g.1 78 from (upI_n (by decide)).trans ((upI_n (by decide)).trans (upI_n (by decide))), show (upI (upI (upI g 82 J.2.1 x) 83 J.2.1 y) 77 7 (nI (J.2.1 + 1))).1 79 = g.1 79 from (upI_n (by decide)).trans ((upI_n (by decide)).trans (upI_n (by decide))), show (upI (upI (upI g 82 J.2.1 x) 83 J.2.1 y) 77 7 (nI (J.2.1 + 1))).1 80 = g.1 80 from (upI_n (by decide)).trans ((upI_n (by decide)).trans (upI_n (by decide))), show (upI (upI (upI g 82 J.2.1 x) 83 J.2.1 y) 77 7 (nI (J.2.1 + 1))).1 81 = g.1 81 from (upI_n (by decide)).trans ((upI_n (by decide)).trans (upI_n (by decide)))]
    exact a3 i hi
  · rw [upI_s, upd_s]
  · show (_ = nI (upN _ _ _ _) ∧ _ = nI (upN _ _ _ _)) ∧ upN _ _ _ _ < X.2.2.1.1 ∧ upN _ _ _ _ ≤ 999
    rw [show (upI (upI (upI g 82 J.2.1 x) 83 J.2.1 y) 77 7 (nI (J.2.1 + 1))).1 82 = upd (g.1 82) J.2.1 x from by rw [upI_n (by decide), upI_n (by decide), upI_s], show (upI (upI (upI g 82 J.2.1 x) 83 J.2.1 y) 77 7 (nI (J.2.1 + 1))).1 83 = upd (g.1 83) J.2.1 y from by rw [upI_n (by decide), upI_s, upI_n (by decide)]]
    by_cases e : i = J.2.1
    · rw [e, up_s, up_s, upd_s, upd_s]; exact ⟨⟨hx, hy⟩, hp, hm⟩
    · rw [up_lt e, up_lt e, upd_e e, upd_e e]; exact b3 i (by have : i < J.2.1 + 1 := hi; omega)
theorem JC_l {g : St} {X : LN} {J : JN} (h : JC g X J) (h30 : J.1.1 < 30) {p t k q : Nat} {x y z u : Int32} (hp : p < X.2.2.1.1) (ht : t < X.1) (hk : k ≤ 9) (hq : q < X.1) (hx : x = nI p) (hy : y = nI t) (hz : z = nI k) (hu : u = nI q) : JC (upI (upI (upI (upI (upI g 78 J.1.1 x) 79 J.1.1 y) 80 J.1.1 z) 81 J.1.1 u) 77 6 (nI (J.1.1 + 1))) X ((J.1.1 + 1, upN J.1.2.1 J.1.1 p, upN J.1.2.2.1 J.1.1 t, upN J.1.2.2.2.1 J.1.1 k, upN J.1.2.2.2.2 J.1.1 q), J.2) := by
  obtain ⟨⟨a1, a2, a3⟩, b1, b2, b3⟩ := h
  refine ⟨⟨?_, h30, fun i hi => ?_⟩, ?_, b2, fun i hi => ?_⟩
  · rw [upI_s, upd_s]
  · show (_ = nI (upN _ _ _ _) ∧ _ = nI (upN _ _ _ _) ∧ _ = nI (upN _ _ _ _) ∧ _ = nI (upN _ _ _ _)) ∧ upN _ _ _ _ < X.2.2.1.1 ∧ upN _ _ _ _ < X.1 ∧ upN _ _ _ _ ≤ 9 ∧ upN _ _ _ _ < X.1
    rw [show (upI (upI (upI (upI (upI g 78 J.1.1 x) 79 J.1.1 y) 80 J.1.1 z) 81 J.1.1 u) 77 6 (nI (J.1.1 + 1))).1 78 = upd (g.1 78) J.1.1 x from by rw [upI_n (by decide), upI_n (by decide), upI_n (by decide), upI_n (by decide), upI_s], show (upI (upI (upI (upI (upI g 78 J.1.1 x) 79 J.1.1 y) 80 J.1.1 z) 81 J.1.1 u) 77 6 (nI (J.1.1 + 1))).1 79 = upd (g.1 79) J.1.1 y from by rw [upI_n (by decide), upI_n (by decide), upI_n (by decide), upI_s, upI_n (by decide)], show (upI (upI (upI (upI (upI g 78 J.1.1 x) 79 J.1.1 y) 80 J.1.1 z) 81 J.1.1 u) 77 6 (nI (J.1.1 + 1))).1 80 = upd (g.1 80) J.1.1 z from by rw [upI_n (by decide), upI_n (by decide), upI_s, upI_n (by decide), upI_n (by decide)], show (upI (upI (upI (upI (upI g 78 J.1.1 x) 79 J.1.1 y) 80 J.1.1 z) 81 J.1.1 u) 77 6 (nI (J.1.1 + 1))).1 81 = upd (g.1 81) J.1.1 u from by rw [upI_n (by decide), upI_s, upI_n (by decide), upI_n (by decide), upI_n (by decide)]]
    by_cases e : i = J.1.1
    · rw [e, up_s, up_s, up_s, up_s, upd_s, upd_s, upd_s, upd_s]; exact ⟨⟨hx, hy, hz, hu⟩, hp, ht, hk, hq⟩
    · rw [up_lt e, up_lt e, up_lt e, up_lt e, upd_e e, upd_e e, upd_e e, upd_e e]; exact a3 i (by have : i < J.1.1 + 1 := hi; omega)
  · exact (upd_n2 (by decide)).trans ((congrFun (upI_n (by decide)) _).trans ((congrFun (upI_n (by decide)) _).trans ((congrFun (upI_n (by decide)) _).trans ((congrFun (upI_n (by decide)) _).trans b1))))
  · rw [show (upI (upI (upI (upI (upI g 78 J.1.1 x) 79 J.1.1 y) 80 J.1.1 z) 81 J.1.1 u) 77 6 (nI (J.1.1 + 1))).1 82 = g.1 82 from (upI_n (by decide)).trans ((upI_n (by decide)).trans ((upI_n (by decide)).trans ((upI_n (by decide)).trans (upI_n (by decide))))), show (upI (upI (upI (upI (upI g 78 J.1.1 x) 79 J.1.1 y) 80 J.1.1 z) 81 J.1.1 u) 77 6 (nI (J.1.1 + 1))).1 83 = g.1 83 from (upI_n (by decide)).trans ((upI_n (by decide)).trans ((upI_n (by decide)).trans ((upI_n (by decide)).trans (upI_n (by decide)))))]
    exact b3 i hi
theorem x_lack {ad : Nat → Nat} {g : St} {σ : SG} (h : CS g σ) {p m : Int32} : Ci 3 mX9_lack [.ref 0, .int p, .int m] ad g (XQ (aLac σ.1 σ.2.1.2.1 p m) (nLac σ p m) g) := Ci_more (c_lack h.1 h.2.1.2.1 h.2.1.2.2.1) (fun r g' q => by
  obtain ⟨rfl, q⟩ := q
  unfold nLac
  unfold gLac at q
  by_cases c1 : isB p σ.1.2.2.1.1 = true
  · rw [if_pos c1] at q ⊢
    by_cases c2 : m < 0 ∨ 999 < m
    · rw [if_pos c2] at q ⊢; exact XQ_rf h ⟨rfl, q⟩
    · rw [if_neg c2] at q ⊢
      by_cases c3 : σ.2.1.2.1 < 8
      · rw [if_pos c3] at q ⊢
        subst q
        obtain ⟨p1, p2⟩ := isB_cl (by have := h.1.2.1.1; omega) c1
        exact ⟨rfl, CS_jo h (JC_m h.2.1 c3 p1 (nC_le (m := 999) (by decide) (fun z => c2 (Or.inr z))) p2 (nC_nI (fun z => c2 (Or.inl z))).symm) (fun j a b => (upI_n (by omega)).trans ((upI_n (by omega)).trans (upI_n (by omega)))), fun j hj => (upI_n (by omega)).trans ((upI_n (by omega)).trans (upI_n (by omega)))⟩
      · rw [if_neg c3] at q ⊢; exact XQ_rf h ⟨rfl, q⟩
  · rw [if_neg c1] at q ⊢; exact XQ_rf h ⟨rfl, q⟩)
theorem x_log {ad : Nat → Nat} {g : St} {σ : SG} (h : CS g σ) {p t k q0 : Int32} : Ci 3 mX9_log [.ref 0, .int p, .int t, .int k, .int q0] ad g (XQ (aLog σ.1 σ.2.1.1.1 p t k q0) (nLog σ p t k q0) g) := Ci_more (c_log h.1 h.2.1.1.1 h.2.1.1.2.1) (fun r g' q => by
  obtain ⟨rfl, q⟩ := q
  unfold nLog
  unfold gLog at q
  by_cases c1 : (isB p σ.1.2.2.1.1 && (isB t σ.1.1 && isB q0 σ.1.1)) = true
  · rw [if_pos c1] at q ⊢
    by_cases c2 : k < 0 ∨ 9 < k
    · rw [if_pos c2] at q ⊢; exact XQ_rf h ⟨rfl, q⟩
    · rw [if_neg c2] at q ⊢
      by_cases c3 : σ.2.1.1.1 < 30
      · rw [if_pos c3] at q ⊢
        subst q
        obtain ⟨d1, d2⟩ := Bool.and_eq_true_iff.mp c1
        obtain ⟨d3, d4⟩ := Bool.and_eq_true_iff.mp d2
        have h10 := h.1.1.2.1
        obtain ⟨p1, p2⟩ := isB_cl (by have := h.1.2.1.1; omega) d1
        obtain ⟨t1, t2⟩ := isB_cl (by omega) d3
        obtain ⟨q1, q2⟩ := isB_cl (by omega) d4
        exact ⟨rfl, CS_jo h (JC_l h.2.1 c3 p1 t1 (nC_le (m := 9) (by decide) (fun z => c2 (Or.inr z))) q1 p2 t2 (nC_nI (fun z => c2 (Or.inl z))).symm q2) (fun j a b => (upI_n (by omega)).trans ((upI_n (by omega)).trans ((upI_n (by omega)).trans ((upI_n (by omega)).trans (upI_n (by omega)))))), fun j hj => (upI_n (by omega)).trans ((upI_n (by omega)).trans ((upI_n (by omega)).trans ((upI_n (by omega)).trans (upI_n (by omega)))))⟩
      · rw [if_neg c3] at q ⊢; exact XQ_rf h ⟨rfl, q⟩
  · rw [if_neg c1] at q ⊢; exact XQ_rf h ⟨rfl, q⟩)
theorem MJ_m {g : St} {X : LN} {J : JN} (h : MJ g X J) (h8 : J.2.1 < 8) {p m : Nat} {x y : Int32} (hp : p < X.2.2.1.1) (hm : m ≤ 999) (hx : x = nI p) (hy : y = nI m) : MJ (upI (upI (upI g 119 J.2.1 x) 120 J.2.1 y) 91 47 (nI (J.2.1 + 1))) X (J.1, (J.2.1 + 1, upN J.2.2.1 J.2.1 p, upN J.2.2.2 J.2.1 m)) := by
  obtain ⟨⟨a1, a2, a3⟩, b1, b2, b3⟩ := h
  refine ⟨⟨?_, a2, fun i hi => ?_⟩, ?_, h8, fun i hi => ?_⟩
  · exact (upd_n2 (by decide)).trans ((congrFun (upI_n (by decide)) _).trans ((congrFun (upI_n (by decide)) _).trans a1))
  · rw [show (upI (upI (upI g 119 J.2.1 x) 120 J.2.1 y) 91 47 (nI (J.2.1 + 1))).1 121 = g.1 121 from (upI_n (by decide)).trans ((upI_n (by decide)).trans (upI_n (by decide))), show (upI (upI (upI g 119 J.2.1 x) 120 J.2.1 y) 91 47 (nI (J.2.1 + 1))).1 122 = g.1 122 from (upI_n (by decide)).trans ((upI_n (by decide)).trans (upI_n (by decide))), show (upI (upI (upI g 119 J.2.1 x) 120 J.2.1 y) 91 47 (nI (J.2.1 + 1))).1 123 = g.1 123 from (upI_n (by decide)).trans ((upI_n (by decide)).trans (upI_n (by decide))), show (upI (upI (upI g 119 J.2.1 x) 120 J.2.1 y) 91 47 (nI (J.2.1 + 1))).1 124 = g.1 124 from (upI_n (by decide)).trans ((upI_n (by decide)).trans (upI_n (by decide)))]
    exact a3 i hi
  · rw [upI_s, upd_s]
  · show (_ = nI (upN _ _ _ _) ∧ _ = nI (upN _ _ _ _)) ∧ upN _ _ _ _ < X.2.2.1.1 ∧ upN _ _ _ _ ≤ 999
    rw [show (upI (upI (upI g 119 J.2.1 x) 120 J.2.1 y) 91 47 (nI (J.2.1 + 1))).1 119 = upd (g.1 119) J.2.1 x from by rw [upI_n (by decide), upI_n (by decide), upI_s], show (upI (upI (upI g 119 J.2.1 x) 120 J.2.1 y) 91 47 (nI (J.2.1 + 1))).1 120 = upd (g.1 120) J.2.1 y from by rw [upI_n (by decide), upI_s, upI_n (by decide)]]
    by_cases e : i = J.2.1
    · rw [e, up_s, up_s, upd_s, upd_s]; exact ⟨⟨hx, hy⟩, hp, hm⟩
    · rw [up_lt e, up_lt e, upd_e e, upd_e e]; exact b3 i (by have : i < J.2.1 + 1 := hi; omega)
theorem MJ_l {g : St} {X : LN} {J : JN} (h : MJ g X J) (h30 : J.1.1 < 30) {p t k q : Nat} {x y z u : Int32} (hp : p < X.2.2.1.1) (ht : t < X.1) (hk : k ≤ 9) (hq : q < X.1) (hx : x = nI p) (hy : y = nI t) (hz : z = nI k) (hu : u = nI q) : MJ (upI (upI (upI (upI (upI g 121 J.1.1 x) 122 J.1.1 y) 123 J.1.1 z) 124 J.1.1 u) 91 50 (nI (J.1.1 + 1))) X ((J.1.1 + 1, upN J.1.2.1 J.1.1 p, upN J.1.2.2.1 J.1.1 t, upN J.1.2.2.2.1 J.1.1 k, upN J.1.2.2.2.2 J.1.1 q), J.2) := by
  obtain ⟨⟨a1, a2, a3⟩, b1, b2, b3⟩ := h
  refine ⟨⟨?_, h30, fun i hi => ?_⟩, ?_, b2, fun i hi => ?_⟩
  · rw [upI_s, upd_s]
  · show (_ = nI (upN _ _ _ _) ∧ _ = nI (upN _ _ _ _) ∧ _ = nI (upN _ _ _ _) ∧ _ = nI (upN _ _ _ _)) ∧ upN _ _ _ _ < X.2.2.1.1 ∧ upN _ _ _ _ < X.1 ∧ upN _ _ _ _ ≤ 9 ∧ upN _ _ _ _ < X.1
    rw [show (upI (upI (upI (upI (upI g 121 J.1.1 x) 122 J.1.1 y) 123 J.1.1 z) 124 J.1.1 u) 91 50 (nI (J.1.1 + 1))).1 121 = upd (g.1 121) J.1.1 x from by rw [upI_n (by decide), upI_n (by decide), upI_n (by decide), upI_n (by decide), upI_s], show (upI (upI (upI (upI (upI g 121 J.1.1 x) 122 J.1.1 y) 123 J.1.1 z) 124 J.1.1 u) 91 50 (nI (J.1.1 + 1))).1 122 = upd (g.1 122) J.1.1 y from by rw [upI_n (by decide), upI_n (by decide), upI_n (by decide), upI_s, upI_n (by decide)], show (upI (upI (upI (upI (upI g 121 J.1.1 x) 122 J.1.1 y) 123 J.1.1 z) 124 J.1.1 u) 91 50 (nI (J.1.1 + 1))).1 123 = upd (g.1 123) J.1.1 z from by rw [upI_n (by decide), upI_n (by decide), upI_s, upI_n (by decide), upI_n (by decide)], show (upI (upI (upI (upI (upI g 121 J.1.1 x) 122 J.1.1 y) 123 J.1.1 z) 124 J.1.1 u) 91 50 (nI (J.1.1 + 1))).1 124 = upd (g.1 124) J.1.1 u from by rw [upI_n (by decide), upI_s, upI_n (by decide), upI_n (by decide), upI_n (by decide)]]
    by_cases e : i = J.1.1
    · rw [e, up_s, up_s, up_s, up_s, upd_s, upd_s, upd_s, upd_s]; exact ⟨⟨hx, hy, hz, hu⟩, hp, ht, hk, hq⟩
    · rw [up_lt e, up_lt e, up_lt e, up_lt e, upd_e e, upd_e e, upd_e e, upd_e e]; exact a3 i (by have : i < J.1.1 + 1 := hi; omega)
  · exact (upd_n2 (by decide)).trans ((congrFun (upI_n (by decide)) _).trans ((congrFun (upI_n (by decide)) _).trans ((congrFun (upI_n (by decide)) _).trans ((congrFun (upI_n (by decide)) _).trans b1))))
  · rw [show (upI (upI (upI (upI (upI g 121 J.1.1 x) 122 J.1.1 y) 123 J.1.1 z) 124 J.1.1 u) 91 50 (nI (J.1.1 + 1))).1 119 = g.1 119 from (upI_n (by decide)).trans ((upI_n (by decide)).trans ((upI_n (by decide)).trans ((upI_n (by decide)).trans (upI_n (by decide))))), show (upI (upI (upI (upI (upI g 121 J.1.1 x) 122 J.1.1 y) 123 J.1.1 z) 124 J.1.1 u) 91 50 (nI (J.1.1 + 1))).1 120 = g.1 120 from (upI_n (by decide)).trans ((upI_n (by decide)).trans ((upI_n (by decide)).trans ((upI_n (by decide)).trans (upI_n (by decide)))))]
    exact b3 i hi
theorem y_lack {ad : Nat → Nat} {g : St} {σ : SG} (h : MS g σ) {p m : Int32} : Ci 3 mX10_lack [.ref 91, .int p, .int m] ad g (YQ (aLac σ.1 σ.2.1.2.1 p m) (nLac σ p m) g) := Ci_more (c_mLack h.1 h.2.1.2.1 h.2.1.2.2.1) (fun r g' q => by
  obtain ⟨rfl, q⟩ := q
  unfold nLac
  unfold mLac at q
  by_cases c1 : isB p σ.1.2.2.1.1 = true
  · rw [if_pos c1] at q ⊢
    by_cases c2 : m < 0 ∨ 999 < m
    · rw [if_pos c2] at q ⊢; exact YQ_rf h ⟨rfl, q⟩
    · rw [if_neg c2] at q ⊢
      by_cases c3 : σ.2.1.2.1 < 8
      · rw [if_pos c3] at q ⊢
        subst q
        obtain ⟨p1, p2⟩ := isB_cl (by have := h.1.2.1.1; omega) c1
        exact ⟨rfl, MS_jo h (MJ_m h.2.1 c3 p1 (nC_le (m := 999) (by decide) (fun z => c2 (Or.inr z))) p2 (nC_nI (fun z => c2 (Or.inl z))).symm) (fun j a => (upI_n (by omega)).trans ((upI_n (by omega)).trans (upI_n (by omega)))) (fun k hk => (upd_n2 (by omega)).trans ((congrFun (upI_n (by decide)) k).trans (congrFun (upI_n (by decide)) k))), fun j hj => (upI_n (by omega)).trans ((upI_n (by omega)).trans (upI_n (by omega)))⟩
      · rw [if_neg c3] at q ⊢; exact YQ_rf h ⟨rfl, q⟩
  · rw [if_neg c1] at q ⊢; exact YQ_rf h ⟨rfl, q⟩)
theorem y_log {ad : Nat → Nat} {g : St} {σ : SG} (h : MS g σ) {p t k q0 : Int32} : Ci 3 mX10_log [.ref 91, .int p, .int t, .int k, .int q0] ad g (YQ (aLog σ.1 σ.2.1.1.1 p t k q0) (nLog σ p t k q0) g) := Ci_more (c_mLogg h.1 h.2.1.1.1 h.2.1.1.2.1) (fun r g' q => by
  obtain ⟨rfl, q⟩ := q
  unfold nLog
  unfold mLog at q
  by_cases c1 : (isB p σ.1.2.2.1.1 && (isB t σ.1.1 && isB q0 σ.1.1)) = true
  · rw [if_pos c1] at q ⊢
    by_cases c2 : k < 0 ∨ 9 < k
    · rw [if_pos c2] at q ⊢; exact YQ_rf h ⟨rfl, q⟩
    · rw [if_neg c2] at q ⊢
      by_cases c3 : σ.2.1.1.1 < 30
      · rw [if_pos c3] at q ⊢
        subst q
        obtain ⟨d1, d2⟩ := Bool.and_eq_true_iff.mp c1
        obtain ⟨d3, d4⟩ := Bool.and_eq_true_iff.mp d2
        have h10 := h.1.1.2.1
        obtain ⟨p1, p2⟩ := isB_cl (by have := h.1.2.1.1; omega) d1
        obtain ⟨t1, t2⟩ := isB_cl (by omega) d3
        obtain ⟨q1, q2⟩ := isB_cl (by omega) d4
        exact ⟨rfl, MS_jo h (MJ_l h.2.1 c3 p1 t1 (nC_le (m := 9) (by decide) (fun z => c2 (Or.inr z))) q1 p2 t2 (nC_nI (fun z => c2 (Or.inl z))).symm q2) (fun j a => (upI_n (by omega)).trans ((upI_n (by omega)).trans ((upI_n (by omega)).trans ((upI_n (by omega)).trans (upI_n (by omega)))))) (fun k hk => (upd_n2 (by omega)).trans ((congrFun (upI_n (by decide)) k).trans ((congrFun (upI_n (by decide)) k).trans ((congrFun (upI_n (by decide)) k).trans (congrFun (upI_n (by decide)) k))))), fun j hj => (upI_n (by omega)).trans ((upI_n (by omega)).trans ((upI_n (by omega)).trans ((upI_n (by omega)).trans (upI_n (by omega)))))⟩
      · rw [if_neg c3] at q ⊢; exact YQ_rf h ⟨rfl, q⟩
  · rw [if_neg c1] at q ⊢; exact YQ_rf h ⟨rfl, q⟩)
