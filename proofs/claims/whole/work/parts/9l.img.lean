/-! CLASS AND MODEL TOGETHER: images, feed, land -/
theorem CS_im {g g' : St} {σ : SG} {im : Nat → IG} (h : CS g σ) (hj : ∀ j, (j ≤ 21 ∨ 76 ≤ j) → j ≤ 84 → g'.1 j = g.1 j) (hi : ∀ i, i < 2 → imC g' σ.1.2.2.1.1 i (im i)) : CS g' (σ.1, σ.2.1, σ.2.2.1, σ.2.2.2.1, σ.2.2.2.2.1, im) := by
  obtain ⟨h1, h2, h3, h4, h5, h6⟩ := h
  exact ⟨LC_go h1 (fun j q => hj j (by omega) (by omega)), JC_of h2 (fun j a b => hj j (by omega) (by omega)), ⟨(congrFun (hj 76 (by omega) (by omega)) 0).trans h3.1, h3.2⟩, TXC_go h4 (hj 1 (by omega) (by omega)) (hj 2 (by omega) (by omega)), (congrFun (hj 3 (by omega) (by omega)) 3).trans h5, hi⟩
theorem MS_im {g g' : St} {σ : SG} {im : Nat → IG} (h : MS g σ) (hj : ∀ j, (91 ≤ j ∧ j ≤ 100) ∨ (119 ≤ j ∧ j ≤ 124) → g'.1 j = g.1 j) (hi : ∀ i, i < 2 → imM g' σ.1.2.2.1.1 i (im i)) : MS g' (σ.1, σ.2.1, σ.2.2.1, σ.2.2.2.1, σ.2.2.2.2.1, im) := by
  obtain ⟨h1, h2, h3, h4, h5, h6⟩ := h
  have hk : ∀ k, g'.1 91 k = g.1 91 k := fun k => congrFun (hj 91 (by omega)) k
  exact ⟨MC_pk h1 (fun j a b => hj j (by omega)) (fun k q => hk k), MJ_go h2 (hk 50) (hk 47) (fun j a b => hj j (by omega)), ⟨(hk 12).trans h3.1, h3.2⟩, MTx_go h4 (hk 14) (hj 100 (by omega)), (hk 15).trans h5, hi⟩
def nKee (σ : SG) (x : Int32) : SG := if isB x 2 = true then (σ.1, σ.2.1, σ.2.2.1, σ.2.2.2.1, σ.2.2.2.2.1, fun j => if j = nC x then some (σ.1.2.2.2.2.1, σ.1.2.2.2.1, σ.1.2.2.2.2.2, σ.2.2.1) else σ.2.2.2.2.2 j) else σ
def aKee (x : Int32) : Int32 := if isB x 2 = true then 1 else UNK
theorem gKp_n {g : St} {o j : Nat} (h : j ≠ o) (h1 : j ≠ o + 1) (h2 : j ≠ o + 2) : (gKp g o).1 j = g.1 j := by
  unfold gKp
  rw [upI_n h, upI_n h, upI_n h, upR_n h2, upR_n h1]
theorem x_keep {ad : Nat → Nat} {g : St} {σ : SG} (h : CS g σ) {i : Int32} : Ci 2 mX9_keep [.ref 0, .int i] ad g (XQ (aKee i) (nKee σ i) g) := Ci_more c_keep (fun r g' q => by
  obtain ⟨rfl, q⟩ := q
  unfold nKee
  by_cases c : isB i 2 = true
  · rw [if_pos c] at q ⊢
    obtain ⟨i1, i2⟩ := isB_cl (by decide) c
    obtain ⟨j, hj⟩ : ∃ j, j = i.toNatClampNeg := ⟨_, rfl⟩
    have hjn : nC i = j := hj.symm
    rw [← hj] at q i1
    rw [hjn]
    obtain ⟨o, ho⟩ : ∃ o, o = 85 + 3 * j := ⟨_, rfl⟩
    rw [← ho] at q
    subst q
    obtain ⟨k1, k2, k3, k4⟩ := LC_hk h.1
    have h6 := h.1.2.1.1
    have fr : ∀ q, q ≠ o → q ≠ o + 1 → q ≠ o + 2 → (gKp g o).1 q = g.1 q := fun q a b d => gKp_n a b d
    refine ⟨rfl, CS_im h (fun q a b => fr q (by omega) (by omega) (by omega)) (fun q hq => ?_), fun q hq => fr q (by omega) (by omega) (by omega)⟩
    by_cases e : q = j
    · rw [if_pos e]
      subst e
      refine ⟨?_, h.1.2.2.1, h.2.2.1.2, ?_, ?_, fun p hp => ⟨⟨k2 p hp, k1 p hp⟩, ?_, ?_⟩⟩
      · rw [← ho]; unfold gKp; rw [upI_s, upd_s]
      · rw [← ho]; unfold gKp; rw [upd_n2 (by decide), upd_n2 (by decide), upI_s, upd_s]; exact h.1.2.2.2.2.2.2
      · rw [← ho]; unfold gKp; rw [upd_n2 (by decide), upI_s, upd_s]; exact h.2.2.1.1
      · rw [← ho]; unfold gKp; rw [upI_n (by omega), upI_n (by omega), upI_n (by omega), upR_n (by omega), upR_s, cp6_lt (by omega)]; exact k4 p hp
      · rw [← ho]; unfold gKp; rw [upI_n (by omega), upI_n (by omega), upI_n (by omega), upR_s, cp6_lt (by omega)]; exact k3 p hp
    · rw [if_neg e]
      have t : ∀ d, d < 3 → (gKp g o).1 (85 + 3 * q + d) = g.1 (85 + 3 * q + d) := fun d hd => fr _ (by omega) (by omega) (by omega)
      exact imC_go (h.2.2.2.2.2 q hq) (congrFun (t 0 (by decide)) _) (congrFun (t 0 (by decide)) _) (congrFun (t 0 (by decide)) _) (t 1 (by decide)) (t 2 (by decide))
  · rw [if_neg c] at q ⊢
    exact XQ_rf h ⟨rfl, q⟩)
theorem y_keep {ad : Nat → Nat} {g : St} {σ : SG} (h : MS g σ) {i : Int32} : Ci 2 mX10_keep [.ref 91, .int i] ad g (YQ (aKee i) (nKee σ i) g) := Ci_more c_mKeep (fun r g' q => by
  obtain ⟨rfl, q⟩ := q
  unfold nKee
  by_cases c : isB i 2 = true
  · rw [if_pos c] at q ⊢
    obtain ⟨i1, i2⟩ := isB_cl (by decide) c
    obtain ⟨j, hj⟩ : ∃ j, j = nC i := ⟨_, rfl⟩
    have i1 : j < 2 := by rw [hj]; exact i1
    rw [← hj] at q ⊢
    obtain ⟨q1, q2, q3, q4, q5, q6, q7, q8⟩ := q
    obtain ⟨k1, k2, k3, k4⟩ := MC_hk h.1
    have h6 := h.1.2.1.1
    refine ⟨rfl, MS_im h (fun q a => q1 q (by omega) (by omega)) (fun q hq => ?_), fun q hq => q1 q (by omega) (by omega)⟩
    by_cases e : q = j
    · rw [if_pos e]
      subst e
      exact ⟨q5, h.1.2.2.1, h.2.2.1.2, q3.trans h.1.2.2.2.2.2.2, q4.trans h.2.2.1.1, fun p hp => ⟨⟨k2 p hp, k1 p hp⟩, (q2 p (by omega)).1.trans (k4 p hp), (q2 p (by omega)).2.trans (k3 p hp)⟩⟩
    · rw [if_neg e]
      exact imM_go (h.2.2.2.2.2 q hq) (q7 q e) (fun k a b => q6 k (by omega)) h6
  · rw [if_neg c] at q ⊢
    exact YQ_rf h ⟨rfl, q⟩)
-- goBack
def nBac (σ : SG) (x : Int32) : SG := if isB x 2 = true then (match σ.2.2.2.2.2 (nC x) with
  | none => σ
  | some q => (lnU σ.1 q.2.1 q.1 q.2.2.1, σ.2.1, q.2.2.2, σ.2.2.2)) else σ
def aBac (σ : SG) (x : Int32) : Int32 := if isB x 2 = true then (match σ.2.2.2.2.2 (nC x) with
  | none => NTT
  | some _ => 1) else UNK
theorem x_goBack {ad : Nat → Nat} {g : St} {σ : SG} (h : CS g σ) {i : Int32} : Ci 2 mX9_goBack [.ref 0, .int i] ad g (XQ (aBac σ i) (nBac σ i) g) := Ci_more c_goBack (fun r g' q => by
  obtain ⟨rfl, q⟩ := q
  unfold nBac aBac
  by_cases c : isB i 2 = true
  · rw [if_pos c] at q
    rw [if_pos c, if_pos c, if_pos c]
    obtain ⟨i1, i2⟩ := isB_cl (by decide) c
    obtain ⟨j, hj⟩ : ∃ j, j = i.toNatClampNeg := ⟨_, rfl⟩
    have hjn : nC i = j := hj.symm
    rw [← hj] at q i1 ⊢
    rw [hjn]
    obtain ⟨o, ho⟩ : ∃ o, o = 85 + 3 * j := ⟨_, rfl⟩
    have hI := h.2.2.2.2.2 j i1
    rw [← ho] at q ⊢
    cases hq : σ.2.2.2.2.2 j with
    | none =>
      rw [hq] at hI
      have hz : g.1 o 4 = 0 := by rw [ho]; exact hI
      rw [if_pos hz] at q ⊢
      exact XQ_rf h ⟨rfl, q⟩
    | some z =>
      rw [hq] at hI
      obtain ⟨a1, a2, a3, a4, a5, a6⟩ := hI
      rw [← ho] at a1 a4 a5 a6
      have hz : ¬ g.1 o 4 = 0 := by rw [a1]; decide
      rw [if_neg hz] at q ⊢
      subst q
      have h6 := h.1.2.1.1
      have fr : ∀ q, q ≠ 0 → q ≠ 20 → q ≠ 21 → q ≠ 76 → (gGb g o).1 q = g.1 q := fun q a b d e => by unfold gGb; rw [upI_n e, upI_n a, upR_n b, upR_n d]
      obtain ⟨h1, h2, h3, h4, h5, h7⟩ := h
      refine ⟨rfl, ⟨LC_u h1 (fun p hp => (a6 p hp).1.2) (fun p hp => (a6 p hp).1.1) a2 (fun q a b => fr q (by omega) (by omega) (by omega) (by omega)) (fun p hp => ?_) (fun p hp => ?_) ?_, JC_of (X := lnU σ.1 z.2.1 z.1 z.2.2.1) h2 (fun q a b => fr q (by omega) (by omega) (by omega) (by omega)), ⟨?_, a3⟩, TXC_go h4 (fr 1 (by omega) (by omega) (by omega) (by omega)) (fr 2 (by omega) (by omega) (by omega) (by omega)), (congrFun (fr 3 (by omega) (by omega) (by omega) (by omega)) 3).trans h5, fun q hq => imC_j (h7 q hq) hq (fun q a b => fr q (by omega) (by omega) (by omega) (by omega))⟩, fun q hq => fr q (by omega) (by omega) (by omega) (by omega)⟩
      · unfold gGb; rw [upI_n (by decide), upI_n (by decide), upR_s, cp6_lt (by omega)]; exact (a6 p hp).2.2
      · unfold gGb; rw [upI_n (by decide), upI_n (by decide), upR_n (by decide), upR_s, cp6_lt (by omega)]; exact (a6 p hp).2.1
      · unfold gGb; rw [upI_n (by decide), upI_s, upd_s]; exact a4
      · unfold gGb; rw [upI_s, upd_s]; exact a5
  · rw [if_neg c] at q
    rw [if_neg c, if_neg c, if_neg c]
    exact XQ_rf h ⟨rfl, q⟩)
theorem y_goBack {ad : Nat → Nat} {g : St} {σ : SG} (h : MS g σ) {i : Int32} : Ci 2 mX10_goBack [.ref 91, .int i] ad g (YQ (aBac σ i) (nBac σ i) g) := Ci_more c_mGoBack (fun r g' q => by
  obtain ⟨rfl, q⟩ := q
  unfold nBac aBac
  by_cases c : isB i 2 = true
  · rw [if_pos c, if_pos c, if_pos c]
    obtain ⟨i1, i2⟩ := isB_cl (by decide) c
    obtain ⟨j, hj⟩ : ∃ j, j = nC i := ⟨_, rfl⟩
    have i1 : j < 2 := by rw [hj]; exact i1
    rw [← hj] at q ⊢
    have hI := h.2.2.2.2.2 j i1
    cases hq : σ.2.2.2.2.2 j with
    | none =>
      rw [hq] at hI
      have hz : g.1 126 j = 0 := hI
      rw [if_neg (fun z => z.2 hz)] at q
      rw [if_pos hz]
      exact YQ_rf h ⟨rfl, q⟩
    | some z =>
      rw [hq] at hI
      obtain ⟨a1, a2, a3, a4, a5, a6⟩ := hI
      have hz : ¬ g.1 126 j = 0 := by rw [a1]; decide
      rw [if_pos ⟨c, hz⟩] at q
      rw [if_neg hz]
      obtain ⟨q1, q2, q3, q4, q5, q6⟩ := q
      have h6 := h.1.2.1.1
      obtain ⟨h1, h2, h3, h4, h5, h7⟩ := h
      exact ⟨rfl, ⟨MC_u h1 (fun p hp => (a6 p hp).1.2) (fun p hp => (a6 p hp).1.1) a2 (fun q a b => q1 q (by omega) (by omega) (by omega)) (fun k hk => q5 k (by omega) (by omega)) (fun p hp => (q2 p (by omega)).2.trans (a6 p hp).2.2) (fun p hp => (q2 p (by omega)).1.trans (a6 p hp).2.1) (q3.trans a4), MJ_go (X := lnU σ.1 z.2.1 z.1 z.2.2.1) h2 (q5 50 (by omega) (by omega)) (q5 47 (by omega) (by omega)) (fun q a b => q1 q (by omega) (by omega) (by omega)), ⟨q4.trans a5, a3⟩, MTx_go h4 (q5 14 (by omega) (by omega)) (q1 100 (by omega) (by omega) (by omega)), (q5 15 (by omega) (by omega)).trans h5, fun q hq => imM_go (h7 q hq) (congrFun (q1 126 (by omega) (by omega) (by omega)) q) (fun k _ _ => congrFun (q1 125 (by omega) (by omega) (by omega)) k) h6⟩, fun q hq => q1 q (by omega) (by omega) (by omega)⟩
  · rw [if_neg (fun z => c z.1)] at q
    rw [if_neg c, if_neg c, if_neg c]
    exact YQ_rf h ⟨rfl, q⟩)
-- feed
theorem byt_is (v : Int64) (k : Nat) : ∃ m, m < 256 ∧ byt v k = nI m := by
  obtain ⟨a, ha⟩ : ∃ a : Int64, a = (v.toUInt64 >>> ((8 * nI k).toInt64.toUInt64 &&& Int64.toUInt64 63)).toInt64 := ⟨_, rfl⟩
  have hm : (a.toBitVec &&& 255#64).toNat < 256 := by
    rw [BitVec.toNat_and]
    exact Nat.lt_of_le_of_lt Nat.and_le_right (by decide)
  refine ⟨(a.toBitVec &&& 255#64).toNat, hm, ?_⟩
  show (_ &&& 255 : Int64).toInt32 = _
  rw [← ha]
  apply Int32.toBitVec_inj.mp
  rw [Int64.toBitVec_toInt32, BitVec.signExtend_eq_setWidth_of_le _ (by decide)]
  show (a.toBitVec &&& 255#64).setWidth 32 = BitVec.ofNat 32 _
  apply BitVec.eq_of_toNat_eq
  rw [BitVec.toNat_setWidth, BitVec.toNat_ofNat]
def byU (v : Int64) (k : Nat) : Nat := nC (byt v k)
theorem byU_ok (v : Int64) (k : Nat) : byU v k < 256 ∧ byt v k = nI (byU v k) := by
  obtain ⟨m, h1, h2⟩ := byt_is v k
  have e : byU v k = m := by
    unfold byU
    rw [h2]
    exact nI_clamp (by omega)
  rw [e]
  exact ⟨h1, h2⟩
def fdC (v : Int64) : Nat → Nat → CT → CT
  | 0, _, c => c
  | k + 1, L, c => fdC v k (L + 1) (upN c L (byU v k))
theorem fdC_s {v : Int64} {k L : Nat} {c : CT} : fdC v (k + 1) L c = fdC v k (L + 1) (upN c L (byU v k)) := rfl
theorem tOk_up {n b : Nat} {c : CT} (h : tOk n c) (hn : n < 400) (hb : b < 256) : tOk (n + 1) (upN c n b) := by
  obtain ⟨h1, h2, h3⟩ := h
  refine ⟨hn, fun i hi => ?_, fun i hi => ?_⟩
  · by_cases e : i = n
    · rw [e, up_s]; exact hb
    · rw [up_lt e]; exact h2 i (by omega)
  · rw [up_lt (by omega)]; exact h3 i (by omega)
theorem apF_ok {v : Int64} : ∀ k L (g : St) (c : CT), TXC g L c → L + k ≤ 400 → TXC (apF v k L g) (L + k) (fdC v k L c) ∧ ∀ j, j ≠ 1 → j ≠ 2 → (apF v k L g).1 j = g.1 j
  | 0, L, g, c, h, _ => ⟨h, fun _ _ _ => rfl⟩
  | k + 1, L, g, c, h, hb => by
    rw [apF_succ, fdC_s]
    obtain ⟨h1, h2, h3⟩ := h
    obtain ⟨b1, b2⟩ := byU_ok v k
    have hT : TXC (upI (upI g 2 L (byt v k)) 1 1 (nI (L + 1))) (L + 1) (upN c L (byU v k)) := by
      refine ⟨tOk_up h1 (by omega) b1, by rw [upI_s, upd_s], fun i hi => ?_⟩
      rw [upI_n (by decide), upI_s]
      by_cases e : i = L
      · rw [e, up_s, upd_s]; exact b2
      · rw [up_lt e, upd_e e]; exact h3 i (by omega)
    obtain ⟨a1, a2⟩ := apF_ok k (L + 1) _ _ hT (by omega)
    refine ⟨by rw [show L + (k + 1) = L + 1 + k by omega]; exact a1, fun j x y => (a2 j x y).trans ((upI_n x).trans (upI_n y))⟩
theorem apM_ok {v : Int64} : ∀ k L (g : St) (c : CT), MTx g L c → L + k ≤ 400 → MTx (apM v k L g) (L + k) (fdC v k L c) ∧ (∀ j, j ≠ 91 → j ≠ 100 → (apM v k L g).1 j = g.1 j) ∧ ∀ q, q ≠ 14 → (apM v k L g).1 91 q = g.1 91 q
  | 0, L, g, c, h, _ => ⟨h, fun _ _ _ => rfl, fun _ _ => rfl⟩
  | k + 1, L, g, c, h, hb => by
    rw [apM_succ, fdC_s]
    obtain ⟨h1, h2, h3⟩ := h
    obtain ⟨b1, b2⟩ := byU_ok v k
    have hT : MTx (upI (upI g 100 L (byt v k)) 91 14 (nI (L + 1))) (L + 1) (upN c L (byU v k)) := by
      refine ⟨tOk_up h1 (by omega) b1, by rw [upI_s, upd_s], fun i hi => ?_⟩
      rw [upI_n (by decide), upI_s]
      by_cases e : i = L
      · rw [e, up_s, upd_s]; exact b2
      · rw [up_lt e, upd_e e]; exact h3 i (by omega)
    obtain ⟨a1, a2, a3⟩ := apM_ok k (L + 1) _ _ hT (by omega)
    exact ⟨by rw [show L + (k + 1) = L + 1 + k by omega]; exact a1, fun j x y => (a2 j x y).trans ((upI_n x).trans (upI_n y)), fun q x => (a3 q x).trans ((upd_n2 x).trans (congrFun (upI_n (by decide)) q))⟩
def nFee (σ : SG) (n : Int32) (v : Int64) : SG := if n < 1 ∨ 8 < n then σ else if 400 < σ.2.2.2.1.1 + n.toNatClampNeg then σ else (σ.1, σ.2.1, σ.2.2.1, (σ.2.2.2.1.1 + n.toNatClampNeg, fdC v n.toNatClampNeg σ.2.2.2.1.1 σ.2.2.2.1.2), σ.2.2.2.2)
theorem x_feed {ad : Nat → Nat} {g : St} {σ : SG} (h : CS g σ) {n : Int32} {v : Int64} : Ci 3 mX9_feed [.ref 0, .int n, .long v] ad g (XQ (aFee σ.2.2.2.1.1 n) (nFee σ n v) g) := Ci_more (c_feed h.2.2.2.1.2.1 h.2.2.2.1.1.1) (fun r g' q => by
  obtain ⟨rfl, q⟩ := q
  unfold nFee
  unfold gFee at q
  by_cases c1 : n < 1 ∨ 8 < n
  · rw [if_pos c1] at q ⊢; exact XQ_rf h ⟨rfl, q⟩
  · rw [if_neg c1] at q ⊢
    by_cases c2 : 400 < σ.2.2.2.1.1 + n.toNatClampNeg
    · rw [if_pos c2] at q ⊢; exact XQ_rf h ⟨rfl, q⟩
    · rw [if_neg c2] at q ⊢
      subst q
      obtain ⟨h1, h2, h3, h4, h5, h6⟩ := h
      obtain ⟨a1, hj⟩ := apF_ok (v := v) n.toNatClampNeg _ g _ h4 (by omega)
      exact ⟨rfl, ⟨LC_go h1 (fun j q => hj j (by omega) (by omega)), JC_of h2 (fun j a b => hj j (by omega) (by omega)), ⟨(congrFun (hj 76 (by omega) (by omega)) 0).trans h3.1, h3.2⟩, a1, (congrFun (hj 3 (by omega) (by omega)) 3).trans h5, fun i hi => imC_j (h6 i hi) hi (fun j a b => hj j (by omega) (by omega))⟩, fun j a => hj j (by omega) (by omega)⟩)
theorem y_feed {ad : Nat → Nat} {g : St} {σ : SG} (h : MS g σ) {n : Int32} {v : Int64} : Ci 2 mX10_feed [.ref 91, .int n, .long v] ad g (YQ (aFee σ.2.2.2.1.1 n) (nFee σ n v) g) := Ci_more (c_mFeed h.2.2.2.1.2.1 h.2.2.2.1.1.1) (fun r g' q => by
  obtain ⟨rfl, q⟩ := q
  unfold nFee
  unfold gFeM at q
  by_cases c1 : n < 1 ∨ 8 < n
  · rw [if_pos c1] at q ⊢; exact YQ_rf h ⟨rfl, q⟩
  · rw [if_neg c1] at q ⊢
    by_cases c2 : 400 < σ.2.2.2.1.1 + n.toNatClampNeg
    · rw [if_pos c2] at q ⊢; exact YQ_rf h ⟨rfl, q⟩
    · rw [if_neg c2] at q ⊢
      subst q
      obtain ⟨h1, h2, h3, h4, h5, h6⟩ := h
      obtain ⟨a1, hj, hk⟩ := apM_ok (v := v) n.toNatClampNeg _ g _ h4 (by omega)
      exact ⟨rfl, ⟨MC_pk h1 (fun j a b => hj j (by omega) (by omega)) (fun k q => hk k (by omega)), MJ_go h2 (hk 50 (by omega)) (hk 47 (by omega)) (fun j a b => hj j (by omega) (by omega)), ⟨(hk 12 (by omega)).trans h3.1, h3.2⟩, a1, (hk 15 (by omega)).trans h5, fun i hi => imM_go (h6 i hi) (congrFun (hj 126 (by omega) (by omega)) i) (fun k _ _ => congrFun (hj 125 (by omega) (by omega)) k) h1.2.1.1⟩, fun j a => hj j (by omega) (by omega)⟩)
-- land
def c9 : CT := fun _ => 999
theorem tOk_0 : tOk 0 c9 := ⟨Nat.zero_le _, fun i hi => absurd hi (Nat.not_lt_zero i), fun _ _ => rfl⟩
def nLnd (σ : SG) : SG := (sLnd σ.2.2.2.1.2 σ.1, if (rdR σ.2.2.2.1.2).2.1.1 = 0 then J0 else σ.2.1, σ.2.2.1, (0, c9), fI (rdR σ.2.2.2.1.2).2.1, if (rdR σ.2.2.2.1.2).2.1.1 = 0 then fun _ => none else σ.2.2.2.2.2)
theorem x_land {ad : Nat → Nat} {g : St} {σ : SG} (h : CS g σ) : Ci 10 mX9_land [.ref 0] ad g (XQ (aLnd σ.2.2.2.1.2) (nLnd σ) g) := by
  have hT : TxC (upI g 3 1 1) σ.2.2.2.1.1 σ.2.2.2.1.2 := by
    obtain ⟨t1, t2, t3⟩ := h.2.2.2.1
    refine ⟨t1, (congrFun (upI_n (by decide)) _).trans t2, fun i hi => (congrFun (upI_n (by decide)) _).trans (t3 i hi), ?_⟩
    rw [upI_s, upd_s]; decide
  refine Ci_more (c_land h.1 hT (rdR_4 hT.1)) (fun r g' q => ?_)
  obtain ⟨q1, q2, q3, q4, q5, q6, q7, q8, q9, q10⟩ := q
  obtain ⟨h1, h2, h3, h4, h5, h6⟩ := h
  refine ⟨q1, ?_, fun j hj => q6 j (by omega) (by omega) (by omega) (by omega)⟩
  refine ⟨q2, ?_, ⟨(congrFun (q6 76 (by omega) (by omega) (by omega) (by omega)) 0).trans h3.1, h3.2⟩, ⟨tOk_0, q3, fun i hi => absurd hi (Nat.not_lt_zero i)⟩, q4, ?_⟩
  · show JC g' (sLnd σ.2.2.2.1.2 σ.1) (if (rdR σ.2.2.2.1.2).2.1.1 = 0 then J0 else σ.2.1)
    by_cases z : (rdR σ.2.2.2.1.2).2.1.1 = 0
    · rw [if_pos z] at q10 ⊢
      exact JC_0 q10.1 q10.2.1
    · rw [if_neg z] at q10 ⊢
      rw [show sLnd σ.2.2.2.1.2 σ.1 = σ.1 from if_neg z]
      exact JC_of h2 (fun j a b => by
        by_cases e : j = 77
        · rw [e]; exact q10.1
        · exact q6 j (by omega) e (by omega) (by omega))
  · show ∀ i, i < 2 → imC g' (sLnd σ.2.2.2.1.2 σ.1).2.2.1.1 i ((if (rdR σ.2.2.2.1.2).2.1.1 = 0 then fun _ => none else σ.2.2.2.2.2) i)
    intro i hi
    by_cases z : (rdR σ.2.2.2.1.2).2.1.1 = 0
    · rw [if_pos z] at q10 ⊢
      obtain rfl | rfl : i = 0 ∨ i = 1 := by omega
      · exact q10.2.2.1
      · exact q10.2.2.2
    · rw [if_neg z] at q10 ⊢
      rw [show sLnd σ.2.2.2.1.2 σ.1 = σ.1 from if_neg z]
      obtain rfl | rfl : i = 0 ∨ i = 1 := by omega
      · exact imC_go (h6 0 hi) (q9 2 (by decide)).1 (q9 3 (by decide)).1 q10.2.1 (q6 86 (by omega) (by omega) (by omega) (by omega)) (q6 87 (by omega) (by omega) (by omega) (by omega))
      · exact imC_go (h6 1 hi) (q9 2 (by decide)).2 (q9 3 (by decide)).2 q10.2.2 (q6 89 (by omega) (by omega) (by omega) (by omega)) (q6 90 (by omega) (by omega) (by omega) (by omega))
theorem y_land {ad : Nat → Nat} {g : St} {σ : SG} (h : MS g σ) : Ci 6 mX10_land [.ref 91] ad g (YQ (aLnd σ.2.2.2.1.2) (nLnd σ) g) := by
  refine Ci_more (c_mLand h.1 h.2.2.2.1) (fun r g' q => ?_)
  obtain ⟨q1, q2, q3, q4, q5, q6, q7⟩ := q
  obtain ⟨h1, h2, h3, h4, h5, h6⟩ := h
  refine ⟨q1, ?_, fun j hj => q5 j (by omega) (by omega)⟩
  refine ⟨q2, ?_, ⟨q6.trans h3.1, h3.2⟩, ⟨tOk_0, q3, fun i hi => absurd hi (Nat.not_lt_zero i)⟩, q4, ?_⟩
  · show MJ g' (sLnd σ.2.2.2.1.2 σ.1) (if (rdR σ.2.2.2.1.2).2.1.1 = 0 then J0 else σ.2.1)
    by_cases z : (rdR σ.2.2.2.1.2).2.1.1 = 0
    · rw [if_pos z] at q7 ⊢
      exact MJ_0 q7.2.1 q7.1
    · rw [if_neg z] at q7 ⊢
      rw [show sLnd σ.2.2.2.1.2 σ.1 = σ.1 from if_neg z]
      exact MJ_go h2 q7.2.1 q7.1 (fun j a b => q5 j (by omega) (by omega))
  · show ∀ i, i < 2 → imM g' (sLnd σ.2.2.2.1.2 σ.1).2.2.1.1 i ((if (rdR σ.2.2.2.1.2).2.1.1 = 0 then fun _ => none else σ.2.2.2.2.2) i)
    intro i hi
    by_cases z : (rdR σ.2.2.2.1.2).2.1.1 = 0
    · rw [if_pos z] at q7 ⊢
      obtain rfl | rfl : i = 0 ∨ i = 1 := by omega
      · exact q7.2.2.1
      · exact q7.2.2.2
    · rw [if_neg z] at q7 ⊢
      rw [show sLnd σ.2.2.2.1.2 σ.1 = σ.1 from if_neg z]
      exact imM_go (h6 i hi) (congrFun q7.2.2 i) (fun k _ _ => congrFun (q5 125 (by omega) (by omega)) k) h1.2.1.1
