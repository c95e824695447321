/-! CLASS AND MODEL TOGETHER: what both hold, and the questions that change nothing -/
abbrev IG : Type := Option ((Nat → Nat) × (Nat → Nat) × Nat × Nat)
abbrev SG : Type := LN × JN × Nat × (Nat × CT) × Int32 × (Nat → IG)
def imC (g : St) (np i : Nat) (q : IG) : Prop := match q with
  | none => g.1 (85 + 3 * i) 4 = 0
  | some q => g.1 (85 + 3 * i) 4 = 1 ∧ q.2.2.1 ≤ 3 ∧ q.2.2.2 < 2147483648 ∧ g.1 (85 + 3 * i) 2 = nI q.2.2.1 ∧ g.1 (85 + 3 * i) 3 = nI q.2.2.2 ∧ ∀ p, p < np → (q.1 p < 2 ^ 14 ∧ q.2.1 p ≤ 3) ∧ g.1 (85 + 3 * i + 1) p = nI (q.1 p) ∧ g.1 (85 + 3 * i + 2) p = nI (q.2.1 p)
def imM (g : St) (np i : Nat) (q : IG) : Prop := match q with
  | none => g.1 126 i = 0
  | some q => g.1 126 i = 1 ∧ q.2.2.1 ≤ 3 ∧ q.2.2.2 < 2147483648 ∧ g.1 125 (20 * i + 12) = nI q.2.2.1 ∧ g.1 125 (20 * i + 13) = nI q.2.2.2 ∧ ∀ p, p < np → (q.1 p < 2 ^ 14 ∧ q.2.1 p ≤ 3) ∧ g.1 125 (20 * i + p) = nI (q.1 p) ∧ g.1 125 (20 * i + 6 + p) = nI (q.2.1 p)
def TXC (g : St) (n : Nat) (c : CT) : Prop := tOk n c ∧ g.1 1 1 = nI n ∧ ∀ i, i < n → g.1 2 i = nI (c i)
def CS (g : St) (σ : SG) : Prop := LC g σ.1 ∧ JC g σ.1 σ.2.1 ∧ (g.1 76 0 = nI σ.2.2.1 ∧ σ.2.2.1 < 2147483648) ∧ TXC g σ.2.2.2.1.1 σ.2.2.2.1.2 ∧ g.1 3 3 = σ.2.2.2.2.1 ∧ ∀ i, i < 2 → imC g σ.1.2.2.1.1 i (σ.2.2.2.2.2 i)
def MS (g : St) (σ : SG) : Prop := MC g σ.1 ∧ MJ g σ.1 σ.2.1 ∧ (g.1 91 12 = nI σ.2.2.1 ∧ σ.2.2.1 < 2147483648) ∧ MTx g σ.2.2.2.1.1 σ.2.2.2.1.2 ∧ g.1 91 15 = σ.2.2.2.2.1 ∧ ∀ i, i < 2 → imM g σ.1.2.2.1.1 i (σ.2.2.2.2.2 i)
theorem imC_go {g g' : St} {np i : Nat} {q : IG} (h : imC g np i q) (h2 : g'.1 (85 + 3 * i) 2 = g.1 (85 + 3 * i) 2) (h3 : g'.1 (85 + 3 * i) 3 = g.1 (85 + 3 * i) 3) (h4 : g'.1 (85 + 3 * i) 4 = g.1 (85 + 3 * i) 4) (h5 : g'.1 (85 + 3 * i + 1) = g.1 (85 + 3 * i + 1)) (h6 : g'.1 (85 + 3 * i + 2) = g.1 (85 + 3 * i + 2)) : imC g' np i q := by
  cases q with
  | none => exact h4.trans h
  | some q =>
    obtain ⟨a1, a2, a3, a4, a5, a6⟩ := h
    refine ⟨h4.trans a1, a2, a3, h2.trans a4, h3.trans a5, ?_⟩
    rw [h5, h6]
    exact a6
theorem imC_j {g g' : St} {np i : Nat} {q : IG} (h : imC g np i q) (hi : i < 2) (hj : ∀ j, 85 ≤ j → j ≤ 90 → g'.1 j = g.1 j) : imC g' np i q :=
  imC_go h (by rw [hj _ (by omega) (by omega)]) (by rw [hj _ (by omega) (by omega)]) (by rw [hj _ (by omega) (by omega)]) (hj _ (by omega) (by omega)) (hj _ (by omega) (by omega))
theorem imM_go {g g' : St} {np i : Nat} {q : IG} (h : imM g np i q) (h6 : g'.1 126 i = g.1 126 i) (h5 : ∀ k, 20 * i ≤ k → k < 20 * i + 14 → g'.1 125 k = g.1 125 k) (hn : np ≤ 6) : imM g' np i q := by
  cases q with
  | none => exact h6.trans h
  | some q =>
    obtain ⟨a1, a2, a3, a4, a5, a6⟩ := h
    refine ⟨h6.trans a1, a2, a3, (h5 _ (by omega) (by omega)).trans a4, (h5 _ (by omega) (by omega)).trans a5, fun p hp => ?_⟩
    obtain ⟨b1, b2, b3⟩ := a6 p hp
    exact ⟨b1, (h5 _ (by omega) (by omega)).trans b2, (h5 _ (by omega) (by omega)).trans b3⟩
theorem MJ_go {g g' : St} {X : LN} {J : JN} (h : MJ g X J) (h50 : g'.1 91 50 = g.1 91 50) (h47 : g'.1 91 47 = g.1 91 47) (hj : ∀ j, 119 ≤ j → j ≤ 124 → g'.1 j = g.1 j) : MJ g' X J := by
  unfold MJ at *
  rw [h50, h47, hj 121 (by omega) (by omega), hj 122 (by omega) (by omega), hj 123 (by omega) (by omega), hj 124 (by omega) (by omega), hj 119 (by omega) (by omega), hj 120 (by omega) (by omega)]
  exact h
theorem TXC_go {g g' : St} {n : Nat} {c : CT} (h : TXC g n c) (h1 : g'.1 1 = g.1 1) (h2 : g'.1 2 = g.1 2) : TXC g' n c := by
  unfold TXC at *
  rw [h1, h2]; exact h
theorem MTx_go {g g' : St} {n : Nat} {c : CT} (h : MTx g n c) (h1 : g'.1 91 14 = g.1 91 14) (h2 : g'.1 100 = g.1 100) : MTx g' n c := by
  unfold MTx at *
  rw [h1, h2]; exact h
theorem CS_of {g g' : St} {σ : SG} (h : CS g σ) (hj : ∀ j, (j ≤ 21 ∨ 76 ≤ j) → j ≤ 90 → g'.1 j = g.1 j) : CS g' σ := by
  obtain ⟨h1, h2, h3, h4, h5, h6⟩ := h
  exact ⟨LC_go h1 (fun j q => hj j (by omega) (by omega)), JC_of h2 (fun j a b => hj j (by omega) (by omega)), ⟨(congrFun (hj 76 (by omega) (by omega)) 0).trans h3.1, h3.2⟩, TXC_go h4 (hj 1 (by omega) (by omega)) (hj 2 (by omega) (by omega)), (congrFun (hj 3 (by omega) (by omega)) 3).trans h5, fun i hi => imC_j (h6 i hi) hi (fun j a b => hj j (by omega) b)⟩
theorem MS_of {g g' : St} {σ : SG} (h : MS g σ) (hj : ∀ j, ((92 ≤ j ∧ j ≤ 100) ∨ (119 ≤ j ∧ j ≤ 126)) → g'.1 j = g.1 j) (hk : ∀ k, (k = 0 ∨ k = 1 ∨ k = 5 ∨ k = 11 ∨ k = 12 ∨ k = 14 ∨ k = 15 ∨ k = 47 ∨ k = 50) → g'.1 91 k = g.1 91 k) : MS g' σ := by
  obtain ⟨h1, h2, h3, h4, h5, h6⟩ := h
  exact ⟨MC_pk h1 (fun j a b => hj j (by omega)) (fun k q => hk k (by omega)), MJ_go h2 (hk 50 (by omega)) (hk 47 (by omega)) (fun j a b => hj j (by omega)), ⟨(hk 12 (by omega)).trans h3.1, h3.2⟩, MTx_go h4 (hk 14 (by omega)) (hj 100 (by omega)), (hk 15 (by omega)).trans h5, fun i hi => imM_go (h6 i hi) (congrFun (hj 126 (by omega)) i) (fun k _ _ => congrFun (hj 125 (by omega)) k) h1.2.1.1⟩
theorem Ci_more {d : Nat} {mt : MT} {as : List Value} {ad : Nat → Nat} {g : St} {Q Q2 : Int32 → St → Prop} (h : Ci d mt as ad g Q) (hQ : ∀ v g', Q v g' → Q2 v g') : Ci d mt as ad g Q2 :=
  Cm.more h rfl (fun r T' ad' g' hq => by obtain ⟨h1, h2, v, h3, h4⟩ := hq; exact ⟨h1, h2, v, h3, hQ v g' h4⟩)
def XQ (A : Int32) (σ : SG) (g : St) (v : Int32) (g' : St) : Prop := v = A ∧ CS g' σ ∧ ∀ j, 91 ≤ j → g'.1 j = g.1 j
def YQ (A : Int32) (σ : SG) (g : St) (v : Int32) (g' : St) : Prop := v = A ∧ MS g' σ ∧ ∀ j, j ≤ 90 → g'.1 j = g.1 j
theorem XQ_fr {A v : Int32} {σ : SG} {g g' : St} (h : CS g σ) (q : v = A ∧ Fr g g') : XQ A σ g v g' := ⟨q.1, CS_of h (fun j hj _ => q.2.1 j hj), fun j hj => q.2.1 j (by omega)⟩
theorem XQ_rf {A v : Int32} {σ : SG} {g g' : St} (h : CS g σ) (q : v = A ∧ g' = g) : XQ A σ g v g' := by obtain ⟨h1, rfl⟩ := q; exact ⟨h1, h, fun _ _ => rfl⟩
theorem YQ_fm {A v : Int32} {σ : SG} {g g' : St} (h : MS g σ) (q : v = A ∧ FM g g') : YQ A σ g v g' := ⟨q.1, MS_of h (fun j hj => q.2.1 j (by omega)) (fun k hk => q.2.2.1 k (by rcases hk with rfl | rfl | rfl | rfl | rfl | rfl | rfl | rfl | rfl <;> rfl)), fun j hj => q.2.1 j (by omega)⟩
theorem YQ_fl {A v : Int32} {σ : SG} {g g' : St} (h : MS g σ) (q : v = A ∧ FL g g') : YQ A σ g v g' := ⟨q.1, MS_of h (fun j hj => q.2.1 j (by omega)) (fun k hk => q.2.2.1 k (by rcases hk with rfl | rfl | rfl | rfl | rfl | rfl | rfl | rfl | rfl <;> rfl) (by omega) (by omega)), fun j hj => q.2.1 j (by omega)⟩
theorem YQ_rf {A v : Int32} {σ : SG} {g g' : St} (h : MS g σ) (q : v = A ∧ g' = g) : YQ A σ g v g' := by obtain ⟨h1, rfl⟩ := q; exact ⟨h1, h, fun _ _ => rfl⟩
theorem CS_hi {g g' : St} {σ : SG} (h : CS g σ) (hj : ∀ j, j ≤ 90 → g'.1 j = g.1 j) : CS g' σ := CS_of h (fun j _ q => hj j q)
theorem MS_lo {g g' : St} {σ : SG} (h : MS g σ) (hj : ∀ j, 91 ≤ j → g'.1 j = g.1 j) : MS g' σ := MS_of h (fun j q => hj j (by omega)) (fun k _ => congrFun (hj 91 (by omega)) k)

theorem x_way {ad : Nat → Nat} {g : St} {σ : SG} (h : CS g σ) {p x : Int32} : Ci 2 mX9_way [.ref 0, .int p, .int x] ad g (XQ (aWay σ.1 p x) σ g) := Ci_more (c_way h.1 ) (fun _ _ q => XQ_rf h q)
theorem y_way {ad : Nat → Nat} {g : St} {σ : SG} (h : MS g σ) {p x : Int32} : Ci 3 mX10_way [.ref 91, .int p, .int x] ad g (YQ (aWay σ.1 p x) σ g) := Ci_more (c_mWay h.1 ) (fun _ _ q => YQ_rf h q)
theorem x_person {ad : Nat → Nat} {g : St} {σ : SG} (h : CS g σ) {p x : Int32} : Ci 2 mX9_person [.ref 0, .int p, .int x] ad g (XQ (aPers σ.1 p x) σ g) := Ci_more (c_person h.1 ) (fun _ _ q => XQ_rf h q)
theorem y_person {ad : Nat → Nat} {g : St} {σ : SG} (h : MS g σ) {p x : Int32} : Ci 3 mX10_person [.ref 91, .int p, .int x] ad g (YQ (aPers σ.1 p x) σ g) := Ci_more (c_mPerson h.1 ) (fun _ _ q => YQ_rf h q)
theorem x_far {ad : Nat → Nat} {g : St} {σ : SG} (h : CS g σ) {a b : Int32} : Ci 6 mX9_far [.ref 0, .int a, .int b] ad g (XQ (aFar σ.1 a b) σ g) := Ci_more (c_far h.1 ) (fun _ _ q => XQ_fr h q)
theorem y_far {ad : Nat → Nat} {g : St} {σ : SG} (h : MS g σ) {a b : Int32} : Ci 3 mX10_far [.ref 91, .int a, .int b] ad g (YQ (aFar σ.1 a b) σ g) := Ci_more (c_mFar h.1 ) (fun _ _ q => YQ_fm h q)
theorem x_route {ad : Nat → Nat} {g : St} {σ : SG} (h : CS g σ) {p a t i : Int32} : Ci 6 mX9_route [.ref 0, .int p, .int a, .int t, .int i] ad g (XQ (aRou σ.1 p a t i) σ g) := Ci_more (c_route h.1 ) (fun _ _ q => XQ_fr h q)
theorem y_route {ad : Nat → Nat} {g : St} {σ : SG} (h : MS g σ) {p a t i : Int32} : Ci 4 mX10_route [.ref 91, .int p, .int a, .int t, .int i] ad g (YQ (aRou σ.1 p a t i) σ g) := Ci_more (c_mRoute h.1 ) (fun _ _ q => YQ_fm h q)
theorem x_says {ad : Nat → Nat} {g : St} {σ : SG} (h : CS g σ) {p a t x : Int32} : Ci 6 mX9_says [.ref 0, .int p, .int a, .int t, .int x] ad g (XQ (aSay σ.1 p a t x) σ g) := Ci_more (c_says h.1 ) (fun _ _ q => XQ_fr h q)
theorem y_says {ad : Nat → Nat} {g : St} {σ : SG} (h : MS g σ) {p a t x : Int32} : Ci 5 mX10_says [.ref 91, .int p, .int a, .int t, .int x] ad g (YQ (aSay σ.1 p a t x) σ g) := Ci_more (c_mSays h.1 ) (fun _ _ q => YQ_fm h q)
theorem x_own {ad : Nat → Nat} {g : St} {σ : SG} (h : CS g σ) {p a t x : Int32} : Ci 6 mX9_own [.ref 0, .int p, .int a, .int t, .int x] ad g (XQ (aOwn σ.1 p a t x) σ g) := Ci_more (c_own h.1 ) (fun _ _ q => XQ_fr h q)
theorem y_own {ad : Nat → Nat} {g : St} {σ : SG} (h : MS g σ) {p a t x : Int32} : Ci 5 mX10_own [.ref 91, .int p, .int a, .int t, .int x] ad g (YQ (aOwn σ.1 p a t x) σ g) := Ci_more (c_mOwn h.1 ) (fun _ _ q => YQ_fm h q)
theorem x_soonest {ad : Nat → Nat} {g : St} {σ : SG} (h : CS g σ) {a t : Int32} : Ci 8 mX9_soonest [.ref 0, .int a, .int t] ad g (XQ (aSoon σ.1 a t) σ g) := Ci_more (c_soonest h.1 ) (fun _ _ q => XQ_fr h q)
theorem y_soonest {ad : Nat → Nat} {g : St} {σ : SG} (h : MS g σ) {a t : Int32} : Ci 7 mX10_soonest [.ref 91, .int a, .int t] ad g (YQ (aSoon σ.1 a t) σ g) := Ci_more (c_mSoonest h.1 ) (fun _ _ q => YQ_fm h q)
theorem x_guide {ad : Nat → Nat} {g : St} {σ : SG} (h : CS g σ) {a t i : Int32} : Ci 8 mX9_guide [.ref 0, .int a, .int t, .int i] ad g (XQ (aGui σ.1 a t i) σ g) := Ci_more (c_guide h.1 ) (fun _ _ q => XQ_fr h q)
theorem y_guide {ad : Nat → Nat} {g : St} {σ : SG} (h : MS g σ) {a t i : Int32} : Ci 7 mX10_guide [.ref 91, .int a, .int t, .int i] ad g (YQ (aGui σ.1 a t i) σ g) := Ci_more (c_mGuide h.1 ) (fun _ _ q => YQ_fm h q)
theorem x_lot {ad : Nat → Nat} {g : St} {σ : SG} (h : CS g σ) {a t x : Int32} : Ci 13 mX9_lot [.ref 0, .int a, .int t, .int x] ad g (XQ (aLot σ.1 a t x) σ g) := Ci_more (c_lot h.1 ) (fun _ _ q => XQ_fr h q)
theorem y_lot {ad : Nat → Nat} {g : St} {σ : SG} (h : MS g σ) {a t x : Int32} : Ci 6 mX10_lot [.ref 91, .int a, .int t, .int x] ad g (YQ (aLot σ.1 a t x) σ g) := Ci_more (c_mLot h.1 ) (fun _ _ q => YQ_fm h q)
theorem x_say {ad : Nat → Nat} {g : St} {σ : SG} (h : CS g σ) {a w x : Int32} : Ci 7 mX9_say [.ref 0, .int a, .int w, .int x] ad g (XQ (aSy σ.1 a w x) σ g) := Ci_more (c_say h.1 ) (fun _ _ q => XQ_fr h q)
theorem y_say {ad : Nat → Nat} {g : St} {σ : SG} (h : MS g σ) {a w x : Int32} : Ci 5 mX10_say [.ref 91, .int a, .int w, .int x] ad g (YQ (aSy σ.1 a w x) σ g) := Ci_more (c_mSay h.1 ) (fun _ _ q => YQ_fm h q)
theorem x_learnt {ad : Nat → Nat} {g : St} {σ : SG} (h : CS g σ) {a t d x : Int32} : Ci 8 mX9_learnt [.ref 0, .int a, .int t, .int d, .int x] ad g (XQ (aLnt σ.1 a t d x) σ g) := Ci_more (c_learnt h.1 ) (fun _ _ q => XQ_fr h q)
theorem y_learnt {ad : Nat → Nat} {g : St} {σ : SG} (h : MS g σ) {a t d x : Int32} : Ci 9 mX10_learnt [.ref 91, .int a, .int t, .int d, .int x] ad g (YQ (aLnt σ.1 a t d x) σ g) := Ci_more (c_mLearnt h.1 ) (fun _ _ q => YQ_fl h q)
theorem x_missing {ad : Nat → Nat} {g : St} {σ : SG} (h : CS g σ) {p m : Int32} : Ci 7 mX9_missing [.ref 0, .int p, .int m] ad g (XQ (aMis σ.1 p m) σ g) := Ci_more (c_missing h.1 ) (fun _ _ q => XQ_fr h q)
theorem y_missing {ad : Nat → Nat} {g : St} {σ : SG} (h : MS g σ) {p m : Int32} : Ci 5 mX10_missing [.ref 91, .int p, .int m] ad g (YQ (aMis σ.1 p m) σ g) := Ci_more (c_mMissing h.1 ) (fun _ _ q => YQ_fm h q)
theorem x_fits {ad : Nat → Nat} {g : St} {σ : SG} (h : CS g σ)  : Ci 7 mX9_fits [.ref 0] ad g (XQ (aFit σ.1 σ.2.1) σ g) := Ci_more (c_fits h.1 h.2.1) (fun _ _ q => XQ_fr h q)
theorem y_fits {ad : Nat → Nat} {g : St} {σ : SG} (h : MS g σ)  : Ci 5 mX10_fits [.ref 91] ad g (YQ (aFit σ.1 σ.2.1) σ g) := Ci_more (c_mFits h.1 h.2.1) (fun _ _ q => YQ_fm h q)
theorem x_judge {ad : Nat → Nat} {g : St} {σ : SG} (h : CS g σ)  : Ci 6 mX9_judge [.ref 0] ad g (XQ (aJud σ.1 σ.2.1) σ g) := Ci_more (c_judge h.1 h.2.1) (fun _ _ q => XQ_fr h q)
theorem y_judge {ad : Nat → Nat} {g : St} {σ : SG} (h : MS g σ)  : Ci 5 mX10_judge [.ref 91] ad g (YQ (aJud σ.1 σ.2.1) σ g) := Ci_more (c_mJudge h.1 h.2.1) (fun _ _ q => YQ_fm h q)
theorem x_told {ad : Nat → Nat} {g : St} {σ : SG} (h : CS g σ) {x : Int32} : Ci 1 mX9_told [.ref 0, .int x] ad g (XQ (aTol σ.1 σ.2.2.2.1.1 σ.2.1.1.1 σ.2.1.2.1 x) σ g) := Ci_more (c_told h.1 h.2.2.2.1.2.1 h.2.1.1.1 h.2.1.2.1) (fun _ _ q => XQ_rf h q)
theorem y_told {ad : Nat → Nat} {g : St} {σ : SG} (h : MS g σ) {x : Int32} : Ci 1 mX10_told [.ref 91, .int x] ad g (YQ (aTol σ.1 σ.2.2.2.1.1 σ.2.1.1.1 σ.2.1.2.1 x) σ g) := Ci_more (c_mTold h.1 h.2.2.2.1.2.1 h.2.1.1.1 h.2.1.2.1) (fun _ _ q => YQ_rf h q)
theorem x_fault {ad : Nat → Nat} {g : St} {σ : SG} (h : CS g σ) : Ci 1 mX9_fault [.ref 0] ad g (XQ σ.2.2.2.2.1 σ g) := Ci_more c_fault (fun _ _ q => XQ_rf h ⟨q.1.trans h.2.2.2.2.1, q.2⟩)
theorem y_fault {ad : Nat → Nat} {g : St} {σ : SG} (h : MS g σ) : Ci 1 mX10_fault [.ref 91] ad g (YQ σ.2.2.2.2.1 σ g) := Ci_more c_mFault (fun _ _ q => YQ_rf h ⟨q.1.trans h.2.2.2.2.1, q.2⟩)
theorem x_led {ad : Nat → Nat} {g : St} {σ : SG} (h : CS g σ) {a t x y : Int32} {own : Bool} (hy : y = B1 own) : Ci 8 mX9_led [.ref 0, .int a, .int t, .int y, .int x] ad g (XQ (aLed σ.1 a t own x) σ g) := by subst hy; exact Ci_more (c_led h.1 h.2.2.1.1 h.2.2.1.2) (fun _ _ q => XQ_fr h q)
theorem y_led {ad : Nat → Nat} {g : St} {σ : SG} (h : MS g σ) {a t x y : Int32} {own : Bool} (hy : y = B1 own) : Ci 6 mX10_led [.ref 91, .int a, .int t, .int y, .int x] ad g (YQ (aLed σ.1 a t own x) σ g) := Ci_more (c_mLed h.1 hy) (fun _ _ q => YQ_fm h q)

