/-! THE MODEL: a person taken -/
def IQ (c : CT) (g : St) (r k s : Nat) (g' : St) : Prop := (∀ j, j ≠ 91 → j ≠ r → g'.1 j = g.1 j) ∧ g'.1 r = upd (g.1 r) k (nI (tV c s)) ∧ (∀ q, (q < 16 ∨ 20 < q) → g'.1 91 q = g.1 91 q) ∧ g'.2 = g.2 ∧ g'.1 91 16 = nI (s + tL c s)
theorem IQ.pk {c : CT} {g g' : St} {r k s : Nat} (h : IQ c g r k s g') (hr : 101 ≤ r ∧ r ≤ 108) : PK g g' := ⟨fun j a b => h.1 j a (by omega), fun q a b => h.2.2.1 q (by omega), fun j q _ => by rw [h.2.2.2.1]⟩
theorem IQ_of {c : CT} {g g' : St} {r k s : Nat} {lo hi v : Int32} (h : NQ c g s lo hi v g') (hr : 101 ≤ r ∧ r ≤ 108) (hz : (seF c (0, 0) s lo hi).1 = 0) (hv : vI c s (tL c s - 1) = nI (tV c s)) : IQ c g r k s (upI g' r k (g'.1 91 19)) := by
  obtain ⟨h1, h2, h3, h4, h5, h6⟩ := h
  obtain ⟨a1, a2, a3, a4⟩ := h6 hz
  refine ⟨fun j a b => (upI_n b).trans (h1 j a), by rw [upI_s, h1 r (by omega), a3, hv], fun q hq => (congrFun (upI_n (by omega)) q).trans ?_, h3, (congrFun (upI_n (by omega)) 16).trans a2⟩
  by_cases e : q = 15
  · rw [e]; exact a1
  · exact h2 q e (by omega) (by omega) (by omega)
def pF (c : CT) (np s : Nat) : FP := habG c (seF c (seF c (seF c (0, 0) (nx c s) (nI 0) (nI (np - 1))) (nx c (nx c s)) (nI 0) (nI (np - 1))) (nx c (nx c (nx c s))) (nI 0) (nI 99)) (nx c (nx c (nx c (nx c s))))
def pR (c : CT) (np wn s : Nat) : KR := if isW c (nx c (nx c (nx c (nx c (nx c s))))) 7 = true then knS c wn 400 0 (pF c np s) (nx c (nx c (nx c (nx c (nx c s))))) else (0, pF c np s, nx c (nx c (nx c (nx c (nx c s)))))
theorem clQ_p {c : CT} {A : DR} {s : Nat} (h : ¬ 6 ≤ A.2.2.1.1) : clQ c A (0, 0) s = ((A.1, A.2.1, (A.2.2.1.1 + 1, upN A.2.2.1.2.1 A.2.2.1.1 (tV c (nx c s)), upN A.2.2.1.2.2.1 A.2.2.1.1 (tV c (nx c (nx c s))), upN A.2.2.1.2.2.2 A.2.2.1.1 (tV c (nx c (nx c (nx c s))))), upN A.2.2.2.1 A.2.2.1.1 (habF c (nx c (nx c (nx c (nx c s))))), upN A.2.2.2.2 A.2.2.1.1 (pR c A.1 A.2.1.1 s).1), sgF c (pR c A.1 A.2.1.1 s).2.1 (pR c A.1 A.2.1.1 s).2.2 59, nx c (pR c A.1 A.2.1.1 s).2.2) := by
  unfold clQ
  rw [if_neg h]
  rfl
theorem habG_st {c : CT} {F : FP} {s : Nat} (h : ¬ F.1 = 0) : habG c F s = F := by
  unfold habG
  split
  · rfl
  · unfold bl
    exact if_neg h
theorem pR_bad {c : CT} {np wn s : Nat} (h : ¬ (pF c np s).1 = 0) : (pR c np wn s).2.1 = pF c np s := by
  unfold pR
  split
  · rw [knS_n h]
  · rfl
def TpQ (c : CT) (g : St) (k np wn s : Nat) (v : Int32) (g' : St) : Prop := PK g g' ∧ v = nI (pR c np wn s).2.1.1 ∧ ((pR c np wn s).2.1.1 ≠ 0 → g'.1 91 15 = nI (pR c np wn s).2.1.2) ∧ ((pR c np wn s).2.1.1 = 0 → g'.1 91 15 = g.1 91 15 ∧ (∃ p, p ≤ 400 ∧ g'.1 91 16 = nI p ∧ sk c p = (pR c np wn s).2.2) ∧ g'.1 104 = upd (g.1 104) k (nI (tV c (nx c s))) ∧ g'.1 105 = upd (g.1 105) k (nI (tV c (nx c (nx c s)))) ∧ g'.1 106 = upd (g.1 106) k (nI (tV c (nx c (nx c (nx c s))))) ∧ g'.1 107 = upd (g.1 107) k (nI (habF c (nx c (nx c (nx c (nx c s)))))) ∧ g'.1 108 = upd (g.1 108) k (nI (pR c np wn s).1) ∧ g'.1 91 26 = nI (k + 1) ∧ g'.1 91 21 = g.1 91 21 ∧ g'.1 91 22 = g.1 91 22 ∧ ∀ j, 101 ≤ j → j ≤ 103 → g'.1 j = g.1 j)
theorem upd_upd {f : Nat → Int32} {k : Nat} {x y : Int32} : upd (upd f k x) k y = upd f k y := by
  funext q
  by_cases e : q = k
  · rw [e, upd_s, upd_s]
  · rw [upd_e e, upd_e e, upd_e e]
/-- a fault on the way -/
theorem TpQ_bad {c : CT} {g g' : St} {k np wn s : Nat} {v x : Int32} {F : FP} (hp : PK g g') (hF : pF c np s = F) (hz : ¬ F.1 = 0) (hv : v = nI F.1) (h15 : g'.1 91 15 = nI F.2) : TpQ c g k np wn s v (upI g' 91 26 x) := by
  have e := pR_bad (wn := wn) (show ¬ (pF c np s).1 = 0 by rw [hF]; exact hz)
  unfold TpQ
  rw [e, hF]
  exact ⟨hp.fl (by omega), hv, fun _ => (upd_n2 (show (15 : Nat) ≠ 26 by decide)).trans h15, fun z => absurd z hz⟩
/-- all well before the knows -/
def PA (c : CT) (g : St) (k s1 s2 s3 s4 p : Nat) (g' : St) : Prop := PK g g' ∧ g'.1 91 15 = g.1 91 15 ∧ g'.1 91 16 = nI p ∧ g'.1 104 = upd (g.1 104) k (nI (tV c s1)) ∧ g'.1 105 = upd (g.1 105) k (nI (tV c s2)) ∧ g'.1 106 = upd (g.1 106) k (nI (tV c s3)) ∧ g'.1 107 = upd (g.1 107) k (nI (habF c s4)) ∧ g'.1 108 = upd (g.1 108) k (nI 0) ∧ g'.1 91 26 = g.1 91 26 ∧ g'.1 91 21 = g.1 91 21 ∧ g'.1 91 22 = g.1 91 22 ∧ ∀ j, 101 ≤ j → j ≤ 103 → g'.1 j = g.1 j
theorem PA_of {c : CT} {g gA gB gC gD gE : St} {k s1 s2 s3 s4 s5 i : Nat} {x v : Int32} (hx : x = nI 0) (h1 : IQ c (upI g 108 k x) 104 k s1 gA) (h2 : IQ c gA 105 k s2 gB) (h3 : IQ c gB 106 k s3 gC) (h4 : HbQ c gC s4 k v gD) (hz : (habG c (0, 0) s4).1 = 0) (h5 : WQ c gD s5 i gE) : PA c g k s1 s2 s3 s4 s5 gE := by
  subst hx
  obtain ⟨b1, b2, b3, b4⟩ := h4
  obtain ⟨d1, d2, d3, d4, d5⟩ := b4 hz
  have ar : ∀ j, j ≠ 91 → j ≠ 107 → gE.1 j = gC.1 j := fun j a b => (h5.1 j a).trans (d4 j a b)
  have fl : ∀ q, q = 15 ∨ q = 21 ∨ q = 22 ∨ q = 26 → gE.1 91 q = g.1 91 q := fun q hq => by
    refine (h5.2.1 q (by omega) (by omega)).trans (Eq.trans ?_ ((h3.2.2.1 q (by omega)).trans ((h2.2.2.1 q (by omega)).trans ((h1.2.2.1 q (by omega)).trans (congrFun (upI_n (by decide)) q)))))
    rcases hq with e | e
    · rw [e]; exact d1
    · exact d5 q e
  refine ⟨((PK.rf.up (by omega)).tr ((h1.pk (by omega)).tr ((h2.pk (by omega)).tr ((h3.pk (by omega)).tr (b1.tr h5.pk))))), fl 15 (by omega), h5.2.2.2.1, ?_, ?_, ?_, ?_, ?_, fl 26 (by omega), fl 21 (by omega), fl 22 (by omega), fun j a b => ?_⟩
  · rw [ar 104 (by decide) (by decide), h3.1 104 (by decide) (by decide), h2.1 104 (by decide) (by decide), h1.2.1, upI_n (by decide)]
  · rw [ar 105 (by decide) (by decide), h3.1 105 (by decide) (by decide), h2.2.1, h1.1 105 (by decide) (by decide), upI_n (by decide)]
  · rw [ar 106 (by decide) (by decide), h3.2.1, h2.1 106 (by decide) (by decide), h1.1 106 (by decide) (by decide), upI_n (by decide)]
  · rw [h5.1 107 (by decide), d3, h3.1 107 (by decide) (by decide), h2.1 107 (by decide) (by decide), h1.1 107 (by decide) (by decide), upI_n (by decide)]
  · rw [ar 108 (by decide) (by decide), h3.1 108 (by decide) (by decide), h2.1 108 (by decide) (by decide), h1.1 108 (by decide) (by decide), upI_s]
  · rw [ar j (by omega) (by omega), h3.1 j (by omega) (by omega), h2.1 j (by omega) (by omega), h1.1 j (by omega) (by omega), upI_n (by omega)]
theorem TpQ_ok0 {c : CT} {g g' : St} {k np wn s n : Nat} {x : Int32} (hT : tOk n c) (h : PA c g k (nx c s) (nx c (nx c s)) (nx c (nx c (nx c s))) (nx c (nx c (nx c (nx c s)))) (nx c (nx c (nx c (nx c (nx c s))))) g') (hF : pF c np s = (0, 0)) (hw : ¬ isW c (nx c (nx c (nx c (nx c (nx c s))))) 7 = true) (hs4 : nx c (nx c (nx c (nx c s))) ≤ n) (hx : x = nI (k + 1)) : TpQ c g k np wn s 0 (upI g' 91 26 x) := by
  have e : pR c np wn s = (0, (0, 0), nx c (nx c (nx c (nx c (nx c s))))) := by unfold pR; rw [if_neg hw, hF]
  obtain ⟨a1, a2, a3, a4, a5, a6, a7, a8, a9, a10, a11, a12⟩ := h
  have hn := hT.1
  have h5 := (nx_le hT hs4).2
  unfold TpQ
  rw [e]
  refine ⟨a1.fl (by omega), rfl, fun z => absurd rfl z, fun _ => ⟨(upd_n2 (by decide)).trans a2, ⟨_, by omega, (upd_n2 (by decide)).trans a3, ?_⟩, ?_, ?_, ?_, ?_, ?_, by rw [upI_s, upd_s]; exact hx, (upd_n2 (by decide)).trans a10, (upd_n2 (by decide)).trans a11, fun j p q => (upI_n (by omega)).trans (a12 j p q)⟩⟩
  · exact sk_id hT (tL_le hT hs4)
  · rw [upI_n (by decide)]; exact a4
  · rw [upI_n (by decide)]; exact a5
  · rw [upI_n (by decide)]; exact a6
  · rw [upI_n (by decide)]; exact a7
  · rw [upI_n (by decide)]; exact a8
theorem TpQ_ok1 {c : CT} {g gE gF : St} {k np wn s n : Nat} {x y v : Int32} (h : PA c g k (nx c s) (nx c (nx c s)) (nx c (nx c (nx c s))) (nx c (nx c (nx c (nx c s)))) (nx c (nx c (nx c (nx c (nx c s))))) gE) (hF : pF c np s = (0, 0)) (hw : isW c (nx c (nx c (nx c (nx c (nx c s))))) 7 = true) (hK : KnQ c (upI gE 91 16 y) k (knS c wn 400 0 (0, 0) (nx c (nx c (nx c (nx c (nx c s)))))) v gF) (hx : (knS c wn 400 0 (0, 0) (nx c (nx c (nx c (nx c (nx c s)))))).2.1.1 = 0 → x = nI (k + 1)) : TpQ c g k np wn s v (upI gF 91 26 x) := by
  have e : pR c np wn s = knS c wn 400 0 (0, 0) (nx c (nx c (nx c (nx c (nx c s))))) := by unfold pR; rw [if_pos hw, hF]
  obtain ⟨a1, a2, a3, a4, a5, a6, a7, a8, a9, a10, a11, a12⟩ := h
  obtain ⟨k1, k2, k3, k4⟩ := hK
  unfold TpQ
  rw [e]
  refine ⟨(a1.tr ((PK.rf.fl (by omega)).tr k1)).fl (by omega), k2, fun z => (upd_n2 (show (15 : Nat) ≠ 26 by decide)).trans (k3 z), fun z => ?_⟩
  obtain ⟨p, p1, p2, p3⟩ := k4 z
  obtain ⟨b1, b2, b3, b4, b5⟩ := p2
  have fq : ∀ q, q = 15 ∨ q = 21 ∨ q = 22 → (upI gF 91 26 x).1 91 q = gE.1 91 q := fun q hq => (upd_n2 (by omega)).trans ((b3 q (by omega)).trans (upd_n2 (by omega)))
  have ar : ∀ j, j ≠ 91 → j ≠ 108 → (upI gF 91 26 x).1 j = gE.1 j := fun j p q => (upI_n p).trans ((b1 j p q).trans (upI_n p))
  refine ⟨(fq 15 (by omega)).trans a2, ⟨p, p1, (upd_n2 (by decide)).trans b5, p3⟩, ?_, ?_, ?_, ?_, ?_, by rw [upI_s, upd_s]; exact hx z, (fq 21 (by omega)).trans a10, (fq 22 (by omega)).trans a11, fun j p q => (ar j (by omega) (by omega)).trans (a12 j p q)⟩
  · rw [ar 104 (by decide) (by decide)]; exact a4
  · rw [ar 105 (by decide) (by decide)]; exact a5
  · rw [ar 106 (by decide) (by decide)]; exact a6
  · rw [ar 107 (by decide) (by decide)]; exact a7
  · rw [upI_n (by decide), b2, upI_n (by decide), a8, upd_upd]

