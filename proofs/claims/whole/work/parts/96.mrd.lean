/-! THE MODEL: the reader's small steps -/
def MTx (g : St) (n : Nat) (c : CT) : Prop := tOk n c ∧ g.1 91 14 = nI n ∧ ∀ i, i < n → g.1 100 i = nI (c i)
/-- the place in the text alone has moved -/
def HQ (g : St) (s : Nat) (g' : St) : Prop := (∀ j, j ≠ 91 → g'.1 j = g.1 j) ∧ (∀ k, k ≠ 16 → g'.1 91 k = g.1 91 k) ∧ g'.2 = g.2 ∧ g'.1 91 16 = nI s
theorem HQ_rf {g : St} {s : Nat} (h : g.1 91 16 = nI s) : HQ g s g := ⟨fun _ _ => rfl, fun _ _ => rfl, rfl, h⟩
theorem HQ.up {g g' : St} {s s2 : Nat} (h : HQ g s g') : HQ g s2 (upI g' 91 16 (nI s2)) := ⟨fun j hj => (upI_n hj).trans (h.1 j hj), fun k hk => (upd_n2 hk).trans (h.2.1 k hk), h.2.2.1, by rw [upI_s, upd_s]⟩
theorem MTx_h {g g' : St} {n s : Nat} {c : CT} (h : MTx g n c) (hf : HQ g s g') : MTx g' n c := by
  obtain ⟨h1, h2, h3⟩ := h
  exact ⟨h1, (hf.2.1 14 (by decide)).trans h2, fun i hi => by rw [hf.1 100 (by decide)]; exact h3 i hi⟩
theorem sk_32 {c : CT} {p i : Nat} (h1 : p ≤ i) (h2 : i < sk c p) : c i = 32 := by
  have h := fdF_bef (p := fun i => decide (c i ≠ 32)) 400 p i h1 h2
  have h3 : ¬ c i ≠ 32 := of_decide_eq_false h
  omega
theorem t_in {n : Nat} {c : CT} (h : tOk n c) {i : Nat} (hi : i < n) : c i < 256 ∧ cI (c i) = nI (c i) := by
  have h1 := h.2.1 i hi
  refine ⟨h1, ?_⟩
  unfold cI
  rw [if_neg (by omega)]
theorem t_out {n : Nat} {c : CT} (h : tOk n c) {i : Nat} (hi : ¬ i < n) : c i = 999 ∧ cI (c i) = -1 := by
  have h1 := h.2.2 i (by omega)
  refine ⟨h1, ?_⟩
  rw [h1]; rfl
/-- a word's number: a saturated figure of base 27 -/
def wc (c : CT) (s : Nat) : Nat → Nat
  | 0 => 0
  | i + 1 => if 1000000000000 < wc c s i then 2000000000000 else 27 * wc c s i + c (s + i) - 96
theorem wc_s {c : CT} {s i : Nat} : wc c s (i + 1) = if 1000000000000 < wc c s i then 2000000000000 else 27 * wc c s i + c (s + i) - 96 := rfl
def cw (f : Nat → Nat) : Nat → Nat
  | 0 => 0
  | i + 1 => 27 * cw f i + f i - 96
theorem cw_s {f : Nat → Nat} {i : Nat} : cw f (i + 1) = 27 * cw f i + f i - 96 := rfl
theorem wc_le {c : CT} {s : Nat} : ∀ i, (∀ j, j < i → lt (c (s + j)) = true) → wc c s i ≤ 28000000000000
  | 0, _ => Nat.zero_le _
  | i + 1, h => by
    have h2 := h i (Nat.lt_succ_self i)
    unfold lt at h2
    simp only [Bool.and_eq_true, decide_eq_true_eq] at h2
    rw [wc_s]
    split <;> omega
theorem wc_cw {c : CT} {s : Nat} {f : Nat → Nat} : ∀ l L, (∀ i, i < l → 97 ≤ f i ∧ f i ≤ 122) → (∀ i, i < L → lt (c (s + i)) = true) → cw f l ≤ 1000000000000 → (wc c s L = cw f l ↔ L = l ∧ ∀ i, i < l → c (s + i) = f i)
  | 0, 0, _, _, _ => ⟨fun _ => ⟨rfl, fun i h => absurd h (Nat.not_lt_zero i)⟩, fun _ => rfl⟩
  | 0, L + 1, _, h, _ => by
    have h2 := h L (Nat.lt_succ_self L)
    unfold lt at h2
    simp only [Bool.and_eq_true, decide_eq_true_eq] at h2
    constructor
    · intro e
      rw [wc_s] at e
      have e0 : cw f 0 = 0 := rfl
      rw [e0] at e
      split at e <;> omega
    · intro e; exact absurd e.1 (by omega)
  | l + 1, 0, hf, _, _ => by
    have h2 := hf l (Nat.lt_succ_self l)
    constructor
    · intro e
      rw [cw_s] at e
      have e0 : wc c s 0 = 0 := rfl
      rw [e0] at e
      omega
    · intro e; exact absurd e.1 (by omega)
  | l + 1, L + 1, hf, h, hb => by
    have h2 := h L (Nat.lt_succ_self L)
    unfold lt at h2
    simp only [Bool.and_eq_true, decide_eq_true_eq] at h2
    have h3 := hf l (Nat.lt_succ_self l)
    rw [cw_s] at hb
    have ih := wc_cw (c := c) (s := s) (f := f) l L (fun i hi => hf i (by omega)) (fun i hi => h i (by omega)) (by omega)
    rw [wc_s, cw_s]
    constructor
    · intro e
      split at e
      · omega
      · have e1 : wc c s L = cw f l := by omega
        obtain ⟨a, b⟩ := ih.mp e1
        refine ⟨by omega, fun i hi => ?_⟩
        by_cases e2 : i = l
        · subst e2; rw [a] at e h2; omega
        · exact b i (by omega)
    · rintro ⟨a, b⟩
      have e1 : wc c s L = cw f l := ih.mpr ⟨by omega, fun i hi => b i (by omega)⟩
      have e2 := b l (Nat.lt_succ_self l)
      have e3 : L = l := by omega
      rw [if_neg (by rw [e1]; omega), e1, e3, e2]
/-- how many letters stand at s -/
def wl (c : CT) (s : Nat) : Nat := fdF (fun i => !lt (c (s + i))) 400 0
theorem wl_lt {c : CT} {s i : Nat} (h : i < wl c s) : lt (c (s + i)) = true := by
  have := fdF_bef (p := fun i => !lt (c (s + i))) 400 0 i (Nat.zero_le _) h
  simpa using this
theorem lt_999 : lt 999 = false := rfl
theorem wl_le {n : Nat} {c : CT} (h : tOk n c) {s : Nat} (hs : s ≤ n) : s + wl c s ≤ n := by
  refine Nat.le_of_not_lt (fun z => ?_)
  have h1 := wl_lt (c := c) (s := s) (i := n - s) (by omega)
  rw [show s + (n - s) = n by omega, h.2.2 n (Nat.le_refl n), lt_999] at h1
  cases h1
theorem wl_end {n : Nat} {c : CT} (h : tOk n c) {s : Nat} (hs : s ≤ n) : lt (c (s + wl c s)) = false := by
  have h1 := wl_le h hs
  have h4 := h.1
  by_cases e : wl c s < 400
  · have := fdF_at (p := fun i => !lt (c (s + i))) 400 0 (by unfold wl at e; omega)
    have h2 : (!lt (c (s + wl c s))) = true := this
    simpa using h2
  · have : s + wl c s = n := by omega
    rw [this, h.2.2 n (Nat.le_refl n)]; rfl

set_option maxHeartbeats 4000000 in
set_option maxRecDepth 100000 in
theorem c_mFails {ad : Nat → Nat} {g : St} {x y : Int32} : Ci 1 mX10_fails [.ref 91, .int x, .int y] ad g (fun v g' => v = x ∧ g' = upI g 91 15 y) := by
  refine Cm.mk rfl (Nat.le_of_ble_eq_true rfl) (fun K hK hR hm hnn => ?_)
  refine r_aload_n (i := 0) hK dX10_fails_0 rfl rfl ?_
  refine r_iload_n (i := 2) hK dX10_fails_1 rfl rfl ?_
  refine r_putI hK flX10_37 ft10_15 to_91 rfl dX10_fails_2 ?_
  refine r_iload_n (i := 1) hK dX10_fails_5 rfl rfl ?_
  refine q_iret hK hR dX10_fails_6 ?_
  exact ⟨rfl, rfl⟩
set_option maxHeartbeats 4000000 in
set_option maxRecDepth 100000 in
theorem lm_he {K : KT} {ad : Nat → Nat} {g : St} {n p : Nat} {c : CT} (hT : MTx g n c) (hp : p ≤ n) (hK : Cx K RX10 cX10_here 1 ad) (hm : K.2.2.1.2.maxLocals = 1) (hnn : Nn K 0 0)
    (hR : Rt K 0 0 TT ad (some .int) (Qi ad (fun v g' => v = cI (c (sk c p)) ∧ HQ g (sk c p) g'))) :
    ∀ m i, i + m = sk c p → p ≤ i → ∀ g1, HQ g i g1 → Wp K 0 0 TT ad g1 0 [(0, .ref 91)] [] := by
  have hn4 := hT.1.1
  obtain ⟨hs1, hs2⟩ := sk_le hT.1 hp
  intro m
  induction m with
  | zero =>
    intro i him hpi g1 hf
    have hT1 := MTx_h hT hf
    have e : i = sk c p := by omega
    have hne : ¬ c i = 32 := by rw [e]; exact sk_at hT.1 hp
    rw [← e] at hR
    by_cases hin : i < n
    · have hb := hT.1.2.1 i hin
      refine r_aload_n (i := 0) hK dX10_here_0 rfl rfl ?_
      refine r_getI hK flX10_143 to_91 rfl dX10_here_1 ?_
      refine r_top (y := nI i) hf.2.2.2 ?_
      refine r_aload_n (i := 0) hK dX10_here_4 rfl rfl ?_
      refine r_getI hK flX10_137 to_91 rfl dX10_here_5 ?_
      refine r_top (y := nI n) hT1.2.1 ?_
      refine r_icmp_ge (tgt := 38) hK dX10_here_8 (by decide) (fun h => absurd h (nI_ge hin (by omega))) (fun _ => ?_)
      refine r_aload_n (i := 0) hK dX10_here_11 rfl rfl ?_
      refine r_getA hK flX10_34 to_91 rfl dX10_here_12 ?_
      refine r_aload_n (i := 0) hK dX10_here_15 rfl rfl ?_
      refine r_getI hK flX10_143 to_91 rfl dX10_here_16 ?_
      refine r_top (y := nI i) hf.2.2.2 ?_
      refine r_ialN hK to_100 rfl (by omega) (by decide) (hT1.2.2 i hin) dX10_here_19 ?_
      refine r_bipush (v := 32) hK dX10_here_20 (by decide) ?_
      refine r_icmp_ne (tgt := 38) hK dX10_here_22 (by decide) (fun _ => ?_) (fun h => absurd h (fun z => hne (nI_inj (by omega) (by decide) z)))
      refine r_aload_n (i := 0) hK dX10_here_38 rfl rfl ?_
      refine r_getI hK flX10_143 to_91 rfl dX10_here_39 ?_
      refine r_top (y := nI i) hf.2.2.2 ?_
      refine r_aload_n (i := 0) hK dX10_here_42 rfl rfl ?_
      refine r_getI hK flX10_137 to_91 rfl dX10_here_43 ?_
      refine r_top (y := nI n) hT1.2.1 ?_
      refine r_icmp_ge (tgt := 61) hK dX10_here_46 (by decide) (fun h => absurd h (nI_ge hin (by omega))) (fun _ => ?_)
      refine r_aload_n (i := 0) hK dX10_here_49 rfl rfl ?_
      refine r_getA hK flX10_34 to_91 rfl dX10_here_50 ?_
      refine r_aload_n (i := 0) hK dX10_here_53 rfl rfl ?_
      refine r_getI hK flX10_143 to_91 rfl dX10_here_54 ?_
      refine r_top (y := nI i) hf.2.2.2 ?_
      refine r_ialN hK to_100 rfl (by omega) (by decide) (hT1.2.2 i hin) dX10_here_57 ?_
      refine r_goto (tgt := 62) hK dX10_here_58 (by decide) ?_
      refine q_iret hK hR dX10_here_62 ?_
      exact ⟨(t_in hT1.1 hin).2.symm, hf⟩
    · have hin2 : n ≤ i := by omega
      refine r_aload_n (i := 0) hK dX10_here_0 rfl rfl ?_
      refine r_getI hK flX10_143 to_91 rfl dX10_here_1 ?_
      refine r_top (y := nI i) hf.2.2.2 ?_
      refine r_aload_n (i := 0) hK dX10_here_4 rfl rfl ?_
      refine r_getI hK flX10_137 to_91 rfl dX10_here_5 ?_
      refine r_top (y := nI n) hT1.2.1 ?_
      refine r_icmp_ge (tgt := 38) hK dX10_here_8 (by decide) (fun _ => ?_) (fun h => absurd (nI_le (by omega) (by omega)) h)
      refine r_aload_n (i := 0) hK dX10_here_38 rfl rfl ?_
      refine r_getI hK flX10_143 to_91 rfl dX10_here_39 ?_
      refine r_top (y := nI i) hf.2.2.2 ?_
      refine r_aload_n (i := 0) hK dX10_here_42 rfl rfl ?_
      refine r_getI hK flX10_137 to_91 rfl dX10_here_43 ?_
      refine r_top (y := nI n) hT1.2.1 ?_
      refine r_icmp_ge (tgt := 61) hK dX10_here_46 (by decide) (fun _ => ?_) (fun h => absurd (nI_le (by omega) (by omega)) h)
      refine r_iconst (v := (-1)) hK dX10_here_61 (by decide) ?_
      refine q_iret hK hR dX10_here_62 ?_
      exact ⟨(t_out hT1.1 hin).2.symm, hf⟩
  | succ m ih =>
    intro i him hpi g1 hf
    have hT1 := MTx_h hT hf
    have hin : i < n := by omega
    have hc32 : c i = 32 := sk_32 hpi (by omega)
    refine r_aload_n (i := 0) hK dX10_here_0 rfl rfl ?_
    refine r_getI hK flX10_143 to_91 rfl dX10_here_1 ?_
    refine r_top (y := nI i) hf.2.2.2 ?_
    refine r_aload_n (i := 0) hK dX10_here_4 rfl rfl ?_
    refine r_getI hK flX10_137 to_91 rfl dX10_here_5 ?_
    refine r_top (y := nI n) hT1.2.1 ?_
    refine r_icmp_ge (tgt := 38) hK dX10_here_8 (by decide) (fun h => absurd h (nI_ge hin (by omega))) (fun _ => ?_)
    refine r_aload_n (i := 0) hK dX10_here_11 rfl rfl ?_
    refine r_getA hK flX10_34 to_91 rfl dX10_here_12 ?_
    refine r_aload_n (i := 0) hK dX10_here_15 rfl rfl ?_
    refine r_getI hK flX10_143 to_91 rfl dX10_here_16 ?_
    refine r_top (y := nI i) hf.2.2.2 ?_
    refine r_ialN hK to_100 rfl (by omega) (by decide) (hT1.2.2 i hin) dX10_here_19 ?_
    refine r_bipush (v := 32) hK dX10_here_20 (by decide) ?_
    refine r_icmp_ne (tgt := 38) hK dX10_here_22 (by decide) (fun h => absurd (by rw [hc32]; rfl) h) (fun _ => ?_)
    refine r_aload_n (i := 0) hK dX10_here_25 rfl rfl ?_
    refine r_dup hK dX10_here_26 rfl ?_
    refine r_getI hK flX10_143 to_91 rfl dX10_here_27 ?_
    refine r_top (y := nI i) hf.2.2.2 ?_
    refine r_iconst (v := 1) hK dX10_here_30 (by decide) ?_
    refine r_iadd hK dX10_here_31 ?_
    refine r_top (y := nI (i + 1)) (nI_add _ _) ?_
    refine r_putI hK flX10_143 ft10_16 to_91 rfl dX10_here_32 ?_
    refine r_goto (tgt := 0) hK dX10_here_35 (by decide) ?_
    refine r_loc ?_ (ih (i + 1) (by omega) (by omega) _ hf.up)
    rfl
set_option maxHeartbeats 4000000 in
set_option maxRecDepth 100000 in
theorem c_mHere {ad : Nat → Nat} {g : St} {n p : Nat} {c : CT} (hT : MTx g n c) (hp : p ≤ n) (hpo : g.1 91 16 = nI p) : Ci 1 mX10_here [.ref 91] ad g (fun v g' => v = cI (c (sk c p)) ∧ HQ g (sk c p) g') := by
  refine Cm.mk rfl (Nat.le_of_ble_eq_true rfl) (fun K hK hR hm hnn => ?_)
  have h1 := (sk_le hT.1 hp).1
  refine r_loc ?_ (lm_he hT hp hK hm hnn hR (sk c p - p) p (by omega) (Nat.le_refl _) g (HQ_rf hpo))
  rfl
