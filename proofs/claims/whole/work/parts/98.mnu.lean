/-! THE MODEL: a number taken -/
def dl (c : CT) (s : Nat) : Nat := fdF (fun i => !fg (c (s + i))) 400 0
theorem dl_lt {c : CT} {s i : Nat} (h : i < dl c s) : fg (c (s + i)) = true := by
  have := fdF_bef (p := fun i => !fg (c (s + i))) 400 0 i (Nat.zero_le _) h
  simpa using this
theorem fg_999 : fg 999 = false := rfl
theorem dl_le {n : Nat} {c : CT} (h : tOk n c) {s : Nat} (hs : s ≤ n) : s + dl c s ≤ n := by
  refine Nat.le_of_not_lt (fun z => ?_)
  have h1 := dl_lt (c := c) (s := s) (i := n - s) (by omega)
  rw [show s + (n - s) = n by omega, h.2.2 n (Nat.le_refl n), fg_999] at h1
  cases h1
theorem dl_end {n : Nat} {c : CT} (h : tOk n c) {s : Nat} (hs : s ≤ n) : fg (c (s + dl c s)) = false := by
  have h1 := dl_le h hs
  have h4 := h.1
  by_cases e : dl c s < 400
  · have := fdF_at (p := fun i => !fg (c (s + i))) 400 0 (by unfold dl at e; omega)
    have h2 : (!fg (c (s + dl c s))) = true := this
    simpa using h2
  · have : s + dl c s = n := by omega
    rw [this, h.2.2 n (Nat.le_refl n)]; rfl
theorem bI_fx {x : Nat} (h : x < 256 ∨ x = 999) : bI (cI x) 48 57 = fg x := by
  have h1 := fgI_c (x := x) h
  rw [← h1]
  unfold bI fgI
  rw [decide_not, decide_not]
theorem fg_lt {x : Nat} (h : fg x = true) : lt x = false := by
  unfold fg at h
  unfold lt
  simp only [Bool.and_eq_true, decide_eq_true_eq] at h
  rw [decide_eq_false (by omega), Bool.false_and]
theorem lt_fg {x : Nat} (h : lt x = true) : fg x = false := by
  rw [← Bool.not_eq_true]
  exact fun z => by rw [fg_lt z] at h; cases h
theorem tl_dl {c : CT} {s : Nat} (h : fg (c s) = true) : tL c s = dl c s := by
  unfold tL dl
  have e0 : fdF (fun i => !fg (c (s + i))) 400 0 = fdF (fun i => !fg (c (s + i))) 399 1 := (fdF_succ _ 399 0).trans (if_neg (by rw [Nat.add_zero, h]; decide))
  rw [if_neg (fun z => by rw [z, fg_999] at h; cases h), e0]
  refine congrArg (fun p => fdF p 399 1) (funext fun i => ?_)
  unfold gO
  rw [h, fg_lt h, Bool.false_and, Bool.false_or, Bool.true_and]
theorem tl_wl {c : CT} {s : Nat} (h : lt (c s) = true) : tL c s = wl c s := by
  unfold tL wl
  have e0 : fdF (fun i => !lt (c (s + i))) 400 0 = fdF (fun i => !lt (c (s + i))) 399 1 := (fdF_succ _ 399 0).trans (if_neg (by rw [Nat.add_zero, h]; decide))
  rw [if_neg (fun z => by rw [z, lt_999] at h; cases h), e0]
  refine congrArg (fun p => fdF p 399 1) (funext fun i => ?_)
  unfold gO
  rw [h, lt_fg h, Bool.false_and, Bool.or_false, Bool.true_and]
def nv (c : CT) (s : Nat) : Nat → Nat
  | 0 => 0
  | i + 1 => if 10000 < nv c s i then nv c s i else 10 * nv c s i + c (s + i) - 48
theorem nv_s {c : CT} {s i : Nat} : nv c s (i + 1) = if 10000 < nv c s i then nv c s i else 10 * nv c s i + c (s + i) - 48 := rfl
theorem fg_b {x : Nat} (h : fg x = true) : 48 ≤ x ∧ x ≤ 57 := by
  unfold fg at h
  simpa only [Bool.and_eq_true, decide_eq_true_eq] using h
theorem nv_le {c : CT} {s : Nat} : ∀ i, (∀ j, j < i → fg (c (s + j)) = true) → nv c s i ≤ 100009
  | 0, _ => Nat.zero_le _
  | i + 1, h => by
    have h2 := fg_b (h i (Nat.lt_succ_self i))
    have h3 := nv_le i (fun j hj => h j (by omega))
    rw [nv_s]
    split <;> omega
theorem nv_vI {c : CT} {s : Nat} : ∀ k, k ≤ 2 → (∀ j, j ≤ k → fg (c (s + j)) = true) → vI c s k = nI (nv c s (k + 1)) ∧ nv c s (k + 1) < 10 ^ (k + 1)
  | 0, _, h => by
    have h2 := fg_b (h 0 (Nat.le_refl 0))
    rw [Nat.add_zero] at h2
    have e : nv c s (0 + 1) = c s - 48 := by
      rw [nv_s]
      have e0 : nv c s 0 = 0 := rfl
      rw [e0, if_neg (by decide), Nat.add_zero]
      omega
    rw [e]
    refine ⟨?_, by omega⟩
    show cI (c s) - 48 = _
    unfold cI
    rw [if_neg (by omega)]
    exact pk_sub (a := c s) (b := 48) (by omega)
  | k + 1, hk, h => by
    have h2 := fg_b (h (k + 1) (Nat.le_refl _))
    obtain ⟨i1, i2⟩ := nv_vI k (by omega) (fun j hj => h j (by omega))
    have i3 : nv c s (k + 1) < 100 := Nat.lt_of_lt_of_le i2 (by
      have : k = 0 ∨ k = 1 := by omega
      rcases this with rfl | rfl <;> decide)
    rw [vI_s, if_neg (by omega), i1, nv_s (i := k + 1), if_neg (by omega)]
    have e : cI (c (s + (k + 1))) = nI (c (s + (k + 1))) := by unfold cI; rw [if_neg (by omega)]
    rw [e, show (10 : Int32) = nI 10 from rfl, pk_mul, nI_add]
    refine ⟨?_, ?_⟩
    · rw [Nat.mul_comm (nv c s (k + 1)) 10]
      exact pk_sub (a := 10 * nv c s (k + 1) + c (s + (k + 1))) (b := 48) (by omega)
    · rw [Nat.pow_succ]; omega
def NL (c : CT) (g : St) (s i : Nat) (g' : St) : Prop := (∀ j, j ≠ 91 → g'.1 j = g.1 j) ∧ (∀ k, k ≠ 16 → k ≠ 19 → k ≠ 20 → g'.1 91 k = g.1 91 k) ∧ g'.2 = g.2 ∧ g'.1 91 16 = nI (s + i) ∧ g'.1 91 19 = nI (nv c s i) ∧ g'.1 91 20 = nI s
theorem NL.up {c : CT} {g g' : St} {s i : Nat} {v : Int32} (h : NL c g s i g') (hv : v = nI (nv c s (i + 1))) : NL c g s (i + 1) (upI (upI g' 91 19 v) 91 16 (nI (s + (i + 1)))) := by
  obtain ⟨h1, h2, h3, h4, h5, h6⟩ := h
  refine ⟨fun j hj => (upI_n hj).trans ((upI_n hj).trans (h1 j hj)), fun k a b d => (upd_n2 a).trans ((upd_n2 b).trans (h2 k a b d)), h3, by rw [upI_s, upd_s], ?_, ?_⟩
  · exact (upd_n2 (show (19 : Nat) ≠ 16 by decide)).trans (by rw [upI_s, upd_s]; exact hv)
  · exact (upd_n2 (show (20 : Nat) ≠ 16 by decide)).trans ((upd_n2 (show (20 : Nat) ≠ 19 by decide)).trans h6)
theorem MTx_l {g g' : St} {n s i : Nat} {c : CT} (h : MTx g n c) (hf : NL c g s i g') : MTx g' n c := by
  obtain ⟨h1, h2, h3⟩ := h
  exact ⟨h1, (hf.2.1 14 (by decide) (by decide) (by decide)).trans h2, fun i hi => by rw [hf.1 100 (by decide)]; exact h3 i hi⟩
/-- a number taken at s: the fault, or the number -/
def NQ (c : CT) (g : St) (s : Nat) (lo hi v : Int32) (g' : St) : Prop := (∀ j, j ≠ 91 → g'.1 j = g.1 j) ∧ (∀ k, k ≠ 15 → k ≠ 16 → k ≠ 19 → k ≠ 20 → g'.1 91 k = g.1 91 k) ∧ g'.2 = g.2 ∧ v = nI (seF c (0, 0) s lo hi).1 ∧ ((seF c (0, 0) s lo hi).1 ≠ 0 → g'.1 91 15 = nI s) ∧ ((seF c (0, 0) s lo hi).1 = 0 → g'.1 91 15 = g.1 91 15 ∧ g'.1 91 16 = nI (s + tL c s) ∧ g'.1 91 19 = vI c s (tL c s - 1) ∧ g'.1 91 20 = nI s)
theorem NQ_1 {c : CT} {g g' : St} {s : Nat} {lo hi x : Int32} (h : HQ g s g') (hc : fg (c s) = false) (hx : x = nI s) : NQ c g s lo hi 1 (upI g' 91 15 x) := by
  have e : seF c (0, 0) s lo hi = (1, s) := by unfold seF; rw [hc]; rfl
  unfold NQ
  rw [e]
  exact ⟨fun j hj => (upI_n hj).trans (h.1 j hj), fun k a b _ _ => (upd_n2 a).trans (h.2.1 k b), h.2.2.1, rfl, fun _ => by rw [upI_s, upd_s]; exact hx, fun z => absurd z (Nat.succ_ne_zero _)⟩
theorem NQ_2 {c : CT} {g g' : St} {s i : Nat} {lo hi x : Int32} (h : NL c g s i g') (hc : fg (c s) = true) (hb : 3 < tL c s ∨ vI c s (tL c s - 1) < lo ∨ hi < vI c s (tL c s - 1)) (hx : x = nI s) : NQ c g s lo hi 2 (upI g' 91 15 x) := by
  have e : seF c (0, 0) s lo hi = (2, s) := by unfold seF; rw [if_pos hc, if_pos hb]; rfl
  unfold NQ
  rw [e]
  exact ⟨fun j hj => (upI_n hj).trans (h.1 j hj), fun k a b d f => (upd_n2 a).trans (h.2.1 k b d f), h.2.2.1, rfl, fun _ => by rw [upI_s, upd_s]; exact hx, fun z => absurd z (Nat.succ_ne_zero _)⟩
theorem NQ_0 {c : CT} {g g' : St} {s i : Nat} {lo hi : Int32} (h : NL c g s i g') (hc : fg (c s) = true) (hi2 : i = tL c s) (hb : ¬ (3 < tL c s ∨ vI c s (tL c s - 1) < lo ∨ hi < vI c s (tL c s - 1))) (hv : nI (nv c s i) = vI c s (tL c s - 1)) : NQ c g s lo hi 0 g' := by
  have e : seF c (0, 0) s lo hi = (0, 0) := by unfold seF; rw [if_pos hc, if_neg hb]
  unfold NQ
  rw [e]
  exact ⟨h.1, fun k _ b d f => h.2.1 k b d f, h.2.2.1, rfl, fun z => absurd rfl z, fun _ => ⟨h.2.1 15 (by decide) (by decide) (by decide), by rw [← hi2]; exact h.2.2.2.1, h.2.2.2.2.1.trans hv, h.2.2.2.2.2⟩⟩

set_option maxHeartbeats 4000000 in
set_option maxRecDepth 100000 in
theorem lm_te {K : KT} {ad : Nat → Nat} {g : St} {n s : Nat} {c : CT} {x y : Int32} (hT : MTx g n c) (hs : s ≤ n) (hc : fg (c s) = true) (hK : Cx K RX10 cX10_takeNumber 2 ad) (hm : K.2.2.1.2.maxLocals = 4) (hnn : Nn K 0 0)
    (hR : Rt K 0 0 TT ad (some .int) (Qi ad (fun v g' => NQ c g s x y v g'))) {i : Nat} (hid : i = dl c s) {g1 : St} (hf : NL c g s i g1) : Wp K 0 0 TT ad g1 129 [(0, .ref 91), (1, .int x), (2, .int y)] [] := by
  have hn4 := hT.1.1
  have hdl := dl_le hT.1 hs
  have hit : i = tL c s := hid.trans (tl_dl hc).symm
  have h1 : 1 ≤ i := by
    rw [hid]
    refine Nat.one_le_iff_ne_zero.mpr (fun z => ?_)
    have h2 := dl_end hT.1 hs
    rw [z, Nat.add_zero, hc] at h2
    cases h2
  have hvv : ¬ 3 < nI i → nI (nv c s i) = vI c s (tL c s - 1) := fun z => by
    have h3 : ¬ 3 < i := fun q => z (nI_lt (a := 3) q (by omega))
    have h4 := (nv_vI (c := c) (s := s) (i - 1) (by omega) (fun j hj => dl_lt (by omega))).1
    rw [← hit, h4, show i - 1 + 1 = i by omega]
  have hout : ¬ 3 < nI i → (nI (nv c s i) < x ∨ y < nI (nv c s i)) → 3 < tL c s ∨ vI c s (tL c s - 1) < x ∨ y < vI c s (tL c s - 1) := fun z q => by rw [← hvv z]; exact Or.inr q
  have hin9 : ¬ 3 < nI i → ¬ (nI (nv c s i) < x ∨ y < nI (nv c s i)) → ¬ (3 < tL c s ∨ vI c s (tL c s - 1) < x ∨ y < vI c s (tL c s - 1)) := fun z q p => by
    rw [← hvv z] at p
    rcases p with p | p
    · rw [← hit] at p; exact z (nI_lt (a := 3) p (by omega))
    · exact q p
  refine r_aload_n (i := 0) hK dX10_takeNumber_129 rfl rfl ?_
  refine r_getI hK flX10_143 to_91 rfl dX10_takeNumber_130 ?_
  refine r_top (y := nI (s + i)) hf.2.2.2.1 ?_
  refine r_aload_n (i := 0) hK dX10_takeNumber_133 rfl rfl ?_
  refine r_getI hK flX10_177 to_91 rfl dX10_takeNumber_134 ?_
  refine r_top (y := nI s) hf.2.2.2.2.2 ?_
  refine r_isub hK dX10_takeNumber_137 ?_
  refine r_top (y := nI i) ((pk_sub (a := s + i) (b := s) (by omega)).trans (by rw [Nat.add_sub_cancel_left])) ?_
  refine r_iconst (v := 3) hK dX10_takeNumber_138 (by decide) ?_
  refine r_icmp_gt (tgt := 157) hK dX10_takeNumber_139 (by decide) (fun h139 => ?_) (fun h139 => ?_)
  · refine r_aload_n (i := 0) hK dX10_takeNumber_157 rfl rfl ?_
    refine r_iconst (v := 2) hK dX10_takeNumber_158 (by decide) ?_
    refine r_aload_n (i := 0) hK dX10_takeNumber_159 rfl rfl ?_
    refine r_getI hK flX10_177 to_91 rfl dX10_takeNumber_160 ?_
    refine r_top (y := nI s) hf.2.2.2.2.2 ?_
    refine r_ci2 hK hnn c_mFails moX10_fails mlX10_173 to_91 rfl rfl dX10_takeNumber_163 (Nat.le_of_ble_eq_true rfl) (Nat.le_of_ble_eq_true rfl) (eqI ?_)
    refine r_goto (tgt := 170) hK dX10_takeNumber_166 (by decide) ?_
    refine q_iret hK hR dX10_takeNumber_170 ?_
    first
      | exact NQ_2 hf hc (Or.inl (by have := (nI_ltI (a := 3) (by decide) (by omega)).mp h139; omega)) rfl
      | exact NQ_2 hf hc (hout h139 (bI_f.mp (B1_0.mp h154))) rfl
      | exact NQ_0 hf hc hit (hin9 h139 (bI_t.mp (B1_n.mp h154))) (hvv h139)
  · refine r_aload_n (i := 0) hK dX10_takeNumber_142 rfl rfl ?_
    refine r_getI hK flX10_180 to_91 rfl dX10_takeNumber_143 ?_
    refine r_top (y := nI (nv c s i)) hf.2.2.2.2.1 ?_
    refine r_i2l hK dX10_takeNumber_146 ?_
    refine r_iload_n (i := 1) hK dX10_takeNumber_147 rfl rfl ?_
    refine r_i2l hK dX10_takeNumber_148 ?_
    refine r_iload_n (i := 2) hK dX10_takeNumber_149 rfl rfl ?_
    refine r_i2l hK dX10_takeNumber_150 ?_
    refine r_si3 hK hnn c_mIn moX10_in mlX10_124 dX10_takeNumber_151 (Nat.le_of_ble_eq_true rfl) (Nat.le_of_ble_eq_true rfl) (eqI ?_)
    refine r_top (y := B1 (bI (nI (nv c s i)) x y)) (congrArg B1 (inL_b (lI := x) (hI := y) rfl rfl)) ?_
    refine r_if_ne (tgt := 169) hK dX10_takeNumber_154 (by decide) (fun h154 => ?_) (fun h154 => ?_)
    · refine r_iconst (v := 0) hK dX10_takeNumber_169 (by decide) ?_
      refine q_iret hK hR dX10_takeNumber_170 ?_
      first
        | exact NQ_2 hf hc (Or.inl (by have := (nI_ltI (a := 3) (by decide) (by omega)).mp h139; omega)) rfl
        | exact NQ_2 hf hc (hout h139 (bI_f.mp (B1_0.mp h154))) rfl
        | exact NQ_0 hf hc hit (hin9 h139 (bI_t.mp (B1_n.mp h154))) (hvv h139)
    · refine r_aload_n (i := 0) hK dX10_takeNumber_157 rfl rfl ?_
      refine r_iconst (v := 2) hK dX10_takeNumber_158 (by decide) ?_
      refine r_aload_n (i := 0) hK dX10_takeNumber_159 rfl rfl ?_
      refine r_getI hK flX10_177 to_91 rfl dX10_takeNumber_160 ?_
      refine r_top (y := nI s) hf.2.2.2.2.2 ?_
      refine r_ci2 hK hnn c_mFails moX10_fails mlX10_173 to_91 rfl rfl dX10_takeNumber_163 (Nat.le_of_ble_eq_true rfl) (Nat.le_of_ble_eq_true rfl) (eqI ?_)
      refine r_goto (tgt := 170) hK dX10_takeNumber_166 (by decide) ?_
      refine q_iret hK hR dX10_takeNumber_170 ?_
      first
        | exact NQ_2 hf hc (Or.inl (by have := (nI_ltI (a := 3) (by decide) (by omega)).mp h139; omega)) rfl
        | exact NQ_2 hf hc (hout h139 (bI_f.mp (B1_0.mp h154))) rfl
        | exact NQ_0 hf hc hit (hin9 h139 (bI_t.mp (B1_n.mp h154))) (hvv h139)
set_option maxHeartbeats 4000000 in
set_option maxRecDepth 100000 in
theorem lm_tn {K : KT} {ad : Nat → Nat} {g : St} {n s : Nat} {c : CT} {x y : Int32} (hT : MTx g n c) (hs : s ≤ n) (hc : fg (c s) = true) (hK : Cx K RX10 cX10_takeNumber 2 ad) (hm : K.2.2.1.2.maxLocals = 4) (hnn : Nn K 0 0)
    (hR : Rt K 0 0 TT ad (some .int) (Qi ad (fun v g' => NQ c g s x y v g'))) :
    ∀ m i, i + m = dl c s → ∀ g1, NL c g s i g1 → Wp K 0 0 TT ad g1 42 [(0, .ref 91), (1, .int x), (2, .int y)] [] := by
  have hn4 := hT.1.1
  have hdl := dl_le hT.1 hs
  have hnv := fun i (hi : i ≤ dl c s) => nv_le (c := c) (s := s) i (fun j hj => dl_lt (by omega))
  intro m
  induction m with
  | zero =>
    intro i him g1 hf
    have hT1 := MTx_l hT hf
    have e : i = dl c s := by omega
    have hend : fg (c (s + i)) = false := by rw [e]; exact dl_end hT.1 hs
    have hte := lm_te hT hs hc hK hm hnn hR e hf
    by_cases hin : s + i < n
    · have hb := hT.1.2.1 (s + i) hin
      refine r_aload_n (i := 0) hK dX10_takeNumber_42 rfl rfl ?_
      refine r_getI hK flX10_143 to_91 rfl dX10_takeNumber_43 ?_
      refine r_top (y := nI (s + i)) hf.2.2.2.1 ?_
      refine r_aload_n (i := 0) hK dX10_takeNumber_46 rfl rfl ?_
      refine r_getI hK flX10_137 to_91 rfl dX10_takeNumber_47 ?_
      refine r_top (y := nI n) hT1.2.1 ?_
      refine r_icmp_ge (tgt := 129) hK dX10_takeNumber_50 (by decide) (fun h => absurd h (nI_ge hin (by omega))) (fun _ => ?_)
      refine r_aload_n (i := 0) hK dX10_takeNumber_53 rfl rfl ?_
      refine r_getA hK flX10_34 to_91 rfl dX10_takeNumber_54 ?_
      refine r_aload_n (i := 0) hK dX10_takeNumber_57 rfl rfl ?_
      refine r_getI hK flX10_143 to_91 rfl dX10_takeNumber_58 ?_
      refine r_top (y := nI (s + i)) hf.2.2.2.1 ?_
      refine r_ialN hK to_100 rfl (by omega) (by decide) (hT1.2.2 (s + i) hin) dX10_takeNumber_61 ?_
      refine r_i2l hK dX10_takeNumber_62 ?_
      refine r_ldc2 hK ckX10_169 dX10_takeNumber_63 ?_
      refine r_ldc2 hK ckX10_171 dX10_takeNumber_66 ?_
      refine r_si3 hK hnn c_mIn moX10_in mlX10_124 dX10_takeNumber_69 (Nat.le_of_ble_eq_true rfl) (Nat.le_of_ble_eq_true rfl) (eqI ?_)
      refine r_top (y := B1 (fg (c (s + i)))) (congrArg B1 ((inL_b (lI := 48) (hI := 57) rfl rfl).trans (bI_fg (hT1.1.2.1 _ hin)))) ?_
      refine r_if_eq (tgt := 129) hK dX10_takeNumber_72 (by decide) (fun _ => ?_) (fun h => absurd (by rw [hend]; rfl) h)
      refine r_loc ?_ hte
      rfl
    · have hin2 : n ≤ s + i := by omega
      refine r_aload_n (i := 0) hK dX10_takeNumber_42 rfl rfl ?_
      refine r_getI hK flX10_143 to_91 rfl dX10_takeNumber_43 ?_
      refine r_top (y := nI (s + i)) hf.2.2.2.1 ?_
      refine r_aload_n (i := 0) hK dX10_takeNumber_46 rfl rfl ?_
      refine r_getI hK flX10_137 to_91 rfl dX10_takeNumber_47 ?_
      refine r_top (y := nI n) hT1.2.1 ?_
      refine r_icmp_ge (tgt := 129) hK dX10_takeNumber_50 (by decide) (fun _ => ?_) (fun h => absurd (nI_le (by omega) (by omega)) h)
      refine r_loc ?_ hte
      rfl
  | succ m ih =>
    intro i him g1 hf
    have hT1 := MTx_l hT hf
    have hin : s + i < n := by omega
    have hb := hT.1.2.1 (s + i) hin
    have hl : fg (c (s + i)) = true := dl_lt (by omega)
    have hl2 := fg_b hl
    have hw9 := hnv i (by omega)
    have hgt : ¬ nI (nv c s i) ≤ 10000 → 10000 < nv c s i := fun z => Nat.lt_of_not_le (fun q => z ((nI_leI (b := 10000) (by omega) (by decide)).mpr q))
    have hev : nI (nv c s i) ≤ 10000 → nI (10 * nv c s i + c (s + i) - 48) = nI (nv c s (i + 1)) := fun z => by
      rw [nv_s, if_neg (Nat.not_lt.mpr ((nI_leI (b := 10000) (by omega) (by decide)).mp z))]
    refine r_aload_n (i := 0) hK dX10_takeNumber_42 rfl rfl ?_
    refine r_getI hK flX10_143 to_91 rfl dX10_takeNumber_43 ?_
    refine r_top (y := nI (s + i)) hf.2.2.2.1 ?_
    refine r_aload_n (i := 0) hK dX10_takeNumber_46 rfl rfl ?_
    refine r_getI hK flX10_137 to_91 rfl dX10_takeNumber_47 ?_
    refine r_top (y := nI n) hT1.2.1 ?_
    refine r_icmp_ge (tgt := 129) hK dX10_takeNumber_50 (by decide) (fun h => absurd h (nI_ge hin (by omega))) (fun _ => ?_)
    refine r_aload_n (i := 0) hK dX10_takeNumber_53 rfl rfl ?_
    refine r_getA hK flX10_34 to_91 rfl dX10_takeNumber_54 ?_
    refine r_aload_n (i := 0) hK dX10_takeNumber_57 rfl rfl ?_
    refine r_getI hK flX10_143 to_91 rfl dX10_takeNumber_58 ?_
    refine r_top (y := nI (s + i)) hf.2.2.2.1 ?_
    refine r_ialN hK to_100 rfl (by omega) (by decide) (hT1.2.2 (s + i) hin) dX10_takeNumber_61 ?_
    refine r_i2l hK dX10_takeNumber_62 ?_
    refine r_ldc2 hK ckX10_169 dX10_takeNumber_63 ?_
    refine r_ldc2 hK ckX10_171 dX10_takeNumber_66 ?_
    refine r_si3 hK hnn c_mIn moX10_in mlX10_124 dX10_takeNumber_69 (Nat.le_of_ble_eq_true rfl) (Nat.le_of_ble_eq_true rfl) (eqI ?_)
    refine r_top (y := B1 (fg (c (s + i)))) (congrArg B1 ((inL_b (lI := 48) (hI := 57) rfl rfl).trans (bI_fg (hT1.1.2.1 _ hin)))) ?_
    refine r_if_eq (tgt := 129) hK dX10_takeNumber_72 (by decide) (fun h => absurd h (by rw [hl]; decide)) (fun _ => ?_)
    refine r_aload_n (i := 0) hK dX10_takeNumber_75 rfl rfl ?_
    refine r_aload_n (i := 0) hK dX10_takeNumber_76 rfl rfl ?_
    refine r_getI hK flX10_180 to_91 rfl dX10_takeNumber_77 ?_
    refine r_top (y := nI (nv c s i)) hf.2.2.2.2.1 ?_
    refine r_sipush (v := 10000) hK dX10_takeNumber_80 (by decide) ?_
    refine r_icmp_le (tgt := 93) hK dX10_takeNumber_83 (by decide) (fun h83 => ?_) (fun h83 => ?_)
    · refine r_bipush (v := 10) hK dX10_takeNumber_93 (by decide) ?_
      refine r_aload_n (i := 0) hK dX10_takeNumber_95 rfl rfl ?_
      refine r_getI hK flX10_180 to_91 rfl dX10_takeNumber_96 ?_
      refine r_top (y := nI (nv c s i)) hf.2.2.2.2.1 ?_
      refine r_imul hK dX10_takeNumber_99 ?_
      refine r_top (y := nI (10 * nv c s i)) (by rw [show (10 : Int32) = nI 10 from rfl]; exact pk_mul 10 (nv c s i)) ?_
      refine r_aload_n (i := 0) hK dX10_takeNumber_100 rfl rfl ?_
      refine r_getA hK flX10_34 to_91 rfl dX10_takeNumber_101 ?_
      refine r_aload_n (i := 0) hK dX10_takeNumber_104 rfl rfl ?_
      refine r_getI hK flX10_143 to_91 rfl dX10_takeNumber_105 ?_
      refine r_top (y := nI (s + i)) hf.2.2.2.1 ?_
      refine r_ialN hK to_100 rfl (by omega) (by decide) (hT1.2.2 (s + i) hin) dX10_takeNumber_108 ?_
      refine r_iadd hK dX10_takeNumber_109 ?_
      refine r_top (y := nI (10 * nv c s i + c (s + i))) (nI_add _ _) ?_
      refine r_bipush (v := 48) hK dX10_takeNumber_110 (by decide) ?_
      refine r_isub hK dX10_takeNumber_112 ?_
      refine r_top (y := nI (10 * nv c s i + c (s + i) - 48)) (pk_sub (a := 10 * nv c s i + c (s + i)) (b := 48) (by omega)) ?_
      refine r_putI hK flX10_180 ft10_19 to_91 rfl dX10_takeNumber_113 ?_
      refine r_aload_n (i := 0) hK dX10_takeNumber_116 rfl rfl ?_
      refine r_dup hK dX10_takeNumber_117 rfl ?_
      refine r_getI hK flX10_143 to_91 rfl dX10_takeNumber_118 ?_
      refine r_top (y := nI (s + i)) ((upd_n2 (show (16 : Nat) ≠ 19 by decide)).trans hf.2.2.2.1) ?_
      refine r_iconst (v := 1) hK dX10_takeNumber_121 (by decide) ?_
      refine r_iadd hK dX10_takeNumber_122 ?_
      refine r_top (y := nI (s + (i + 1))) (nI_add _ _) ?_
      refine r_putI hK flX10_143 ft10_16 to_91 rfl dX10_takeNumber_123 ?_
      refine r_goto (tgt := 42) hK dX10_takeNumber_126 (by decide) ?_
      first
        | (have ev : nI (nv c s i) = nI (nv c s (i + 1)) := (by rw [nv_s, if_pos (hgt h83)]); refine r_loc ?_ (ih (i + 1) (by omega) _ (hf.up ev)); rfl)
        | (refine r_loc ?_ (ih (i + 1) (by omega) _ (hf.up (hev h83))); rfl)
    · refine r_aload_n (i := 0) hK dX10_takeNumber_86 rfl rfl ?_
      refine r_getI hK flX10_180 to_91 rfl dX10_takeNumber_87 ?_
      refine r_top (y := nI (nv c s i)) hf.2.2.2.2.1 ?_
      refine r_goto (tgt := 113) hK dX10_takeNumber_90 (by decide) ?_
      refine r_putI hK flX10_180 ft10_19 to_91 rfl dX10_takeNumber_113 ?_
      refine r_aload_n (i := 0) hK dX10_takeNumber_116 rfl rfl ?_
      refine r_dup hK dX10_takeNumber_117 rfl ?_
      refine r_getI hK flX10_143 to_91 rfl dX10_takeNumber_118 ?_
      refine r_top (y := nI (s + i)) ((upd_n2 (show (16 : Nat) ≠ 19 by decide)).trans hf.2.2.2.1) ?_
      refine r_iconst (v := 1) hK dX10_takeNumber_121 (by decide) ?_
      refine r_iadd hK dX10_takeNumber_122 ?_
      refine r_top (y := nI (s + (i + 1))) (nI_add _ _) ?_
      refine r_putI hK flX10_143 ft10_16 to_91 rfl dX10_takeNumber_123 ?_
      refine r_goto (tgt := 42) hK dX10_takeNumber_126 (by decide) ?_
      first
        | (have ev : nI (nv c s i) = nI (nv c s (i + 1)) := (by rw [nv_s, if_pos (hgt h83)]); refine r_loc ?_ (ih (i + 1) (by omega) _ (hf.up ev)); rfl)
        | (refine r_loc ?_ (ih (i + 1) (by omega) _ (hf.up (hev h83))); rfl)
set_option maxHeartbeats 4000000 in
set_option maxRecDepth 100000 in
theorem c_mTakeNumber {ad : Nat → Nat} {g : St} {n p : Nat} {c : CT} {x y : Int32} (hT : MTx g n c) (hp : p ≤ n) (hpo : g.1 91 16 = nI p) : Ci 2 mX10_takeNumber [.ref 91, .int x, .int y] ad g (fun v g' => NQ c g (sk c p) x y v g') := by
  refine Cm.mk rfl (Nat.le_of_ble_eq_true rfl) (fun K hK hR hm hnn => ?_)
  refine r_aload_n (i := 0) hK dX10_takeNumber_0 rfl rfl ?_
  refine r_ci0 hK hnn (c_mHere hT hp hpo) moX10_here mlX10_146 to_91 rfl rfl dX10_takeNumber_1 (Nat.le_of_ble_eq_true rfl) (Nat.le_of_ble_eq_true rfl) (fun v1 g1 q1 => ?_)
  obtain ⟨hv1, hf⟩ := q1
  have hs := (sk_le hT.1 hp).2
  refine r_top (y := cI (c (sk c p))) hv1 ?_
  refine r_istore_n (i := 3) hK hm dX10_takeNumber_4 rfl (by decide) ?_
  refine r_iload_n (i := 3) hK dX10_takeNumber_5 rfl rfl ?_
  refine r_i2l hK dX10_takeNumber_6 ?_
  refine r_ldc2 hK ckX10_169 dX10_takeNumber_7 ?_
  refine r_ldc2 hK ckX10_171 dX10_takeNumber_10 ?_
  refine r_si3 hK hnn c_mIn moX10_in mlX10_124 dX10_takeNumber_13 (Nat.le_of_ble_eq_true rfl) (Nat.le_of_ble_eq_true rfl) (eqI ?_)
  refine r_top (y := B1 (fg (c (sk c p)))) (congrArg B1 ((inL_b (lI := 48) (hI := 57) rfl rfl).trans (bI_fx (tOk_b hT.1 _)))) ?_
  refine r_if_ne (tgt := 29) hK dX10_takeNumber_16 (by decide) (fun h16 => ?_) (fun h16 => ?_)
  · refine r_aload_n (i := 0) hK dX10_takeNumber_29 rfl rfl ?_
    refine r_aload_n (i := 0) hK dX10_takeNumber_30 rfl rfl ?_
    refine r_getI hK flX10_143 to_91 rfl dX10_takeNumber_31 ?_
    refine r_putI hK flX10_177 ft10_20 to_91 rfl dX10_takeNumber_34 ?_
    refine r_aload_n (i := 0) hK dX10_takeNumber_37 rfl rfl ?_
    refine r_iconst (v := 0) hK dX10_takeNumber_38 (by decide) ?_
    refine r_putI hK flX10_180 ft10_19 to_91 rfl dX10_takeNumber_39 ?_
    have hc := B1_n.mp h16
    refine r_loc ?_ (lm_tn hT hs hc hK hm hnn hR (dl c (sk c p)) 0 (by omega) _ ?_)
    · rfl
    · refine ⟨fun j hj => (upI_n hj).trans ((upI_n hj).trans (hf.1 j hj)), fun k a b d => (upd_n2 b).trans ((upd_n2 d).trans (hf.2.1 k a)), hf.2.2.1, ?_, by rw [upI_s, upd_s]; rfl, ?_⟩
      · exact (upd_n2 (show (16 : Nat) ≠ 19 by decide)).trans ((upd_n2 (show (16 : Nat) ≠ 20 by decide)).trans hf.2.2.2)
      · exact (upd_n2 (show (20 : Nat) ≠ 19 by decide)).trans (by rw [upI_s, upd_s]; exact hf.2.2.2)
  · refine r_aload_n (i := 0) hK dX10_takeNumber_19 rfl rfl ?_
    refine r_iconst (v := 1) hK dX10_takeNumber_20 (by decide) ?_
    refine r_aload_n (i := 0) hK dX10_takeNumber_21 rfl rfl ?_
    refine r_getI hK flX10_143 to_91 rfl dX10_takeNumber_22 ?_
    refine r_ci2 hK hnn c_mFails moX10_fails mlX10_173 to_91 rfl rfl dX10_takeNumber_25 (Nat.le_of_ble_eq_true rfl) (Nat.le_of_ble_eq_true rfl) (eqI ?_)
    refine q_iret hK hR dX10_takeNumber_28 ?_
    exact NQ_1 hf (B1_0.mp h16) hf.2.2.2
