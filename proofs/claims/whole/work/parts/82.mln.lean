/-! THE MODEL: lessons -/
def lnK (X : LN) (p s : Nat) : LN := (X.1, X.2.1, X.2.2.1, X.2.2.2.1, upN X.2.2.2.2.1 p s, X.2.2.2.2.2)
theorem MC_lnK {g : St} {X : LN} (h : MC g X) {p s : Nat} {x : Int32} (hx : x = nI s) (hs : s < 2 ^ 14) : MC (upI g 99 p x) (lnK X p s) := by
  obtain ⟨h1, h2, h3, h4, h5, h6, h7⟩ := h
  refine ⟨h1, ⟨h2.1, fun q hq => ?_⟩, h3, ?_, ?_, ?_, ?_⟩
  · obtain ⟨q1, q2, q3, q4, q5⟩ := h2.2 q hq
    refine ⟨q1, q2, q3, q4, ?_⟩
    show upN _ _ _ _ < _
    by_cases e : q = p
    · rw [e, up_s]; exact hs
    · rw [up_lt e]; exact q5
  · rw [upI_n (by decide)]; exact h4
  · unfold MWC at *
    rw [upI_n (by decide), upI_n (by decide), upI_n (by decide), upI_n (by decide)]; exact h5
  · refine ⟨by rw [upI_n (by decide)]; exact h6.1, fun q hq => ?_⟩
    obtain ⟨r1, r2, r3, r4, r5⟩ := h6.2 q hq
    rw [upI_n (by decide), upI_n (by decide), upI_n (by decide), upI_n (by decide), upI_s]
    refine ⟨r1, r2, r3, r4, ?_⟩
    show upd _ _ _ _ = nI (upN _ _ _ _)
    by_cases e : q = p
    · rw [e, upd_s, up_s]; exact hx
    · rw [upd_e e, up_lt e]; exact r5
  · rw [upI_n (by decide)]; exact h7
theorem vX_lnK {X : LN} {t p s : Nat} : vX (lnK X p s) t false = upV (vX X t false) p (lE X t p s) (lM X t p s) := by
  refine Prod.ext (funext fun q => ?_) (funext fun q => ?_)
  · show vcE X.2.1 (knb (upN X.2.2.2.2.1 p s q)) t (X.2.2.1.2.1 q) (sdF X.2.1 (knb (upN X.2.2.2.2.1 p s q)) t (X.2.2.1.2.1 q) (X.2.2.2.1 q) (X.2.2.1.2.2.1 q)) = if q = p then lE X t p s else vcE X.2.1 (knb (X.2.2.2.2.1 q)) t (X.2.2.1.2.1 q) (sdF X.2.1 (knb (X.2.2.2.2.1 q)) t (X.2.2.1.2.1 q) (X.2.2.2.1 q) (X.2.2.1.2.2.1 q))
    by_cases e : q = p
    · rw [if_pos e, e, up_s]; rfl
    · rw [if_neg e, up_lt e]
  · show rM X.2.1 (knb (upN X.2.2.2.2.1 p s q)) t (X.2.2.1.2.1 q) (sdF X.2.1 (knb (upN X.2.2.2.2.1 p s q)) t (X.2.2.1.2.1 q) (X.2.2.2.1 q) (X.2.2.1.2.2.1 q)) = if q = p then lM X t p s else rM X.2.1 (knb (X.2.2.2.2.1 q)) t (X.2.2.1.2.1 q) (sdF X.2.1 (knb (X.2.2.2.2.1 q)) t (X.2.2.1.2.1 q) (X.2.2.2.1 q) (X.2.2.1.2.2.1 q))
    by_cases e : q = p
    · rw [if_pos e, e, up_s]; rfl
    · rw [if_neg e, up_lt e]
theorem clr_or {s q : Nat} (hs : s < 2 ^ 14) (hq : q < 14) (h : s.testBit q = false) : clrN (s ||| 1 <<< q) q = s := by
  apply Nat.eq_of_testBit_eq
  intro i
  unfold clrN
  rw [Nat.testBit_and, Nat.testBit_xor, Nat.testBit_two_pow_sub_one, Nat.testBit_two_pow, or_bit]
  by_cases h14 : i < 14
  · by_cases e : q = i
    · subst e; simp [h]; omega
    · simp [h14, e]
  · have : s.testBit i = false := Nat.testBit_lt_two_pow (Nat.lt_of_lt_of_le hs (Nat.pow_le_pow_right (by decide) (by omega)))
    have e : ¬ q = i := by omega
    simp [this, h14, e]
theorem clr_lt {s q : Nat} : clrN s q < 2 ^ 14 ∨ q ≥ 14 := by
  by_cases h : q < 14
  · refine Or.inl ?_
    unfold clrN
    refine Nat.lt_of_le_of_lt Nat.and_le_right (Nat.xor_lt_two_pow (by omega) (Nat.pow_lt_pow_right (by decide) h))
  · exact Or.inr (by omega)
theorem inT_b {X : LN} (hok : wOk X.1 X.2.1) (hpo : pOk X.1 X.2.2.1 X.2.2.2.1 X.2.2.2.2.1) {t a d : Nat} (ha : a < 10) (hd : d ≤ 999) : bI (if kM X t a < FR then nI (kM X t a / 16) else -1) 0 (nI d) = inT X.2.2.1 (vX X t false) a t d := by
  have k0 := kX_kM hok hpo t ha
  unfold inT
  by_cases hl : kM X t a < FR
  · have hl2 : kM X t a < 1000000 := hl
    rw [if_pos hl]
    have e1 : kP X.2.2.1 (vX X t false) FC t a = kM X t a := k0.2 hl
    rw [e1, decide_eq_true (show kM X t a < FC from Nat.lt_trans hl (by decide)), Bool.true_and]
    unfold bI
    rw [decide_eq_false (nI_pos (by omega)), Bool.not_false, Bool.true_and, ← decide_not]
    exact decide_eq_decide.mpr ⟨fun z => Nat.le_of_not_lt (fun y => z (nI_lt y (by omega))), fun z => nI_nlt z (by omega)⟩
  · rw [if_neg hl]
    have e1 : ¬ kP X.2.2.1 (vX X t false) FC t a < FC := fun z => hl (k0.1.mp z)
    rw [decide_eq_false e1, Bool.false_and]
    unfold bI
    rw [decide_eq_true (show (-1 : Int32) < 0 by decide)]
    rfl

set_option maxHeartbeats 4000000 in
set_option maxRecDepth 100000 in
theorem c_mIsSoon {ad : Nat → Nat} {g : St} {X : LN} (hX : MC g X) {a t d : Nat} {x y z : Int32} (hx : x = nI a) (ha : a < X.1) (hy : y = nI t) (ht : t < X.1) (hz : z = nI d) (hd : d ≤ 999) : Ci 7 mX10_isSoon [.ref 91, .int x, .int y, .int z] ad g (fun v g' => v = B1 (inT X.2.2.1 (vX X t false) a t d) ∧ FM g g') := by
  subst hz
  obtain ⟨hok, hpo, hlaw, x1, hW, hPs, x4⟩ := id hX
  have h10 := hok.2.1
  have h6 := hpo.1
  have h14 := hok.1
  refine Cm.mk rfl (Nat.le_of_ble_eq_true rfl) (fun K hK hR hm hnn => ?_)
  refine r_aload_n (i := 0) hK dX10_isSoon_0 rfl rfl ?_
  refine r_iload_n (i := 1) hK dX10_isSoon_1 rfl rfl ?_
  refine r_iload_n (i := 2) hK dX10_isSoon_2 rfl rfl ?_
  refine r_ci2 hK hnn (c_mSoonOf hX hx ha hy ht) moX10_soonestOf mlX10_306 to_91 rfl rfl dX10_isSoon_3 (Nat.le_of_ble_eq_true rfl) (Nat.le_of_ble_eq_true rfl) (fun v3 g3 q3 => ?_)
  obtain ⟨hfr, hG, hZ, rfl⟩ := q3
  refine r_i2l hK dX10_isSoon_6 ?_
  refine r_lconst (v := 0) hK dX10_isSoon_7 (by decide) ?_
  refine r_iload_n (i := 3) hK dX10_isSoon_8 rfl rfl ?_
  refine r_i2l hK dX10_isSoon_9 ?_
  refine r_si3 hK hnn c_mIn moX10_in mlX10_124 dX10_isSoon_10 (Nat.le_of_ble_eq_true rfl) (Nat.le_of_ble_eq_true rfl) (eqI ?_)
  refine r_top (y := B1 (inT X.2.2.1 (vX X t false) a t d)) (congrArg B1 ((inL_b (lI := 0) (hI := nI d) rfl rfl).trans (inT_b hok hpo (by omega) hd))) ?_
  refine q_zret hK hR dX10_isSoon_13 (B1_01 _) ?_
  exact ⟨rfl, hfr⟩
set_option maxHeartbeats 4000000 in
set_option maxRecDepth 100000 in
theorem c_mIsOpen {ad : Nat → Nat} {g : St} {X : LN} (hX : MC g X) {k : Nat} {x : Int32} (hx : x = nI k) (hk : k < 84) : Ci 2 mX10_isOpen [.ref 91, .int x] ad g (fun v g' => v = B1 (cbL X k) ∧ g' = g) := by
  subst hx
  obtain ⟨hok, hpo, hlaw, x1, hW, hPs, x4⟩ := id hX
  have h10 := hok.2.1
  have h6 := hpo.1
  have h14 := hok.1
  refine Cm.mk rfl (Nat.le_of_ble_eq_true rfl) (fun K hK hR hm hnn => ?_)
  refine r_iload_n (i := 1) hK dX10_isOpen_0 rfl rfl ?_
  refine r_bipush (v := 14) hK dX10_isOpen_1 (by decide) ?_
  refine r_idiv hK dX10_isOpen_3 (by decide) ?_
  refine r_top (y := nI (k / 14)) (d14 hk) ?_
  refine r_aload_n (i := 0) hK dX10_isOpen_4 rfl rfl ?_
  refine r_getI hK flX10_131 to_91 rfl dX10_isOpen_5 ?_
  refine r_top (y := nI X.2.2.1.1) hPs.1 ?_
  refine r_icmp_ge (tgt := 45) hK dX10_isOpen_8 (by decide) (fun h8 => ?_) (fun h8 => ?_)
  · refine r_iconst (v := 0) hK dX10_isOpen_45 (by decide) ?_
    refine q_zret hK hR dX10_isOpen_46 (by first | exact Or.inl rfl | exact Or.inr rfl | assumption) ?_
    refine ⟨?_, rfl⟩
    unfold cbL
    first
      | (rw [decide_eq_false (nge_of h8 (by omega) : ¬ k / 14 < X.2.2.1.1)]; rfl)
      | (rw [decide_eq_false (nge_of h19 (by omega) : ¬ k % 14 < X.2.1.1)]; simp; done)
      | (rw [B1_n.mp h38]; simp; done)
      | (rw [decide_eq_true (lt_of_ge h8 (by omega)), decide_eq_true (lt_of_ge h19 (by omega)), B1_0.mp h38]; rfl)
  · refine r_iload_n (i := 1) hK dX10_isOpen_11 rfl rfl ?_
    refine r_bipush (v := 14) hK dX10_isOpen_12 (by decide) ?_
    refine r_irem hK dX10_isOpen_14 (by decide) ?_
    refine r_top (y := nI (k % 14)) (m14 hk) ?_
    refine r_aload_n (i := 0) hK dX10_isOpen_15 rfl rfl ?_
    refine r_getI hK flX10_128 to_91 rfl dX10_isOpen_16 ?_
    refine r_top (y := nI X.2.1.1) hW.1 ?_
    refine r_icmp_ge (tgt := 45) hK dX10_isOpen_19 (by decide) (fun h19 => ?_) (fun h19 => ?_)
    · refine r_iconst (v := 0) hK dX10_isOpen_45 (by decide) ?_
      refine q_zret hK hR dX10_isOpen_46 (by first | exact Or.inl rfl | exact Or.inr rfl | assumption) ?_
      refine ⟨?_, rfl⟩
      unfold cbL
      first
        | (rw [decide_eq_false (nge_of h8 (by omega) : ¬ k / 14 < X.2.2.1.1)]; rfl)
        | (rw [decide_eq_false (nge_of h19 (by omega) : ¬ k % 14 < X.2.1.1)]; simp; done)
        | (rw [B1_n.mp h38]; simp; done)
        | (rw [decide_eq_true (lt_of_ge h8 (by omega)), decide_eq_true (lt_of_ge h19 (by omega)), B1_0.mp h38]; rfl)
    · refine r_aload_n (i := 0) hK dX10_isOpen_22 rfl rfl ?_
      have hpk : k / 14 < X.2.2.1.1 := lt_of_ge h8 (by omega)
      have hkn := (hpo.2 _ hpk).2.2.2.2
      refine r_getA hK flX10_31 to_91 rfl dX10_isOpen_23 ?_
      refine r_iload_n (i := 1) hK dX10_isOpen_26 rfl rfl ?_
      refine r_bipush (v := 14) hK dX10_isOpen_27 (by decide) ?_
      refine r_idiv hK dX10_isOpen_29 (by decide) ?_
      refine r_top (y := nI (k / 14)) (d14 hk) ?_
      refine r_ialN hK to_99 rfl (by omega) (by decide) (hPs.2 _ hpk).2.2.2.2 dX10_isOpen_30 ?_
      refine r_iload_n (i := 1) hK dX10_isOpen_31 rfl rfl ?_
      refine r_bipush (v := 14) hK dX10_isOpen_32 (by decide) ?_
      refine r_irem hK dX10_isOpen_34 (by decide) ?_
      refine r_top (y := nI (k % 14)) (m14 hk) ?_
      refine r_si2 hK hnn (c_mHas rfl (Nat.lt_trans hkn (by decide)) rfl (by omega)) moX10_has mlX10_210 dX10_isOpen_35 (Nat.le_of_ble_eq_true rfl) (Nat.le_of_ble_eq_true rfl) (eqI ?_)
      refine r_if_ne (tgt := 45) hK dX10_isOpen_38 (by decide) (fun h38 => ?_) (fun h38 => ?_)
      · refine r_iconst (v := 0) hK dX10_isOpen_45 (by decide) ?_
        refine q_zret hK hR dX10_isOpen_46 (by first | exact Or.inl rfl | exact Or.inr rfl | assumption) ?_
        refine ⟨?_, rfl⟩
        unfold cbL
        first
          | (rw [decide_eq_false (nge_of h8 (by omega) : ¬ k / 14 < X.2.2.1.1)]; rfl)
          | (rw [decide_eq_false (nge_of h19 (by omega) : ¬ k % 14 < X.2.1.1)]; simp; done)
          | (rw [B1_n.mp h38]; simp; done)
          | (rw [decide_eq_true (lt_of_ge h8 (by omega)), decide_eq_true (lt_of_ge h19 (by omega)), B1_0.mp h38]; rfl)
      · refine r_iconst (v := 1) hK dX10_isOpen_41 (by decide) ?_
        refine r_goto (tgt := 46) hK dX10_isOpen_42 (by decide) ?_
        refine q_zret hK hR dX10_isOpen_46 (by first | exact Or.inl rfl | exact Or.inr rfl | assumption) ?_
        refine ⟨?_, rfl⟩
        unfold cbL
        first
          | (rw [decide_eq_false (nge_of h8 (by omega) : ¬ k / 14 < X.2.2.1.1)]; rfl)
          | (rw [decide_eq_false (nge_of h19 (by omega) : ¬ k % 14 < X.2.1.1)]; simp; done)
          | (rw [B1_n.mp h38]; simp; done)
          | (rw [decide_eq_true (lt_of_ge h8 (by omega)), decide_eq_true (lt_of_ge h19 (by omega)), B1_0.mp h38]; rfl)
set_option maxHeartbeats 4000000 in
set_option maxRecDepth 100000 in
theorem c_mTeach1 {ad : Nat → Nat} {g : St} {X : LN} (hX : MC g X) {k : Nat} {x : Int32} (hx : x = nI k) (hk : k < 84) (hpk : k / 14 < X.2.2.1.1) : Cv 1 mX10_teach [.ref 91, .int x, .int 1] ad g (fun g' => g' = upI g 99 (k / 14) (nI (kL X k))) := by
  subst hx
  obtain ⟨hok, hpo, hlaw, x1, hW, hPs, x4⟩ := id hX
  have h10 := hok.2.1
  have h6 := hpo.1
  have h14 := hok.1
  have hkn := (hpo.2 _ hpk).2.2.2.2
  refine Cm.mk rfl (Nat.le_of_ble_eq_true rfl) (fun K hK hR hm hnn => ?_)
  refine r_iconst (v := 1) hK dX10_teach_0 (by decide) ?_
  refine r_iload_n (i := 1) hK dX10_teach_1 rfl rfl ?_
  refine r_bipush (v := 14) hK dX10_teach_2 (by decide) ?_
  refine r_irem hK dX10_teach_4 (by decide) ?_
  refine r_top (y := nI (k % 14)) (m14 hk) ?_
  refine r_ishl hK dX10_teach_5 ?_
  refine r_istore_n (i := 3) hK hm dX10_teach_6 rfl (by decide) ?_
  refine r_aload_n (i := 0) hK dX10_teach_7 rfl rfl ?_
  refine r_getA hK flX10_31 to_91 rfl dX10_teach_8 ?_
  refine r_iload_n (i := 1) hK dX10_teach_11 rfl rfl ?_
  refine r_bipush (v := 14) hK dX10_teach_12 (by decide) ?_
  refine r_idiv hK dX10_teach_14 (by decide) ?_
  refine r_top (y := nI (k / 14)) (d14 hk) ?_
  refine r_iload_n (i := 2) hK dX10_teach_15 rfl rfl ?_
  refine r_if_eq (tgt := 33) hK dX10_teach_16 (by decide) (fun h => absurd h (by decide)) (fun _ => ?_)
  refine r_aload_n (i := 0) hK dX10_teach_19 rfl rfl ?_
  refine r_getA hK flX10_31 to_91 rfl dX10_teach_20 ?_
  refine r_iload_n (i := 1) hK dX10_teach_23 rfl rfl ?_
  refine r_bipush (v := 14) hK dX10_teach_24 (by decide) ?_
  refine r_idiv hK dX10_teach_26 (by decide) ?_
  refine r_top (y := nI (k / 14)) (d14 hk) ?_
  refine r_ialN hK to_99 rfl (by omega) (by decide) (hPs.2 _ hpk).2.2.2.2 dX10_teach_27 ?_
  refine r_iload_n (i := 3) hK dX10_teach_28 rfl rfl ?_
  refine r_ior hK dX10_teach_29 ?_
  refine r_top (y := nI (kL X k)) (setbit (by omega)) ?_
  refine r_goto (tgt := 46) hK dX10_teach_30 (by decide) ?_
  refine r_iasN hK to_99 rfl (by omega) (by decide) dX10_teach_46 ?_
  refine q_vret hK hR dX10_teach_47 ?_
  rfl
set_option maxHeartbeats 4000000 in
set_option maxRecDepth 100000 in
theorem c_mTeach0 {ad : Nat → Nat} {g : St} {X : LN} (hX : MC g X) {k : Nat} {x : Int32} (hx : x = nI k) (hk : k < 84) (hpk : k / 14 < X.2.2.1.1) : Cv 1 mX10_teach [.ref 91, .int x, .int 0] ad g (fun g' => g' = upI g 99 (k / 14) (nI (clrN (X.2.2.2.2.1 (k / 14)) (k % 14)))) := by
  subst hx
  obtain ⟨hok, hpo, hlaw, x1, hW, hPs, x4⟩ := id hX
  have h10 := hok.2.1
  have h6 := hpo.1
  have h14 := hok.1
  have hkn := (hpo.2 _ hpk).2.2.2.2
  refine Cm.mk rfl (Nat.le_of_ble_eq_true rfl) (fun K hK hR hm hnn => ?_)
  refine r_iconst (v := 1) hK dX10_teach_0 (by decide) ?_
  refine r_iload_n (i := 1) hK dX10_teach_1 rfl rfl ?_
  refine r_bipush (v := 14) hK dX10_teach_2 (by decide) ?_
  refine r_irem hK dX10_teach_4 (by decide) ?_
  refine r_top (y := nI (k % 14)) (m14 hk) ?_
  refine r_ishl hK dX10_teach_5 ?_
  refine r_istore_n (i := 3) hK hm dX10_teach_6 rfl (by decide) ?_
  refine r_aload_n (i := 0) hK dX10_teach_7 rfl rfl ?_
  refine r_getA hK flX10_31 to_91 rfl dX10_teach_8 ?_
  refine r_iload_n (i := 1) hK dX10_teach_11 rfl rfl ?_
  refine r_bipush (v := 14) hK dX10_teach_12 (by decide) ?_
  refine r_idiv hK dX10_teach_14 (by decide) ?_
  refine r_top (y := nI (k / 14)) (d14 hk) ?_
  refine r_iload_n (i := 2) hK dX10_teach_15 rfl rfl ?_
  refine r_if_eq (tgt := 33) hK dX10_teach_16 (by decide) (fun _ => ?_) (fun h => absurd rfl h)
  refine r_aload_n (i := 0) hK dX10_teach_33 rfl rfl ?_
  refine r_getA hK flX10_31 to_91 rfl dX10_teach_34 ?_
  refine r_iload_n (i := 1) hK dX10_teach_37 rfl rfl ?_
  refine r_bipush (v := 14) hK dX10_teach_38 (by decide) ?_
  refine r_idiv hK dX10_teach_40 (by decide) ?_
  refine r_top (y := nI (k / 14)) (d14 hk) ?_
  refine r_ialN hK to_99 rfl (by omega) (by decide) (hPs.2 _ hpk).2.2.2.2 dX10_teach_41 ?_
  refine r_iload_n (i := 3) hK dX10_teach_42 rfl rfl ?_
  refine r_iconst (v := (-1)) hK dX10_teach_43 (by decide) ?_
  refine r_ixor hK dX10_teach_44 ?_
  refine r_iand hK dX10_teach_45 ?_
  refine r_top (y := nI (clrN (X.2.2.2.2.1 (k / 14)) (k % 14))) (clr_nI hkn (by omega)) ?_
  refine r_iasN hK to_99 rfl (by omega) (by decide) dX10_teach_46 ?_
  refine q_vret hK hR dX10_teach_47 ?_
  rfl
/-! nobody leads faster than far -/
def WVk (X : LN) (t : Nat) (V : VT) : Prop := ∀ p, p < X.2.2.1.1 → V.1 p < 10 → ∃ (kn : Nat → Bool) (s : Nat), s ≤ rn0 X.2.1 kn t (X.2.2.1.2.1 p) ∧ V.1 p = rP X.2.1 kn t (X.2.2.1.2.1 p) s ∧ V.2 p = rM X.2.1 kn t (X.2.2.1.2.1 p) s
theorem WVk_vX {X : LN} (t : Nat) : WVk X t (vX X t false) := fun p hp hv => by
  refine ⟨knb (X.2.2.2.2.1 p), saS X.2.1 X.2.2.1 X.2.2.2.1 X.2.2.2.2.1 t p, sdF_le, ?_, rfl⟩
  have e : (vX X t false).1 p = vcE X.2.1 (knb (X.2.2.2.2.1 p)) t (X.2.2.1.2.1 p) (saS X.2.1 X.2.2.1 X.2.2.2.1 X.2.2.2.2.1 t p) := rfl
  rw [e] at hv ⊢
  unfold vcE at hv ⊢
  split
  · rename_i h; rw [if_pos h] at hv; omega
  · rfl
theorem allK_t {D : WD} {w : Nat} (h : w < D.1) : allK D w = true := by
  show (2 ^ D.1 - 1).testBit w = true
  rw [Nat.testBit_two_pow_sub_one, decide_eq_true h]
theorem far_st {X : LN} (hok : wOk X.1 X.2.1) {t w x y : Nat} (hw : w < X.2.1.1) (he : oE X.2.1 w x = y) (hy : y < 10) (hf : kW X.2.1 (allK X.2.1) t y < 1000000) : kW X.2.1 (allK X.2.1) t x ≤ kW X.2.1 (allK X.2.1) t y + (16 * X.2.1.2.2.2 w + 1) := by
  have hE := wE_ok hok (allK X.2.1)
  have ac := wE_ac (D := X.2.1) (kn := allK X.2.1) hw
  unfold oE at he
  split at he
  · rename_i h1
    have h := sp_K_fix (F := FR) (t := t) hE (j := 2 * w) (show 2 * w < 2 * X.2.1.1 by omega) (ac.1.trans (allK_t hw))
    obtain ⟨e1, e2, e3⟩ := wE_e0 (D := X.2.1) (kn := allK X.2.1) (w := w)
    rw [e1, e2, e3, h1, he] at h
    exact h
  · split at he
    · rename_i h1
      have h := sp_K_fix (F := FR) (t := t) hE (j := 2 * w + 1) (show 2 * w + 1 < 2 * X.2.1.1 by omega) (ac.2.trans (allK_t hw))
      obtain ⟨e1, e2, e3⟩ := wE_e1 (D := X.2.1) (kn := allK X.2.1) (w := w)
      rw [e1, e2, e3, h1, he] at h
      exact h
    · omega
theorem far_m {X : LN} (hok : wOk X.1 X.2.1) {t a : Nat} (ha : a < X.1) (hl : kW X.2.1 (allK X.2.1) t a < 1000000) : kW X.2.1 (allK X.2.1) t a % 16 ≤ 9 ∧ kW X.2.1 (allK X.2.1) t a ≤ 14265 ∧ rM X.2.1 (allK X.2.1) t a (rN X.2.1 (allK X.2.1) t a) = kW X.2.1 (allK X.2.1) t a / 16 := by
  have h1 := rN_key hok ha (show hasR X.2.1 (allK X.2.1) t a from hl)
  have h2 := (rN_go hok ha (show hasR X.2.1 (allK X.2.1) t a from hl)).1
  have h3 := sp_K_small (F := FR) (wE_ok hok (allK X.2.1)) (show a < 10 by have := hok.2.1; omega) (show sp_K (wE X.2.1 (allK X.2.1)) FR t a < FR from hl)
  have h4 : kW X.2.1 (allK X.2.1) t a ≤ 1585 * 9 := h3
  refine ⟨by omega, by omega, by omega⟩
theorem far_rt {X : LN} (hok : wOk X.1 X.2.1) {kn : Nat → Bool} {t a : Nat} (ha : a < X.1) (hl : kW X.2.1 kn t a < FR) : ∀ s, s ≤ rN X.2.1 kn t a → kW X.2.1 (allK X.2.1) t (rP X.2.1 kn t a s) < 1000000 → kW X.2.1 (allK X.2.1) t a < 1000000 ∧ kW X.2.1 (allK X.2.1) t a / 16 ≤ kW X.2.1 (allK X.2.1) t (rP X.2.1 kn t a s) / 16 + rM X.2.1 kn t a s := by
  have h10 := hok.2.1
  obtain ⟨g1, g2, g3, g4⟩ := rN_go hok ha hl
  intro s
  induction s with
  | zero => intro _ hf; exact ⟨hf, Nat.le_add_right _ _⟩
  | succ s ih =>
    intro hs hf
    obtain ⟨p1, p2⟩ := g4 s (by omega)
    obtain ⟨q1, q2⟩ := g4 (s + 1) hs
    have hnt := g3 s (by omega)
    have hlt : kW X.2.1 kn t (rP X.2.1 kn t a s) < FR := by have : kW X.2.1 kn t a < 1000000 := hl; show _ < 1000000; omega
    obtain ⟨n1, n2, n3, n4, n5⟩ := kW_next hok hnt hlt
    have hnx : rP X.2.1 kn t a (s + 1) = (nX X.2.1 kn (kW X.2.1 kn t) (rP X.2.1 kn t a s) X.2.1.1).1 := by
      show (rO X.2.1 kn (kW X.2.1 kn t) t a (s + 1)).1 = _
      rw [rO_succ, if_neg (show ¬ (rO X.2.1 kn (kW X.2.1 kn t) t a s).1 = t from hnt)]
      rfl
    have hmx : rM X.2.1 kn t a (s + 1) = rM X.2.1 kn t a s + X.2.1.2.2.2 (nX X.2.1 kn (kW X.2.1 kn t) (rP X.2.1 kn t a s) X.2.1.1).2 := by
      show (rO X.2.1 kn (kW X.2.1 kn t) t a (s + 1)).2 = _
      rw [rO_succ, if_neg (show ¬ (rO X.2.1 kn (kW X.2.1 kn t) t a s).1 = t from hnt)]
      rfl
    have hst := far_st hok (t := t) n2 (n4.trans hnx.symm) (by omega) hf
    obtain ⟨m1, m2, -⟩ := far_m hok q1 hf
    have hw9 := (hok.2.2 _ n2).2.2.2.2
    have hfs : kW X.2.1 (allK X.2.1) t (rP X.2.1 kn t a s) < 1000000 := by omega
    obtain ⟨i1, i2⟩ := ih (by omega) hfs
    refine ⟨i1, ?_⟩
    rw [hmx]
    omega
theorem far_inT {X : LN} (hok : wOk X.1 X.2.1) {V : VT} (hV : vOk X.1 X.2.2.1 V) {t : Nat} (hWk : WVk X t V) : ∀ n a, a < X.1 → kP X.2.2.1 V FC t a < n → kP X.2.2.1 V FC t a < FC → kW X.2.1 (allK X.2.1) t a < 1000000 ∧ 16 * (kW X.2.1 (allK X.2.1) t a / 16) ≤ kP X.2.2.1 V FC t a := by
  intro n
  induction n with
  | zero => intro a _ h _; exact absurd h (Nat.not_lt_zero _)
  | succ n ih =>
    intro a ha hn hl
    by_cases e : a = t
    · have h0 : kW X.2.1 (allK X.2.1) t a = 0 := by rw [e]; exact sp_K_t
      rw [h0]
      exact ⟨by decide, Nat.zero_le _⟩
    · obtain ⟨p, p1, p2, p3, p4⟩ := kP_tight hV e hl
      have hvn := (hV.2.2 p p1).2.1 p2
      have hl1 : kP X.2.2.1 V FC t a < 1000000000 := hl
      obtain ⟨i1, i2⟩ := ih (V.1 p) hvn (by omega) (show kP X.2.2.1 V FC t (V.1 p) < 1000000000 by omega)
      obtain ⟨kn, s, s1, s2, s3⟩ := hWk p p1 p2
      rw [p3] at s1 s2 s3
      rw [s2] at i1 i2 p4
      rw [s3] at p4
      unfold rn0 at s1
      by_cases hr : kW X.2.1 kn t a < FR
      · rw [if_pos hr] at s1
        obtain ⟨r1, r2⟩ := far_rt hok ha hr s s1 i1
        exact ⟨r1, by omega⟩
      · rw [if_neg hr] at s1
        have hs0 : s = 0 := by omega
        subst hs0
        rw [rP_0] at i1 i2 p4
        exact ⟨i1, by omega⟩
/-- in time: then far isn't too long -/
theorem inT_far {X : LN} (hok : wOk X.1 X.2.1) {V : VT} (hV : vOk X.1 X.2.2.1 V) {t a d : Nat} (hWk : WVk X t V) (ha : a < X.1) (hd : d ≤ 999) (h : inT X.2.2.1 V a t d = true) : ¬ (farV X a t = -1 ∨ nI d < farV X a t) := by
  unfold inT at h
  simp only [Bool.and_eq_true, decide_eq_true_eq] at h
  obtain ⟨f1, f2⟩ := far_inT hok hV hWk (kP X.2.2.1 V FC t a + 1) a ha (Nat.lt_succ_self _) h.1
  obtain ⟨m1, m2, m3⟩ := far_m hok ha f1
  have e : farV X a t = nI (kW X.2.1 (allK X.2.1) t a / 16) := by
    unfold farV
    rw [if_pos (show kW X.2.1 (allK X.2.1) t a < FR from f1), m3]
  rw [e]
  intro z
  rcases z with z | z
  · exact nI_m1 (by omega) z
  · have := lt_of_I z (by omega)
    have := h.2
    omega
