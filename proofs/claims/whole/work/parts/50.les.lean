/-! LESSONS, small -/
theorem isB_nI {j n : Nat} (hj : j < 2 ^ 31) (hn : n < 2 ^ 31) : isB (nI j) n = decide (j < n) := by
  unfold isB
  rw [decide_eq_false (nI_pos hj)]
  by_cases h : j < n
  · rw [decide_eq_true h, decide_eq_true (nI_lt h hn)]; rfl
  · rw [decide_eq_false h, decide_eq_false (fun z => h ((nI_ltI hj hn).mp z))]; rfl
theorem d14 {k : Nat} (hk : k < 84) : nI k / 14 = nI (k / 14) := by rw [show (14 : Int32) = nI 14 from rfl, pk_div (by omega) (by decide) (by decide)]
theorem m14 {k : Nat} (hk : k < 84) : nI k - nI k / 14 * 14 = nI (k % 14) := by rw [show (14 : Int32) = nI 14 from rfl, pk_rem (by omega) (by decide) (by decide)]
def cbL (X : LN) (k : Nat) : Bool := decide (k / 14 < X.2.2.1.1) && (decide (k % 14 < X.2.1.1) && !(X.2.2.2.2.1 (k / 14)).testBit (k % 14))
def inT (P : PD) (V : VT) (a t d : Nat) : Bool := decide (kP P V FC t a < FC) && decide (kP P V FC t a / 16 ≤ d)
def cgN (g : St) (k : Nat) : Bool := decide (g.1 72 k = g.1 74 (k / 14)) && decide (g.1 73 k = g.1 75 (k / 14))
def lnA (c : Int32) (f s : Nat) (x : Int32) : Int32 := if x = 0 then c else if x = 1 then (if 1 ≤ c then nI (f / 14) else -1) else if x = 2 then (if 1 ≤ c then nI (f % 14) else -1) else if x = 3 then (if 2 ≤ c then nI (s / 14) else -1) else (if 2 ≤ c then nI (s % 14) else -1)

set_option maxHeartbeats 4000000 in
set_option maxRecDepth 100000 in
theorem c_canBeLearnt {ad : Nat → Nat} {g : St} {X : LN} (hX : LC g X) {k : Nat} {x : Int32} (hx : x = nI k) (hk : k < 84) : Ci 2 mX5_canBeLearnt [.ref 67, .int x] ad g (fun v g' => v = B1 (cbL X k) ∧ g' = g) := by
  subst hx
  obtain ⟨hok, hpo, hlaw, x1, hW, hPs, x4⟩ := id hX
  have h10 := hok.2.1
  have h6 := hpo.1
  have h14 := hok.1
  refine Cm.mk rfl (Nat.le_of_ble_eq_true rfl) (fun K hK hR hm hnn => ?_)
  refine r_iload_n (i := 1) hK dX5_canBeLearnt_0 rfl rfl ?_
  refine r_bipush (v := 14) hK dX5_canBeLearnt_1 (by decide) ?_
  refine r_idiv hK dX5_canBeLearnt_3 (by decide) ?_
  refine r_top (y := nI (k / 14)) (d14 hk) ?_
  refine r_istore_n (i := 2) hK hm dX5_canBeLearnt_4 rfl (by decide) ?_
  refine r_iload_n (i := 1) hK dX5_canBeLearnt_5 rfl rfl ?_
  refine r_bipush (v := 14) hK dX5_canBeLearnt_6 (by decide) ?_
  refine r_irem hK dX5_canBeLearnt_8 (by decide) ?_
  refine r_top (y := nI (k % 14)) (m14 hk) ?_
  refine r_istore_n (i := 3) hK hm dX5_canBeLearnt_9 rfl (by decide) ?_
  refine r_aload_n (i := 0) hK dX5_canBeLearnt_10 rfl rfl ?_
  refine r_getA hK flX5_24 to_67 rfl dX5_canBeLearnt_11 ?_
  refine r_iload_n (i := 2) hK dX5_canBeLearnt_14 rfl rfl ?_
  refine r_ci1 hK hnn (c_hasPerson lp_13 hPs.1) moX4_hasPerson mlX5_102 to_13 rfl rfl dX5_canBeLearnt_15 (Nat.le_of_ble_eq_true rfl) (Nat.le_of_ble_eq_true rfl) (eqI ?_)
  refine r_if_eq (tgt := 54) hK dX5_canBeLearnt_18 (by decide) (fun h18 => ?_) (fun h18 => ?_)
  · refine r_iconst (v := 0) hK dX5_canBeLearnt_54 (by decide) ?_
    refine q_zret hK hR dX5_canBeLearnt_55 (by first | exact Or.inl rfl | exact Or.inr rfl | assumption) ?_
    refine ⟨?_, rfl⟩
    unfold cbL
    first
      | (rw [B1_0, isB_nI (by omega) (by omega)] at h18; rw [h18]; rfl)
      | (rw [B1_0, isB_nI (by omega) (by omega)] at h29; rw [h29]; simp; done)
      | (rw [B1_n, isB_nI (by omega) (by omega)] at h18 h29; rw [h18, h29]; by_cases z : (X.2.2.2.2.1 (k / 14)).testBit (k % 14) = true; (rw [z]; rfl); (rw [if_neg z] at h47; exact absurd rfl h47))
      | (rw [B1_n, isB_nI (by omega) (by omega)] at h18 h29; rw [h18, h29]; by_cases z : (X.2.2.2.2.1 (k / 14)).testBit (k % 14) = true; (rw [if_pos z] at h47; exact absurd h47 (by decide)); (rw [Bool.not_eq_true] at z; rw [z]; rfl))
  · refine r_aload_n (i := 0) hK dX5_canBeLearnt_21 rfl rfl ?_
    refine r_getA hK flX5_24 to_67 rfl dX5_canBeLearnt_22 ?_
    refine r_iload_n (i := 3) hK dX5_canBeLearnt_25 rfl rfl ?_
    refine r_ci1 hK hnn (c_hasWay lp_13 hW.1) moX4_hasWay mlX5_105 to_13 rfl rfl dX5_canBeLearnt_26 (Nat.le_of_ble_eq_true rfl) (Nat.le_of_ble_eq_true rfl) (eqI ?_)
    refine r_if_eq (tgt := 54) hK dX5_canBeLearnt_29 (by decide) (fun h29 => ?_) (fun h29 => ?_)
    · refine r_iconst (v := 0) hK dX5_canBeLearnt_54 (by decide) ?_
      refine q_zret hK hR dX5_canBeLearnt_55 (by first | exact Or.inl rfl | exact Or.inr rfl | assumption) ?_
      refine ⟨?_, rfl⟩
      unfold cbL
      first
        | (rw [B1_0, isB_nI (by omega) (by omega)] at h18; rw [h18]; rfl)
        | (rw [B1_0, isB_nI (by omega) (by omega)] at h29; rw [h29]; simp; done)
        | (rw [B1_n, isB_nI (by omega) (by omega)] at h18 h29; rw [h18, h29]; by_cases z : (X.2.2.2.2.1 (k / 14)).testBit (k % 14) = true; (rw [z]; rfl); (rw [if_neg z] at h47; exact absurd rfl h47))
        | (rw [B1_n, isB_nI (by omega) (by omega)] at h18 h29; rw [h18, h29]; by_cases z : (X.2.2.2.2.1 (k / 14)).testBit (k % 14) = true; (rw [if_pos z] at h47; exact absurd h47 (by decide)); (rw [Bool.not_eq_true] at z; rw [z]; rfl))
    · refine r_aload_n (i := 0) hK dX5_canBeLearnt_32 rfl rfl ?_
      have hpk : k / 14 < X.2.2.1.1 := by rw [B1_n, isB_nI (by omega) (by omega)] at h18; exact of_decide_eq_true h18
      have hkn := (hpo.2 _ hpk).2.2.2.2
      refine r_getA hK flX5_24 to_67 rfl dX5_canBeLearnt_33 ?_
      refine r_getA hK flX5_65 to_13 rfl dX5_canBeLearnt_36 ?_
      refine r_iload_n (i := 2) hK dX5_canBeLearnt_39 rfl rfl ?_
      refine r_si2 hK hnn (c_atE to_21 (by decide) rfl (by omega) (hPs.2 _ hpk).2.2.2.2) moX9_at mlX5_70 dX5_canBeLearnt_40 (Nat.le_of_ble_eq_true rfl) (Nat.le_of_ble_eq_true rfl) (eqI ?_)
      refine r_iload_n (i := 3) hK dX5_canBeLearnt_43 rfl rfl ?_
      refine r_ishr hK dX5_canBeLearnt_44 ?_
      refine r_iconst (v := 1) hK dX5_canBeLearnt_45 (by decide) ?_
      refine r_iand hK dX5_canBeLearnt_46 ?_
      refine r_top (tb_if (k := X.2.2.2.2.1 (k / 14)) (w := k % 14) (by omega) (by omega)) ?_
      refine r_if_ne (tgt := 54) hK dX5_canBeLearnt_47 (by decide) (fun h47 => ?_) (fun h47 => ?_)
      · refine r_iconst (v := 0) hK dX5_canBeLearnt_54 (by decide) ?_
        refine q_zret hK hR dX5_canBeLearnt_55 (by first | exact Or.inl rfl | exact Or.inr rfl | assumption) ?_
        refine ⟨?_, rfl⟩
        unfold cbL
        first
          | (rw [B1_0, isB_nI (by omega) (by omega)] at h18; rw [h18]; rfl)
          | (rw [B1_0, isB_nI (by omega) (by omega)] at h29; rw [h29]; simp; done)
          | (rw [B1_n, isB_nI (by omega) (by omega)] at h18 h29; rw [h18, h29]; by_cases z : (X.2.2.2.2.1 (k / 14)).testBit (k % 14) = true; (rw [z]; rfl); (rw [if_neg z] at h47; exact absurd rfl h47))
          | (rw [B1_n, isB_nI (by omega) (by omega)] at h18 h29; rw [h18, h29]; by_cases z : (X.2.2.2.2.1 (k / 14)).testBit (k % 14) = true; (rw [if_pos z] at h47; exact absurd h47 (by decide)); (rw [Bool.not_eq_true] at z; rw [z]; rfl))
      · refine r_iconst (v := 1) hK dX5_canBeLearnt_50 (by decide) ?_
        refine r_goto (tgt := 55) hK dX5_canBeLearnt_51 (by decide) ?_
        refine q_zret hK hR dX5_canBeLearnt_55 (by first | exact Or.inl rfl | exact Or.inr rfl | assumption) ?_
        refine ⟨?_, rfl⟩
        unfold cbL
        first
          | (rw [B1_0, isB_nI (by omega) (by omega)] at h18; rw [h18]; rfl)
          | (rw [B1_0, isB_nI (by omega) (by omega)] at h29; rw [h29]; simp; done)
          | (rw [B1_n, isB_nI (by omega) (by omega)] at h18 h29; rw [h18, h29]; by_cases z : (X.2.2.2.2.1 (k / 14)).testBit (k % 14) = true; (rw [z]; rfl); (rw [if_neg z] at h47; exact absurd rfl h47))
          | (rw [B1_n, isB_nI (by omega) (by omega)] at h18 h29; rw [h18, h29]; by_cases z : (X.2.2.2.2.1 (k / 14)).testBit (k % 14) = true; (rw [if_pos z] at h47; exact absurd h47 (by decide)); (rw [Bool.not_eq_true] at z; rw [z]; rfl))
set_option maxHeartbeats 4000000 in
set_option maxRecDepth 100000 in
theorem c_isInTime {ad : Nat → Nat} {g : St} {np : Nat} {P : PD} {V : VT} {a t d : Nat} (hs : GsC g 68 np P V) (ha : a < 10) (ht : t < 10) (hd : d ≤ 999) (h6 : g.1 67 6 = nI a) (h7 : g.1 67 7 = nI t) (h8 : g.1 67 8 = nI d) : Ci 4 mX5_isInTime [.ref 67] ad g (fun v g' => v = B1 (inT P V a t d) ∧ ∃ f, g' = upR g 71 f) := by
  refine Cm.mk rfl (Nat.le_of_ble_eq_true rfl) (fun K hK hR hm hnn => ?_)
  refine r_aload_n (i := 0) hK dX5_isInTime_0 rfl rfl ?_
  refine r_getA hK flX5_28 to_67 rfl dX5_isInTime_1 ?_
  refine r_aload_n (i := 0) hK dX5_isInTime_4 rfl rfl ?_
  refine r_getI hK flX5_32 to_67 rfl dX5_isInTime_5 ?_
  refine r_aload_n (i := 0) hK dX5_isInTime_8 rfl rfl ?_
  refine r_getI hK flX5_36 to_67 rfl dX5_isInTime_9 ?_
  refine r_ci2 hK hnn (c_fewX gp_68 hs h6 ha h7 ht) moX1_fewestMinutes mlX5_108 to_68 rfl rfl dX5_isInTime_12 (Nat.le_of_ble_eq_true rfl) (Nat.le_of_ble_eq_true rfl) (fun v12 g12 q12 => ?_)
  obtain ⟨f, rfl, hf, rfl⟩ := q12
  refine r_istore_n (i := 1) hK hm dX5_isInTime_15 rfl (by decide) ?_
  refine r_iload_n (i := 1) hK dX5_isInTime_16 rfl rfl ?_
  refine r_iconst (v := (-1)) hK dX5_isInTime_17 (by decide) ?_
  refine r_icmp_eq (tgt := 33) hK dX5_isInTime_18 (by decide) (fun h18 => ?_) (fun h18 => ?_)
  · refine r_iconst (v := 0) hK dX5_isInTime_33 (by decide) ?_
    refine q_zret hK hR dX5_isInTime_34 (by first | exact Or.inl rfl | exact Or.inr rfl | assumption) ?_
    refine ⟨?_, f, rfl⟩
    unfold inT
    by_cases hl : kP P V FC t a < FC
    · have hl2 : kP P V FC t a < 1000000000 := hl
      rw [if_pos hl] at h18
      simp only [if_pos hl] at *
      rw [decide_eq_true hl]
      first
        | (exact absurd h18 (nI_m1 (by omega)))
        | (rw [decide_eq_true ((nI_leI (by omega) (by omega)).mp (Int32.not_lt.mp h26))]; rfl)
        | (rw [decide_eq_false (fun z => absurd (nI_le z (by omega)) (Int32.not_le.mpr h26))]; rfl)
    · rw [if_neg hl] at h18
      rw [decide_eq_false hl]
      first
        | rfl
        | exact absurd rfl h18
  · refine r_iload_n (i := 1) hK dX5_isInTime_21 rfl rfl ?_
    refine r_aload_n (i := 0) hK dX5_isInTime_22 rfl rfl ?_
    refine r_getI hK flX5_39 to_67 rfl dX5_isInTime_23 ?_
    refine r_top (y := nI d) ((congrFun (upR_n (by decide)) _).trans h8) ?_
    refine r_icmp_gt (tgt := 33) hK dX5_isInTime_26 (by decide) (fun h26 => ?_) (fun h26 => ?_)
    · refine r_iconst (v := 0) hK dX5_isInTime_33 (by decide) ?_
      refine q_zret hK hR dX5_isInTime_34 (by first | exact Or.inl rfl | exact Or.inr rfl | assumption) ?_
      refine ⟨?_, f, rfl⟩
      unfold inT
      by_cases hl : kP P V FC t a < FC
      · have hl2 : kP P V FC t a < 1000000000 := hl
        rw [if_pos hl] at h18
        simp only [if_pos hl] at *
        rw [decide_eq_true hl]
        first
          | (exact absurd h18 (nI_m1 (by omega)))
          | (rw [decide_eq_true ((nI_leI (by omega) (by omega)).mp (Int32.not_lt.mp h26))]; rfl)
          | (rw [decide_eq_false (fun z => absurd (nI_le z (by omega)) (Int32.not_le.mpr h26))]; rfl)
      · rw [if_neg hl] at h18
        rw [decide_eq_false hl]
        first
          | rfl
          | exact absurd rfl h18
    · refine r_iconst (v := 1) hK dX5_isInTime_29 (by decide) ?_
      refine r_goto (tgt := 34) hK dX5_isInTime_30 (by decide) ?_
      refine q_zret hK hR dX5_isInTime_34 (by first | exact Or.inl rfl | exact Or.inr rfl | assumption) ?_
      refine ⟨?_, f, rfl⟩
      unfold inT
      by_cases hl : kP P V FC t a < FC
      · have hl2 : kP P V FC t a < 1000000000 := hl
        rw [if_pos hl] at h18
        simp only [if_pos hl] at *
        rw [decide_eq_true hl]
        first
          | (exact absurd h18 (nI_m1 (by omega)))
          | (rw [decide_eq_true ((nI_leI (by omega) (by omega)).mp (Int32.not_lt.mp h26))]; rfl)
          | (rw [decide_eq_false (fun z => absurd (nI_le z (by omega)) (Int32.not_le.mpr h26))]; rfl)
      · rw [if_neg hl] at h18
        rw [decide_eq_false hl]
        first
          | rfl
          | exact absurd rfl h18
set_option maxHeartbeats 4000000 in
set_option maxRecDepth 100000 in
theorem c_unlearn {ad : Nat → Nat} {g : St} {p : Nat} {x : Int32} (hx : x = nI p) (hp : p < 6) : Cv 2 mX5_unlearn [.ref 67, .int x] ad g (fun g' => g' = gE g 68 (upd (g.1 69) p (g.1 74 p)) (upd (g.1 70) p (g.1 75 p))) := by
  subst hx
  refine Cm.mk rfl (Nat.le_of_ble_eq_true rfl) (fun K hK hR hm hnn => ?_)
  refine r_aload_n (i := 0) hK dX5_unlearn_0 rfl rfl ?_
  refine r_getA hK flX5_28 to_67 rfl dX5_unlearn_1 ?_
  refine r_getA hK flX5_48 to_68 rfl dX5_unlearn_4 ?_
  refine r_iload_n (i := 1) hK dX5_unlearn_7 rfl rfl ?_
  refine r_aload_n (i := 0) hK dX5_unlearn_8 rfl rfl ?_
  refine r_getA hK flX5_18 to_67 rfl dX5_unlearn_9 ?_
  refine r_iload_n (i := 1) hK dX5_unlearn_12 rfl rfl ?_
  refine r_si2 hK hnn (c_atE to_74 (by decide) rfl (by omega) rfl) moX9_at mlX5_70 dX5_unlearn_13 (Nat.le_of_ble_eq_true rfl) (Nat.le_of_ble_eq_true rfl) (eqI ?_)
  refine r_sv3 hK hnn (c_ptE to_69 (by decide) rfl (by omega) rfl) moX9_put mlX5_78 dX5_unlearn_16 (Nat.le_of_ble_eq_true rfl) (Nat.le_of_ble_eq_true rfl) (eqV ?_)
  refine r_aload_n (i := 0) hK dX5_unlearn_19 rfl rfl ?_
  refine r_getA hK flX5_28 to_67 rfl dX5_unlearn_20 ?_
  refine r_getA hK flX5_53 to_68 rfl dX5_unlearn_23 ?_
  refine r_iload_n (i := 1) hK dX5_unlearn_26 rfl rfl ?_
  refine r_aload_n (i := 0) hK dX5_unlearn_27 rfl rfl ?_
  refine r_getA hK flX5_21 to_67 rfl dX5_unlearn_28 ?_
  refine r_iload_n (i := 1) hK dX5_unlearn_31 rfl rfl ?_
  refine r_si2 hK hnn (c_atE (y := g.1 75 p) to_75 (by decide) rfl (by omega) (congrFun (upI_n (by decide)) _)) moX9_at mlX5_70 dX5_unlearn_32 (Nat.le_of_ble_eq_true rfl) (Nat.le_of_ble_eq_true rfl) (eqI ?_)
  refine r_sv3 hK hnn (c_ptE to_70 (by decide) rfl (by omega) rfl) moX9_put mlX5_78 dX5_unlearn_35 (Nat.le_of_ble_eq_true rfl) (Nat.le_of_ble_eq_true rfl) (eqV ?_)
  refine q_vret hK hR dX5_unlearn_38 ?_
  exact gE_mk (o := 68)
set_option maxHeartbeats 4000000 in
set_option maxRecDepth 100000 in
theorem c_apply {ad : Nat → Nat} {g : St} {k : Nat} {x : Int32} (hx : x = nI k) (hk : k < 84) : Cv 2 mX5_apply [.ref 67, .int x] ad g (fun g' => g' = gE g 68 (upd (g.1 69) (k / 14) (g.1 72 k)) (upd (g.1 70) (k / 14) (g.1 73 k))) := by
  subst hx
  refine Cm.mk rfl (Nat.le_of_ble_eq_true rfl) (fun K hK hR hm hnn => ?_)
  refine r_aload_n (i := 0) hK dX5_apply_0 rfl rfl ?_
  refine r_getA hK flX5_28 to_67 rfl dX5_apply_1 ?_
  refine r_getA hK flX5_48 to_68 rfl dX5_apply_4 ?_
  refine r_iload_n (i := 1) hK dX5_apply_7 rfl rfl ?_
  refine r_bipush (v := 14) hK dX5_apply_8 (by decide) ?_
  refine r_idiv hK dX5_apply_10 (by decide) ?_
  refine r_top (y := nI (k / 14)) (d14 hk) ?_
  refine r_aload_n (i := 0) hK dX5_apply_11 rfl rfl ?_
  refine r_getA hK flX5_11 to_67 rfl dX5_apply_12 ?_
  refine r_iload_n (i := 1) hK dX5_apply_15 rfl rfl ?_
  refine r_si2 hK hnn (c_atE to_72 (by decide) rfl (by omega) rfl) moX9_at mlX5_70 dX5_apply_16 (Nat.le_of_ble_eq_true rfl) (Nat.le_of_ble_eq_true rfl) (eqI ?_)
  refine r_sv3 hK hnn (c_ptE to_69 (by decide) rfl (by omega) rfl) moX9_put mlX5_78 dX5_apply_19 (Nat.le_of_ble_eq_true rfl) (Nat.le_of_ble_eq_true rfl) (eqV ?_)
  refine r_aload_n (i := 0) hK dX5_apply_22 rfl rfl ?_
  refine r_getA hK flX5_28 to_67 rfl dX5_apply_23 ?_
  refine r_getA hK flX5_53 to_68 rfl dX5_apply_26 ?_
  refine r_iload_n (i := 1) hK dX5_apply_29 rfl rfl ?_
  refine r_bipush (v := 14) hK dX5_apply_30 (by decide) ?_
  refine r_idiv hK dX5_apply_32 (by decide) ?_
  refine r_top (y := nI (k / 14)) (d14 hk) ?_
  refine r_aload_n (i := 0) hK dX5_apply_33 rfl rfl ?_
  refine r_getA hK flX5_15 to_67 rfl dX5_apply_34 ?_
  refine r_iload_n (i := 1) hK dX5_apply_37 rfl rfl ?_
  refine r_si2 hK hnn (c_atE (y := g.1 73 k) to_73 (by decide) rfl (by omega) (congrFun (upI_n (by decide)) _)) moX9_at mlX5_70 dX5_apply_38 (Nat.le_of_ble_eq_true rfl) (Nat.le_of_ble_eq_true rfl) (eqI ?_)
  refine r_sv3 hK hnn (c_ptE to_70 (by decide) rfl (by omega) rfl) moX9_put mlX5_78 dX5_apply_41 (Nat.le_of_ble_eq_true rfl) (Nat.le_of_ble_eq_true rfl) (eqV ?_)
  refine q_vret hK hR dX5_apply_44 ?_
  exact gE_mk (o := 68)
set_option maxHeartbeats 4000000 in
set_option maxRecDepth 100000 in
theorem c_changesNothing {ad : Nat → Nat} {g : St} {k : Nat} {x : Int32} (hx : x = nI k) (hk : k < 84) : Ci 2 mX5_changesNothing [.ref 67, .int x] ad g (fun v g' => v = B1 (cgN g k) ∧ g' = g) := by
  subst hx
  refine Cm.mk rfl (Nat.le_of_ble_eq_true rfl) (fun K hK hR hm hnn => ?_)
  refine r_iload_n (i := 1) hK dX5_changesNothing_0 rfl rfl ?_
  refine r_bipush (v := 14) hK dX5_changesNothing_1 (by decide) ?_
  refine r_idiv hK dX5_changesNothing_3 (by decide) ?_
  refine r_top (y := nI (k / 14)) (d14 hk) ?_
  refine r_istore_n (i := 2) hK hm dX5_changesNothing_4 rfl (by decide) ?_
  refine r_aload_n (i := 0) hK dX5_changesNothing_5 rfl rfl ?_
  refine r_getA hK flX5_11 to_67 rfl dX5_changesNothing_6 ?_
  refine r_iload_n (i := 1) hK dX5_changesNothing_9 rfl rfl ?_
  refine r_si2 hK hnn (c_atE to_72 (by decide) rfl (by omega) rfl) moX9_at mlX5_70 dX5_changesNothing_10 (Nat.le_of_ble_eq_true rfl) (Nat.le_of_ble_eq_true rfl) (eqI ?_)
  refine r_aload_n (i := 0) hK dX5_changesNothing_13 rfl rfl ?_
  refine r_getA hK flX5_18 to_67 rfl dX5_changesNothing_14 ?_
  refine r_iload_n (i := 2) hK dX5_changesNothing_17 rfl rfl ?_
  refine r_si2 hK hnn (c_atE to_74 (by decide) rfl (by omega) rfl) moX9_at mlX5_70 dX5_changesNothing_18 (Nat.le_of_ble_eq_true rfl) (Nat.le_of_ble_eq_true rfl) (eqI ?_)
  refine r_icmp_ne (tgt := 47) hK dX5_changesNothing_21 (by decide) (fun h21 => ?_) (fun h21 => ?_)
  · refine r_iconst (v := 0) hK dX5_changesNothing_47 (by decide) ?_
    refine q_zret hK hR dX5_changesNothing_48 (by first | exact Or.inl rfl | exact Or.inr rfl | assumption) ?_
    refine ⟨?_, rfl⟩
    unfold cgN
    first
      | (rw [decide_eq_false h21]; rfl)
      | (rw [decide_eq_true (Classical.not_not.mp h21), decide_eq_false h40]; rfl)
      | (rw [decide_eq_true (Classical.not_not.mp h21), decide_eq_true (Classical.not_not.mp h40)]; rfl)
      | (rw [decide_eq_true h21, decide_eq_false h40]; rfl)
      | (rw [decide_eq_true h21, decide_eq_true h40]; rfl)
  · refine r_aload_n (i := 0) hK dX5_changesNothing_24 rfl rfl ?_
    refine r_getA hK flX5_15 to_67 rfl dX5_changesNothing_25 ?_
    refine r_iload_n (i := 1) hK dX5_changesNothing_28 rfl rfl ?_
    refine r_si2 hK hnn (c_atE to_73 (by decide) rfl (by omega) rfl) moX9_at mlX5_70 dX5_changesNothing_29 (Nat.le_of_ble_eq_true rfl) (Nat.le_of_ble_eq_true rfl) (eqI ?_)
    refine r_aload_n (i := 0) hK dX5_changesNothing_32 rfl rfl ?_
    refine r_getA hK flX5_21 to_67 rfl dX5_changesNothing_33 ?_
    refine r_iload_n (i := 2) hK dX5_changesNothing_36 rfl rfl ?_
    refine r_si2 hK hnn (c_atE to_75 (by decide) rfl (by omega) rfl) moX9_at mlX5_70 dX5_changesNothing_37 (Nat.le_of_ble_eq_true rfl) (Nat.le_of_ble_eq_true rfl) (eqI ?_)
    refine r_icmp_ne (tgt := 47) hK dX5_changesNothing_40 (by decide) (fun h40 => ?_) (fun h40 => ?_)
    · refine r_iconst (v := 0) hK dX5_changesNothing_47 (by decide) ?_
      refine q_zret hK hR dX5_changesNothing_48 (by first | exact Or.inl rfl | exact Or.inr rfl | assumption) ?_
      refine ⟨?_, rfl⟩
      unfold cgN
      first
        | (rw [decide_eq_false h21]; rfl)
        | (rw [decide_eq_true (Classical.not_not.mp h21), decide_eq_false h40]; rfl)
        | (rw [decide_eq_true (Classical.not_not.mp h21), decide_eq_true (Classical.not_not.mp h40)]; rfl)
        | (rw [decide_eq_true h21, decide_eq_false h40]; rfl)
        | (rw [decide_eq_true h21, decide_eq_true h40]; rfl)
    · refine r_iconst (v := 1) hK dX5_changesNothing_43 (by decide) ?_
      refine r_goto (tgt := 48) hK dX5_changesNothing_44 (by decide) ?_
      refine q_zret hK hR dX5_changesNothing_48 (by first | exact Or.inl rfl | exact Or.inr rfl | assumption) ?_
      refine ⟨?_, rfl⟩
      unfold cgN
      first
        | (rw [decide_eq_false h21]; rfl)
        | (rw [decide_eq_true (Classical.not_not.mp h21), decide_eq_false h40]; rfl)
        | (rw [decide_eq_true (Classical.not_not.mp h21), decide_eq_true (Classical.not_not.mp h40)]; rfl)
        | (rw [decide_eq_true h21, decide_eq_false h40]; rfl)
        | (rw [decide_eq_true h21, decide_eq_true h40]; rfl)
set_option maxHeartbeats 4000000 in
set_option maxRecDepth 100000 in
theorem c_answer {ad : Nat → Nat} {g : St} {c x : Int32} {f s : Nat} (hc : g.1 67 9 = c) (hf : g.1 67 10 = nI f) (hs : g.1 67 11 = nI s) (hf8 : f < 84) (hs8 : s < 84) : Ci 1 mX5_answer [.ref 67, .int x] ad g (fun v g' => v = lnA c f s x ∧ g' = g) := by
  refine Cm.mk rfl (Nat.le_of_ble_eq_true rfl) (fun K hK hR hm hnn => ?_)
  refine r_iload_n (i := 1) hK dX5_answer_0 rfl rfl ?_
  refine r_sw (n := 4) (lo := 0) (tgt0 := 97) hK dX5_answer_1 (by decide) (by decide) (by decide) (by decide) (fun h1 => ?_) (fun i1 hi1 h1 => ?_)
  · refine r_aload_n (i := 0) hK dX5_answer_97 rfl rfl ?_
    refine r_getI hK flX5_58 to_67 rfl dX5_answer_98 ?_
    refine r_top (y := c) hc ?_
    refine r_iconst (v := 2) hK dX5_answer_101 (by decide) ?_
    refine r_icmp_ge (tgt := 109) hK dX5_answer_102 (by decide) (fun h102 => ?_) (fun h102 => ?_)
    · refine r_aload_n (i := 0) hK dX5_answer_109 rfl rfl ?_
      refine r_getI hK flX5_93 to_67 rfl dX5_answer_110 ?_
      refine r_top (y := nI s) hs ?_
      refine r_bipush (v := 14) hK dX5_answer_113 (by decide) ?_
      refine r_irem hK dX5_answer_115 (by decide) ?_
      refine r_top (y := nI (s % 14)) (m14 hs8) ?_
      refine q_iret hK hR dX5_answer_116 ?_
      refine ⟨?_, rfl⟩
      unfold lnA
      first
        | (rw [(show x = 0 from h1)]; rw [if_pos rfl]; exact hc)
        | (rw [(show x = 1 from h1)]; rw [if_neg (by decide)]; rw [if_pos rfl]; rw [if_pos h42]; done)
        | (rw [(show x = 1 from h1)]; rw [if_neg (by decide)]; rw [if_pos rfl]; rw [if_neg h42]; done)
        | (rw [(show x = 2 from h1)]; rw [if_neg (by decide)]; rw [if_neg (by decide)]; rw [if_pos rfl]; rw [if_pos h62]; done)
        | (rw [(show x = 2 from h1)]; rw [if_neg (by decide)]; rw [if_neg (by decide)]; rw [if_pos rfl]; rw [if_neg h62]; done)
        | (rw [(show x = 3 from h1)]; rw [if_neg (by decide)]; rw [if_neg (by decide)]; rw [if_neg (by decide)]; rw [if_pos rfl]; rw [if_pos h82]; done)
        | (rw [(show x = 3 from h1)]; rw [if_neg (by decide)]; rw [if_neg (by decide)]; rw [if_neg (by decide)]; rw [if_pos rfl]; rw [if_neg h82]; done)
        | (rw [if_neg (show ¬ x = 0 from swn 0 h1 (by decide) (by decide)), if_neg (show ¬ x = 1 from swn 1 h1 (by decide) (by decide)), if_neg (show ¬ x = 2 from swn 2 h1 (by decide) (by decide)), if_neg (show ¬ x = 3 from swn 3 h1 (by decide) (by decide)), if_pos h102]; done)
        | (rw [if_neg (show ¬ x = 0 from swn 0 h1 (by decide) (by decide)), if_neg (show ¬ x = 1 from swn 1 h1 (by decide) (by decide)), if_neg (show ¬ x = 2 from swn 2 h1 (by decide) (by decide)), if_neg (show ¬ x = 3 from swn 3 h1 (by decide) (by decide)), if_neg h102]; done)
    · refine r_iconst (v := (-1)) hK dX5_answer_105 (by decide) ?_
      refine r_goto (tgt := 116) hK dX5_answer_106 (by decide) ?_
      refine q_iret hK hR dX5_answer_116 ?_
      refine ⟨?_, rfl⟩
      unfold lnA
      first
        | (rw [(show x = 0 from h1)]; rw [if_pos rfl]; exact hc)
        | (rw [(show x = 1 from h1)]; rw [if_neg (by decide)]; rw [if_pos rfl]; rw [if_pos h42]; done)
        | (rw [(show x = 1 from h1)]; rw [if_neg (by decide)]; rw [if_pos rfl]; rw [if_neg h42]; done)
        | (rw [(show x = 2 from h1)]; rw [if_neg (by decide)]; rw [if_neg (by decide)]; rw [if_pos rfl]; rw [if_pos h62]; done)
        | (rw [(show x = 2 from h1)]; rw [if_neg (by decide)]; rw [if_neg (by decide)]; rw [if_pos rfl]; rw [if_neg h62]; done)
        | (rw [(show x = 3 from h1)]; rw [if_neg (by decide)]; rw [if_neg (by decide)]; rw [if_neg (by decide)]; rw [if_pos rfl]; rw [if_pos h82]; done)
        | (rw [(show x = 3 from h1)]; rw [if_neg (by decide)]; rw [if_neg (by decide)]; rw [if_neg (by decide)]; rw [if_pos rfl]; rw [if_neg h82]; done)
        | (rw [if_neg (show ¬ x = 0 from swn 0 h1 (by decide) (by decide)), if_neg (show ¬ x = 1 from swn 1 h1 (by decide) (by decide)), if_neg (show ¬ x = 2 from swn 2 h1 (by decide) (by decide)), if_neg (show ¬ x = 3 from swn 3 h1 (by decide) (by decide)), if_pos h102]; done)
        | (rw [if_neg (show ¬ x = 0 from swn 0 h1 (by decide) (by decide)), if_neg (show ¬ x = 1 from swn 1 h1 (by decide) (by decide)), if_neg (show ¬ x = 2 from swn 2 h1 (by decide) (by decide)), if_neg (show ¬ x = 3 from swn 3 h1 (by decide) (by decide)), if_neg h102]; done)
  · obtain rfl | rfl | rfl | rfl : i1 = 0 ∨ i1 = 1 ∨ i1 = 2 ∨ i1 = 3 := by omega
    · refine ⟨_, 32, rfl, by decide, ?_⟩
      refine r_aload_n (i := 0) hK dX5_answer_32 rfl rfl ?_
      refine r_getI hK flX5_58 to_67 rfl dX5_answer_33 ?_
      refine q_iret hK hR dX5_answer_36 ?_
      refine ⟨?_, rfl⟩
      unfold lnA
      first
        | (rw [(show x = 0 from h1)]; rw [if_pos rfl]; exact hc)
        | (rw [(show x = 1 from h1)]; rw [if_neg (by decide)]; rw [if_pos rfl]; rw [if_pos h42]; done)
        | (rw [(show x = 1 from h1)]; rw [if_neg (by decide)]; rw [if_pos rfl]; rw [if_neg h42]; done)
        | (rw [(show x = 2 from h1)]; rw [if_neg (by decide)]; rw [if_neg (by decide)]; rw [if_pos rfl]; rw [if_pos h62]; done)
        | (rw [(show x = 2 from h1)]; rw [if_neg (by decide)]; rw [if_neg (by decide)]; rw [if_pos rfl]; rw [if_neg h62]; done)
        | (rw [(show x = 3 from h1)]; rw [if_neg (by decide)]; rw [if_neg (by decide)]; rw [if_neg (by decide)]; rw [if_pos rfl]; rw [if_pos h82]; done)
        | (rw [(show x = 3 from h1)]; rw [if_neg (by decide)]; rw [if_neg (by decide)]; rw [if_neg (by decide)]; rw [if_pos rfl]; rw [if_neg h82]; done)
        | (rw [if_neg (show ¬ x = 0 from swn 0 h1 (by decide) (by decide)), if_neg (show ¬ x = 1 from swn 1 h1 (by decide) (by decide)), if_neg (show ¬ x = 2 from swn 2 h1 (by decide) (by decide)), if_neg (show ¬ x = 3 from swn 3 h1 (by decide) (by decide)), if_pos h102]; done)
        | (rw [if_neg (show ¬ x = 0 from swn 0 h1 (by decide) (by decide)), if_neg (show ¬ x = 1 from swn 1 h1 (by decide) (by decide)), if_neg (show ¬ x = 2 from swn 2 h1 (by decide) (by decide)), if_neg (show ¬ x = 3 from swn 3 h1 (by decide) (by decide)), if_neg h102]; done)
    · refine ⟨_, 37, rfl, by decide, ?_⟩
      refine r_aload_n (i := 0) hK dX5_answer_37 rfl rfl ?_
      refine r_getI hK flX5_58 to_67 rfl dX5_answer_38 ?_
      refine r_top (y := c) hc ?_
      refine r_iconst (v := 1) hK dX5_answer_41 (by decide) ?_
      refine r_icmp_ge (tgt := 49) hK dX5_answer_42 (by decide) (fun h42 => ?_) (fun h42 => ?_)
      · refine r_aload_n (i := 0) hK dX5_answer_49 rfl rfl ?_
        refine r_getI hK flX5_82 to_67 rfl dX5_answer_50 ?_
        refine r_top (y := nI f) hf ?_
        refine r_bipush (v := 14) hK dX5_answer_53 (by decide) ?_
        refine r_idiv hK dX5_answer_55 (by decide) ?_
        refine r_top (y := nI (f / 14)) (d14 hf8) ?_
        refine q_iret hK hR dX5_answer_56 ?_
        refine ⟨?_, rfl⟩
        unfold lnA
        first
          | (rw [(show x = 0 from h1)]; rw [if_pos rfl]; exact hc)
          | (rw [(show x = 1 from h1)]; rw [if_neg (by decide)]; rw [if_pos rfl]; rw [if_pos h42]; done)
          | (rw [(show x = 1 from h1)]; rw [if_neg (by decide)]; rw [if_pos rfl]; rw [if_neg h42]; done)
          | (rw [(show x = 2 from h1)]; rw [if_neg (by decide)]; rw [if_neg (by decide)]; rw [if_pos rfl]; rw [if_pos h62]; done)
          | (rw [(show x = 2 from h1)]; rw [if_neg (by decide)]; rw [if_neg (by decide)]; rw [if_pos rfl]; rw [if_neg h62]; done)
          | (rw [(show x = 3 from h1)]; rw [if_neg (by decide)]; rw [if_neg (by decide)]; rw [if_neg (by decide)]; rw [if_pos rfl]; rw [if_pos h82]; done)
          | (rw [(show x = 3 from h1)]; rw [if_neg (by decide)]; rw [if_neg (by decide)]; rw [if_neg (by decide)]; rw [if_pos rfl]; rw [if_neg h82]; done)
          | (rw [if_neg (show ¬ x = 0 from swn 0 h1 (by decide) (by decide)), if_neg (show ¬ x = 1 from swn 1 h1 (by decide) (by decide)), if_neg (show ¬ x = 2 from swn 2 h1 (by decide) (by decide)), if_neg (show ¬ x = 3 from swn 3 h1 (by decide) (by decide)), if_pos h102]; done)
          | (rw [if_neg (show ¬ x = 0 from swn 0 h1 (by decide) (by decide)), if_neg (show ¬ x = 1 from swn 1 h1 (by decide) (by decide)), if_neg (show ¬ x = 2 from swn 2 h1 (by decide) (by decide)), if_neg (show ¬ x = 3 from swn 3 h1 (by decide) (by decide)), if_neg h102]; done)
      · refine r_iconst (v := (-1)) hK dX5_answer_45 (by decide) ?_
        refine r_goto (tgt := 56) hK dX5_answer_46 (by decide) ?_
        refine q_iret hK hR dX5_answer_56 ?_
        refine ⟨?_, rfl⟩
        unfold lnA
        first
          | (rw [(show x = 0 from h1)]; rw [if_pos rfl]; exact hc)
          | (rw [(show x = 1 from h1)]; rw [if_neg (by decide)]; rw [if_pos rfl]; rw [if_pos h42]; done)
          | (rw [(show x = 1 from h1)]; rw [if_neg (by decide)]; rw [if_pos rfl]; rw [if_neg h42]; done)
          | (rw [(show x = 2 from h1)]; rw [if_neg (by decide)]; rw [if_neg (by decide)]; rw [if_pos rfl]; rw [if_pos h62]; done)
          | (rw [(show x = 2 from h1)]; rw [if_neg (by decide)]; rw [if_neg (by decide)]; rw [if_pos rfl]; rw [if_neg h62]; done)
          | (rw [(show x = 3 from h1)]; rw [if_neg (by decide)]; rw [if_neg (by decide)]; rw [if_neg (by decide)]; rw [if_pos rfl]; rw [if_pos h82]; done)
          | (rw [(show x = 3 from h1)]; rw [if_neg (by decide)]; rw [if_neg (by decide)]; rw [if_neg (by decide)]; rw [if_pos rfl]; rw [if_neg h82]; done)
          | (rw [if_neg (show ¬ x = 0 from swn 0 h1 (by decide) (by decide)), if_neg (show ¬ x = 1 from swn 1 h1 (by decide) (by decide)), if_neg (show ¬ x = 2 from swn 2 h1 (by decide) (by decide)), if_neg (show ¬ x = 3 from swn 3 h1 (by decide) (by decide)), if_pos h102]; done)
          | (rw [if_neg (show ¬ x = 0 from swn 0 h1 (by decide) (by decide)), if_neg (show ¬ x = 1 from swn 1 h1 (by decide) (by decide)), if_neg (show ¬ x = 2 from swn 2 h1 (by decide) (by decide)), if_neg (show ¬ x = 3 from swn 3 h1 (by decide) (by decide)), if_neg h102]; done)
    · refine ⟨_, 57, rfl, by decide, ?_⟩
      refine r_aload_n (i := 0) hK dX5_answer_57 rfl rfl ?_
      refine r_getI hK flX5_58 to_67 rfl dX5_answer_58 ?_
      refine r_top (y := c) hc ?_
      refine r_iconst (v := 1) hK dX5_answer_61 (by decide) ?_
      refine r_icmp_ge (tgt := 69) hK dX5_answer_62 (by decide) (fun h62 => ?_) (fun h62 => ?_)
      · refine r_aload_n (i := 0) hK dX5_answer_69 rfl rfl ?_
        refine r_getI hK flX5_82 to_67 rfl dX5_answer_70 ?_
        refine r_top (y := nI f) hf ?_
        refine r_bipush (v := 14) hK dX5_answer_73 (by decide) ?_
        refine r_irem hK dX5_answer_75 (by decide) ?_
        refine r_top (y := nI (f % 14)) (m14 hf8) ?_
        refine q_iret hK hR dX5_answer_76 ?_
        refine ⟨?_, rfl⟩
        unfold lnA
        first
          | (rw [(show x = 0 from h1)]; rw [if_pos rfl]; exact hc)
          | (rw [(show x = 1 from h1)]; rw [if_neg (by decide)]; rw [if_pos rfl]; rw [if_pos h42]; done)
          | (rw [(show x = 1 from h1)]; rw [if_neg (by decide)]; rw [if_pos rfl]; rw [if_neg h42]; done)
          | (rw [(show x = 2 from h1)]; rw [if_neg (by decide)]; rw [if_neg (by decide)]; rw [if_pos rfl]; rw [if_pos h62]; done)
          | (rw [(show x = 2 from h1)]; rw [if_neg (by decide)]; rw [if_neg (by decide)]; rw [if_pos rfl]; rw [if_neg h62]; done)
          | (rw [(show x = 3 from h1)]; rw [if_neg (by decide)]; rw [if_neg (by decide)]; rw [if_neg (by decide)]; rw [if_pos rfl]; rw [if_pos h82]; done)
          | (rw [(show x = 3 from h1)]; rw [if_neg (by decide)]; rw [if_neg (by decide)]; rw [if_neg (by decide)]; rw [if_pos rfl]; rw [if_neg h82]; done)
          | (rw [if_neg (show ¬ x = 0 from swn 0 h1 (by decide) (by decide)), if_neg (show ¬ x = 1 from swn 1 h1 (by decide) (by decide)), if_neg (show ¬ x = 2 from swn 2 h1 (by decide) (by decide)), if_neg (show ¬ x = 3 from swn 3 h1 (by decide) (by decide)), if_pos h102]; done)
          | (rw [if_neg (show ¬ x = 0 from swn 0 h1 (by decide) (by decide)), if_neg (show ¬ x = 1 from swn 1 h1 (by decide) (by decide)), if_neg (show ¬ x = 2 from swn 2 h1 (by decide) (by decide)), if_neg (show ¬ x = 3 from swn 3 h1 (by decide) (by decide)), if_neg h102]; done)
      · refine r_iconst (v := (-1)) hK dX5_answer_65 (by decide) ?_
        refine r_goto (tgt := 76) hK dX5_answer_66 (by decide) ?_
        refine q_iret hK hR dX5_answer_76 ?_
        refine ⟨?_, rfl⟩
        unfold lnA
        first
          | (rw [(show x = 0 from h1)]; rw [if_pos rfl]; exact hc)
          | (rw [(show x = 1 from h1)]; rw [if_neg (by decide)]; rw [if_pos rfl]; rw [if_pos h42]; done)
          | (rw [(show x = 1 from h1)]; rw [if_neg (by decide)]; rw [if_pos rfl]; rw [if_neg h42]; done)
          | (rw [(show x = 2 from h1)]; rw [if_neg (by decide)]; rw [if_neg (by decide)]; rw [if_pos rfl]; rw [if_pos h62]; done)
          | (rw [(show x = 2 from h1)]; rw [if_neg (by decide)]; rw [if_neg (by decide)]; rw [if_pos rfl]; rw [if_neg h62]; done)
          | (rw [(show x = 3 from h1)]; rw [if_neg (by decide)]; rw [if_neg (by decide)]; rw [if_neg (by decide)]; rw [if_pos rfl]; rw [if_pos h82]; done)
          | (rw [(show x = 3 from h1)]; rw [if_neg (by decide)]; rw [if_neg (by decide)]; rw [if_neg (by decide)]; rw [if_pos rfl]; rw [if_neg h82]; done)
          | (rw [if_neg (show ¬ x = 0 from swn 0 h1 (by decide) (by decide)), if_neg (show ¬ x = 1 from swn 1 h1 (by decide) (by decide)), if_neg (show ¬ x = 2 from swn 2 h1 (by decide) (by decide)), if_neg (show ¬ x = 3 from swn 3 h1 (by decide) (by decide)), if_pos h102]; done)
          | (rw [if_neg (show ¬ x = 0 from swn 0 h1 (by decide) (by decide)), if_neg (show ¬ x = 1 from swn 1 h1 (by decide) (by decide)), if_neg (show ¬ x = 2 from swn 2 h1 (by decide) (by decide)), if_neg (show ¬ x = 3 from swn 3 h1 (by decide) (by decide)), if_neg h102]; done)
    · refine ⟨_, 77, rfl, by decide, ?_⟩
      refine r_aload_n (i := 0) hK dX5_answer_77 rfl rfl ?_
      refine r_getI hK flX5_58 to_67 rfl dX5_answer_78 ?_
      refine r_top (y := c) hc ?_
      refine r_iconst (v := 2) hK dX5_answer_81 (by decide) ?_
      refine r_icmp_ge (tgt := 89) hK dX5_answer_82 (by decide) (fun h82 => ?_) (fun h82 => ?_)
      · refine r_aload_n (i := 0) hK dX5_answer_89 rfl rfl ?_
        refine r_getI hK flX5_93 to_67 rfl dX5_answer_90 ?_
        refine r_top (y := nI s) hs ?_
        refine r_bipush (v := 14) hK dX5_answer_93 (by decide) ?_
        refine r_idiv hK dX5_answer_95 (by decide) ?_
        refine r_top (y := nI (s / 14)) (d14 hs8) ?_
        refine q_iret hK hR dX5_answer_96 ?_
        refine ⟨?_, rfl⟩
        unfold lnA
        first
          | (rw [(show x = 0 from h1)]; rw [if_pos rfl]; exact hc)
          | (rw [(show x = 1 from h1)]; rw [if_neg (by decide)]; rw [if_pos rfl]; rw [if_pos h42]; done)
          | (rw [(show x = 1 from h1)]; rw [if_neg (by decide)]; rw [if_pos rfl]; rw [if_neg h42]; done)
          | (rw [(show x = 2 from h1)]; rw [if_neg (by decide)]; rw [if_neg (by decide)]; rw [if_pos rfl]; rw [if_pos h62]; done)
          | (rw [(show x = 2 from h1)]; rw [if_neg (by decide)]; rw [if_neg (by decide)]; rw [if_pos rfl]; rw [if_neg h62]; done)
          | (rw [(show x = 3 from h1)]; rw [if_neg (by decide)]; rw [if_neg (by decide)]; rw [if_neg (by decide)]; rw [if_pos rfl]; rw [if_pos h82]; done)
          | (rw [(show x = 3 from h1)]; rw [if_neg (by decide)]; rw [if_neg (by decide)]; rw [if_neg (by decide)]; rw [if_pos rfl]; rw [if_neg h82]; done)
          | (rw [if_neg (show ¬ x = 0 from swn 0 h1 (by decide) (by decide)), if_neg (show ¬ x = 1 from swn 1 h1 (by decide) (by decide)), if_neg (show ¬ x = 2 from swn 2 h1 (by decide) (by decide)), if_neg (show ¬ x = 3 from swn 3 h1 (by decide) (by decide)), if_pos h102]; done)
          | (rw [if_neg (show ¬ x = 0 from swn 0 h1 (by decide) (by decide)), if_neg (show ¬ x = 1 from swn 1 h1 (by decide) (by decide)), if_neg (show ¬ x = 2 from swn 2 h1 (by decide) (by decide)), if_neg (show ¬ x = 3 from swn 3 h1 (by decide) (by decide)), if_neg h102]; done)
      · refine r_iconst (v := (-1)) hK dX5_answer_85 (by decide) ?_
        refine r_goto (tgt := 96) hK dX5_answer_86 (by decide) ?_
        refine q_iret hK hR dX5_answer_96 ?_
        refine ⟨?_, rfl⟩
        unfold lnA
        first
          | (rw [(show x = 0 from h1)]; rw [if_pos rfl]; exact hc)
          | (rw [(show x = 1 from h1)]; rw [if_neg (by decide)]; rw [if_pos rfl]; rw [if_pos h42]; done)
          | (rw [(show x = 1 from h1)]; rw [if_neg (by decide)]; rw [if_pos rfl]; rw [if_neg h42]; done)
          | (rw [(show x = 2 from h1)]; rw [if_neg (by decide)]; rw [if_neg (by decide)]; rw [if_pos rfl]; rw [if_pos h62]; done)
          | (rw [(show x = 2 from h1)]; rw [if_neg (by decide)]; rw [if_neg (by decide)]; rw [if_pos rfl]; rw [if_neg h62]; done)
          | (rw [(show x = 3 from h1)]; rw [if_neg (by decide)]; rw [if_neg (by decide)]; rw [if_neg (by decide)]; rw [if_pos rfl]; rw [if_pos h82]; done)
          | (rw [(show x = 3 from h1)]; rw [if_neg (by decide)]; rw [if_neg (by decide)]; rw [if_neg (by decide)]; rw [if_pos rfl]; rw [if_neg h82]; done)
          | (rw [if_neg (show ¬ x = 0 from swn 0 h1 (by decide) (by decide)), if_neg (show ¬ x = 1 from swn 1 h1 (by decide) (by decide)), if_neg (show ¬ x = 2 from swn 2 h1 (by decide) (by decide)), if_neg (show ¬ x = 3 from swn 3 h1 (by decide) (by decide)), if_pos h102]; done)
          | (rw [if_neg (show ¬ x = 0 from swn 0 h1 (by decide) (by decide)), if_neg (show ¬ x = 1 from swn 1 h1 (by decide) (by decide)), if_neg (show ¬ x = 2 from swn 2 h1 (by decide) (by decide)), if_neg (show ¬ x = 3 from swn 3 h1 (by decide) (by decide)), if_neg h102]; done)
