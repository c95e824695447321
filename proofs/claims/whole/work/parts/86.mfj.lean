/-! THE MODEL: fits and judge -/
def fiR (X : LN) (J : JN) : Nat → Nat
  | 0 => 1
  | i + 1 => if fiB X J i = true then 0 else fiR X J i
theorem fiR_s {X : LN} {J : JN} {i : Nat} : fiR X J (i + 1) = if fiB X J i = true then 0 else fiR X J i := rfl
theorem fiR_0 {X : LN} {J : JN} : ∀ n, (∃ i, i < n ∧ fiB X J i = true) → fiR X J n = 0
  | 0, ⟨i, h, _⟩ => absurd h (Nat.not_lt_zero i)
  | n + 1, ⟨i, h, h2⟩ => by
    rw [fiR_s]
    by_cases e : fiB X J n = true
    · rw [if_pos e]
    · rw [if_neg e]
      refine fiR_0 n ⟨i, ?_, h2⟩
      by_cases e2 : i = n
      · subst e2; exact absurd h2 e
      · omega
theorem fiR_1 {X : LN} {J : JN} : ∀ n, (∀ i, i < n → fiB X J i = false) → fiR X J n = 1
  | 0, _ => rfl
  | n + 1, h => by
    rw [fiR_s, h n (Nat.lt_succ_self n), if_neg (by decide)]
    exact fiR_1 n (fun i hi => h i (by omega))
theorem fiR_a {X : LN} {J : JN} : nI (fiR X J J.2.1) = aFit X J := by
  unfold aFit
  by_cases h : fdF (fiB X J) J.2.1 0 < J.2.1
  · rw [if_pos h, fiR_0 _ ⟨_, h, fdF_at _ _ (by omega)⟩]; rfl
  · rw [if_neg h, fiR_1 _ (fun i hi => fdF_all J.2.1 0 (by have := fdF_le (fiB X J) J.2.1 0; omega) i (Nat.zero_le i) (by omega))]; rfl
theorem sL_z {D : WD} {kn : Nat → Bool} {t a law : Nat} : sL D kn t a law 0 = a := by
  have e : (if law = 2 then 0 else oL law 0) = 0 := by
    unfold oL
    repeat' split
    all_goals first | rfl | omega
  unfold sL
  rw [e]
  rfl
theorem asS_l31 {X : LN} (hok : wOk X.1 X.2.1) (mm p : Nat) : asS X mm p X.1 < 2 ^ 31 := Nat.lt_trans (asS_lt X.1 hok.2.1) (by decide)

set_option maxHeartbeats 4000000 in
set_option maxRecDepth 100000 in
theorem lm_fi {K : KT} {ad : Nat → Nat} {g : St} {X : LN} (hX : MC g X) {J : JN} (hJ : MJ g X J) (hK : Cx K RX10 cX10_fits 5 ad) (hm : K.2.2.1.2.maxLocals = 3) (hnn : Nn K 0 0)
    (hR : Rt K 0 0 TT ad (some .int) (Qi ad (fun v g' => v = aFit X J ∧ FM g g'))) :
    ∀ m i, i + m = J.2.1 → ∀ g1 : St, FM g g1 → Wp K 0 0 TT ad g1 4 [(0, .ref 91), (1, .int (nI (fiR X J i))), (2, .int (nI i))] [] := by
  intro m
  induction m with
  | zero =>
    intro i him g1 hfr
    obtain ⟨j1, hM1, hM2, hM3⟩ := MJ_of hJ hfr
    have e : i = J.2.1 := by omega
    subst e
    refine r_iload_n (i := 2) hK dX10_fits_4 rfl rfl ?_
    refine r_aload_n (i := 0) hK dX10_fits_5 rfl rfl ?_
    refine r_getI hK flX10_232 to_91 rfl dX10_fits_6 ?_
    refine r_top (y := nI J.2.1) hM1 ?_
    refine r_icmp_ge (tgt := 43) hK dX10_fits_9 (by decide) (fun _ => ?_) (fun h => absurd (nI_le (Nat.le_refl _) (by omega)) h)
    refine r_iload_n (i := 1) hK dX10_fits_43 rfl rfl ?_
    refine q_iret hK hR dX10_fits_44 ⟨fiR_a, hfr⟩
  | succ m ih =>
    intro i him g1 hfr
    have hX1 := MC_of hX hfr
    obtain ⟨hok, hpo, hlaw, x1, hW, hPs, x4⟩ := id hX1
    have hi : i < J.2.1 := by omega
    obtain ⟨j1, hM1, hM2, hM3⟩ := MJ_of hJ hfr
    obtain ⟨⟨hq1, hq2⟩, hq3, hq4⟩ := hM3 i hi
    refine r_iload_n (i := 2) hK dX10_fits_4 rfl rfl ?_
    refine r_aload_n (i := 0) hK dX10_fits_5 rfl rfl ?_
    refine r_getI hK flX10_232 to_91 rfl dX10_fits_6 ?_
    refine r_top (y := nI J.2.1) hM1 ?_
    refine r_icmp_ge (tgt := 43) hK dX10_fits_9 (by decide) (fun h => absurd h (nI_ge hi (by omega))) (fun _ => ?_)
    refine r_aload_n (i := 0) hK dX10_fits_12 rfl rfl ?_
    refine r_aload_n (i := 0) hK dX10_fits_13 rfl rfl ?_
    refine r_getA hK flX10_96 to_91 rfl dX10_fits_14 ?_
    refine r_iload_n (i := 2) hK dX10_fits_17 rfl rfl ?_
    refine r_ialN hK to_119 rfl (by omega) (by decide) hq1 dX10_fits_18 ?_
    refine r_aload_n (i := 0) hK dX10_fits_19 rfl rfl ?_
    refine r_getA hK flX10_99 to_91 rfl dX10_fits_20 ?_
    refine r_iload_n (i := 2) hK dX10_fits_23 rfl rfl ?_
    refine r_ialN hK to_120 rfl (by omega) (by decide) hq2 dX10_fits_24 ?_
    refine r_ci2 hK hnn (c_mMsOf hX1 rfl hq3 rfl (by omega)) moX10_missingOf mlX10_347 to_91 rfl rfl dX10_fits_25 (Nat.le_of_ble_eq_true rfl) (Nat.le_of_ble_eq_true rfl) (fun v25 g25 q25 => ?_)
    obtain ⟨rfl, hf2⟩ := q25
    refine r_if_ne (tgt := 35) hK dX10_fits_28 (by decide) (fun h28 => ?_) (fun h28 => ?_)
    · refine r_iload_n (i := 1) hK dX10_fits_35 rfl rfl ?_
      refine r_top (y := nI (fiR X J (i + 1))) (by rw [fiR_s, if_neg (show ¬ fiB X J i = true from fun z => h28 (congrArg nI (of_decide_eq_true z)))]) ?_
      refine r_istore_n (i := 1) hK hm dX10_fits_36 rfl (by decide) ?_
      refine r_iincN (i := 2) hK hm dX10_fits_37 rfl (by decide) ?_
      refine r_goto (tgt := 4) hK dX10_fits_40 (by decide) ?_
      refine r_loc ?_ (ih (i + 1) (by omega) _ (hfr.tr hf2))
      rfl
    · refine r_iconst (v := 0) hK dX10_fits_31 (by decide) ?_
      refine r_top (y := nI (fiR X J (i + 1))) (by rw [fiR_s, if_pos (show fiB X J i = true from decide_eq_true (nI_inj (asS_l31 hok _ _) (by decide) h28))]; rfl) ?_
      refine r_goto (tgt := 36) hK dX10_fits_32 (by decide) ?_
      refine r_istore_n (i := 1) hK hm dX10_fits_36 rfl (by decide) ?_
      refine r_iincN (i := 2) hK hm dX10_fits_37 rfl (by decide) ?_
      refine r_goto (tgt := 4) hK dX10_fits_40 (by decide) ?_
      refine r_loc ?_ (ih (i + 1) (by omega) _ (hfr.tr hf2))
      rfl
set_option maxHeartbeats 4000000 in
set_option maxRecDepth 100000 in
theorem c_mFits {ad : Nat → Nat} {g : St} {X : LN} (hX : MC g X) {J : JN} (hJ : MJ g X J) : Ci 5 mX10_fits [.ref 91] ad g (fun v g' => v = aFit X J ∧ FM g g') := by
  refine Cm.mk rfl (Nat.le_of_ble_eq_true rfl) (fun K hK hR hm hnn => ?_)
  refine r_iconst (v := 1) hK dX10_fits_0 (by decide) ?_
  refine r_istore_n (i := 1) hK hm dX10_fits_1 rfl (by decide) ?_
  refine r_iconst (v := 0) hK dX10_fits_2 (by decide) ?_
  refine r_istore_n (i := 2) hK hm dX10_fits_3 rfl (by decide) ?_
  refine r_loc ?_ (lm_fi hX hJ hK hm hnn hR J.2.1 0 (by omega) g FM.rf)
  rfl
set_option maxHeartbeats 4000000 in
set_option maxRecDepth 100000 in
theorem c_mMayBe {ad : Nat → Nat} {g : St} {X : LN} (hX : MC g X) {J : JN} (hJ : MJ g X J) {i : Nat} {x : Int32} (hx : x = nI i) (hi : i < J.1.1) : Ci 4 mX10_mayBe [.ref 91, .int x] ad g (fun v g' => v = B1 (!juB X J i) ∧ FM g g') := by
  subst hx
  obtain ⟨hok, hpo, hlaw, x1, hW, hPs, x4⟩ := id hX
  have h10 := hok.2.1
  have h6 := hpo.1
  have h14 := hok.1
  obtain ⟨⟨hL1, hL2, hL3⟩, hM1, hM2, hM3⟩ := id hJ
  obtain ⟨⟨hq1, hq2, hq3, hq4⟩, hq5, hq6, hq7, hq8⟩ := hL3 i hi
  obtain ⟨p1, p2, p3, p4, p5⟩ := hpo.2 _ hq5
  obtain ⟨r1, r2, r3, r4, r5⟩ := hPs.2 _ hq5
  have hrb := rt_b hok (knb (X.2.2.2.2.1 (J.1.2.1 i))) (J.1.2.2.1 i) p1
  refine Cm.mk rfl (Nat.le_of_ble_eq_true rfl) (fun K hK hR hm hnn => ?_)
  refine r_aload_n (i := 0) hK dX10_mayBe_0 rfl rfl ?_
  refine r_getA hK flX10_102 to_91 rfl dX10_mayBe_1 ?_
  refine r_iload_n (i := 1) hK dX10_mayBe_4 rfl rfl ?_
  refine r_ialN hK to_121 rfl (by omega) (by decide) hq1 dX10_mayBe_5 ?_
  refine r_istore_n (i := 2) hK hm dX10_mayBe_6 rfl (by decide) ?_
  refine r_aload_n (i := 0) hK dX10_mayBe_7 rfl rfl ?_
  refine r_aload_n (i := 0) hK dX10_mayBe_8 rfl rfl ?_
  refine r_getA hK flX10_31 to_91 rfl dX10_mayBe_9 ?_
  refine r_iload_n (i := 2) hK dX10_mayBe_12 rfl rfl ?_
  refine r_ialN hK to_99 rfl (by omega) (by decide) r5 dX10_mayBe_13 ?_
  refine r_aload_n (i := 0) hK dX10_mayBe_14 rfl rfl ?_
  refine r_getA hK flX10_19 to_91 rfl dX10_mayBe_15 ?_
  refine r_iload_n (i := 2) hK dX10_mayBe_18 rfl rfl ?_
  refine r_ialN hK to_95 rfl (by omega) (by decide) r1 dX10_mayBe_19 ?_
  refine r_aload_n (i := 0) hK dX10_mayBe_20 rfl rfl ?_
  refine r_getA hK flX10_105 to_91 rfl dX10_mayBe_21 ?_
  refine r_iload_n (i := 1) hK dX10_mayBe_24 rfl rfl ?_
  refine r_ialN hK to_122 rfl (by omega) (by decide) hq2 dX10_mayBe_25 ?_
  refine r_ci3 hK hnn (c_mRoute0 hok hW rfl (Nat.lt_trans p5 (by decide)) rfl p1 rfl hq6) moX10_findRoute mlX10_263 to_91 rfl rfl dX10_mayBe_26 (Nat.le_of_ble_eq_true rfl) (Nat.le_of_ble_eq_true rfl) (fun v26 g26 q26 => ?_)
  obtain ⟨f1, f2, f3, rfl, hMP⟩ := q26
  refine r_istore_n (i := 3) hK hm dX10_mayBe_29 rfl (by decide) ?_
  refine r_aload_n (i := 0) hK dX10_mayBe_30 rfl rfl ?_
  refine r_getA hK flX10_108 to_91 rfl dX10_mayBe_31 ?_
  refine r_iload_n (i := 1) hK dX10_mayBe_34 rfl rfl ?_
  refine r_ialN hK to_123 rfl (by omega) (by decide) ((congrFun (FM_pM.1 123 (by omega)) _).trans hq3) dX10_mayBe_35 ?_
  refine r_if_ne (tgt := 60) hK dX10_mayBe_36 (by decide) (fun h36 => ?_) (fun h36 => ?_)
  · refine r_aload_n (i := 0) hK dX10_mayBe_60 rfl rfl ?_
    refine r_getA hK flX10_108 to_91 rfl dX10_mayBe_61 ?_
    refine r_iload_n (i := 1) hK dX10_mayBe_64 rfl rfl ?_
    refine r_ialN hK to_123 rfl (by omega) (by decide) ((congrFun (FM_pM.1 123 (by omega)) _).trans hq3) dX10_mayBe_65 ?_
    refine r_iload_n (i := 3) hK dX10_mayBe_66 rfl rfl ?_
    refine r_icmp_gt (tgt := 99) hK dX10_mayBe_67 (by decide) (fun h67 => ?_) (fun h67 => ?_)
    · refine r_iconst (v := 0) hK dX10_mayBe_99 (by decide) ?_
      refine q_zret hK hR dX10_mayBe_100 (by first | exact Or.inl rfl | exact Or.inr rfl | assumption) ?_
      refine ⟨?_, FM_pM⟩
      unfold juB
      first
        | (rw [decide_eq_false (show ¬ rn0 X.2.1 (knb (X.2.2.2.2.1 (J.1.2.1 i))) (J.1.2.2.1 i) (X.2.2.1.2.1 (J.1.2.1 i)) < J.1.2.2.2.1 i by omega), decide_eq_true (nI_inj (by omega) (by omega) h92)]; rfl)
        | (rw [decide_eq_false (show ¬ rn0 X.2.1 (knb (X.2.2.2.2.1 (J.1.2.1 i))) (J.1.2.2.1 i) (X.2.2.1.2.1 (J.1.2.1 i)) < J.1.2.2.2.1 i by omega), decide_eq_false (fun z => h92 (congrArg nI z))]; rfl)
        | (rw [decide_eq_true (show rn0 X.2.1 (knb (X.2.2.2.2.1 (J.1.2.1 i))) (J.1.2.2.1 i) (X.2.2.1.2.1 (J.1.2.1 i)) < J.1.2.2.2.1 i by rcases mp_v hMP with ⟨z1, z2⟩ | ⟨z1, z2, z3⟩; (rw [z2] at h67; exact (nI_ltI (by omega) (by omega)).mp h67); (have : ¬ J.1.2.2.2.1 i = 0 := fun z => h36 (congrArg nI z); omega))]; rfl)
    · refine r_aload_n (i := 0) hK dX10_mayBe_70 rfl rfl ?_
      have hkr : J.1.2.2.2.1 i ≤ rn0 X.2.1 (knb (X.2.2.2.2.1 (J.1.2.1 i))) (J.1.2.2.1 i) (X.2.2.1.2.1 (J.1.2.1 i)) := by
        rcases mp_v hMP with ⟨z1, z2⟩ | ⟨z1, z2, z3⟩
        · rw [z2] at h67; exact Nat.le_of_not_lt (fun z => h67 (nI_lt z (by omega)))
        · exfalso; rw [z2] at h67; exact h67 (Int32.lt_of_lt_of_le (by decide) (Int32.not_lt.mp (nI_pos (by omega))))
      refine r_aload_n (i := 0) hK dX10_mayBe_71 rfl rfl ?_
      refine r_getA hK flX10_19 to_91 rfl dX10_mayBe_72 ?_
      refine r_iload_n (i := 2) hK dX10_mayBe_75 rfl rfl ?_
      refine r_ialN hK to_95 rfl (by omega) (by decide) ((congrFun (FM_pM.1 95 (by omega)) _).trans r1) dX10_mayBe_76 ?_
      refine r_aload_n (i := 0) hK dX10_mayBe_77 rfl rfl ?_
      refine r_getA hK flX10_108 to_91 rfl dX10_mayBe_78 ?_
      refine r_iload_n (i := 1) hK dX10_mayBe_81 rfl rfl ?_
      refine r_ialN hK to_123 rfl (by omega) (by decide) ((congrFun (FM_pM.1 123 (by omega)) _).trans hq3) dX10_mayBe_82 ?_
      refine r_ci2 hK hnn (c_mStands hok p1 (MR_pM hMP) ((FM_pM.2.1 11 rfl).trans x4) hlaw rfl rfl hkr) moX10_stands mlX10_280 to_91 rfl rfl dX10_mayBe_83 (Nat.le_of_ble_eq_true rfl) (Nat.le_of_ble_eq_true rfl) (eqI ?_)
      have hsb := sL_b hok (knb (X.2.2.2.2.1 (J.1.2.1 i))) (J.1.2.2.1 i) p1 X.2.2.2.2.2 (j := J.1.2.2.2.1 i) hkr
      refine r_aload_n (i := 0) hK dX10_mayBe_86 rfl rfl ?_
      refine r_getA hK flX10_111 to_91 rfl dX10_mayBe_87 ?_
      refine r_iload_n (i := 1) hK dX10_mayBe_90 rfl rfl ?_
      refine r_ialN hK to_124 rfl (by omega) (by decide) ((congrFun (FM_pM.1 124 (by omega)) _).trans hq4) dX10_mayBe_91 ?_
      refine r_icmp_ne (tgt := 99) hK dX10_mayBe_92 (by decide) (fun h92 => ?_) (fun h92 => ?_)
      · refine r_iconst (v := 0) hK dX10_mayBe_99 (by decide) ?_
        refine q_zret hK hR dX10_mayBe_100 (by first | exact Or.inl rfl | exact Or.inr rfl | assumption) ?_
        refine ⟨?_, FM_pM⟩
        unfold juB
        first
          | (rw [decide_eq_false (show ¬ rn0 X.2.1 (knb (X.2.2.2.2.1 (J.1.2.1 i))) (J.1.2.2.1 i) (X.2.2.1.2.1 (J.1.2.1 i)) < J.1.2.2.2.1 i by omega), decide_eq_true (nI_inj (by omega) (by omega) h92)]; rfl)
          | (rw [decide_eq_false (show ¬ rn0 X.2.1 (knb (X.2.2.2.2.1 (J.1.2.1 i))) (J.1.2.2.1 i) (X.2.2.1.2.1 (J.1.2.1 i)) < J.1.2.2.2.1 i by omega), decide_eq_false (fun z => h92 (congrArg nI z))]; rfl)
          | (rw [decide_eq_true (show rn0 X.2.1 (knb (X.2.2.2.2.1 (J.1.2.1 i))) (J.1.2.2.1 i) (X.2.2.1.2.1 (J.1.2.1 i)) < J.1.2.2.2.1 i by rcases mp_v hMP with ⟨z1, z2⟩ | ⟨z1, z2, z3⟩; (rw [z2] at h67; exact (nI_ltI (by omega) (by omega)).mp h67); (have : ¬ J.1.2.2.2.1 i = 0 := fun z => h36 (congrArg nI z); omega))]; rfl)
      · refine r_iconst (v := 1) hK dX10_mayBe_95 (by decide) ?_
        refine r_goto (tgt := 100) hK dX10_mayBe_96 (by decide) ?_
        refine q_zret hK hR dX10_mayBe_100 (by first | exact Or.inl rfl | exact Or.inr rfl | assumption) ?_
        refine ⟨?_, FM_pM⟩
        unfold juB
        first
          | (rw [decide_eq_false (show ¬ rn0 X.2.1 (knb (X.2.2.2.2.1 (J.1.2.1 i))) (J.1.2.2.1 i) (X.2.2.1.2.1 (J.1.2.1 i)) < J.1.2.2.2.1 i by omega), decide_eq_true (nI_inj (by omega) (by omega) h92)]; rfl)
          | (rw [decide_eq_false (show ¬ rn0 X.2.1 (knb (X.2.2.2.2.1 (J.1.2.1 i))) (J.1.2.2.1 i) (X.2.2.1.2.1 (J.1.2.1 i)) < J.1.2.2.2.1 i by omega), decide_eq_false (fun z => h92 (congrArg nI z))]; rfl)
          | (rw [decide_eq_true (show rn0 X.2.1 (knb (X.2.2.2.2.1 (J.1.2.1 i))) (J.1.2.2.1 i) (X.2.2.1.2.1 (J.1.2.1 i)) < J.1.2.2.2.1 i by rcases mp_v hMP with ⟨z1, z2⟩ | ⟨z1, z2, z3⟩; (rw [z2] at h67; exact (nI_ltI (by omega) (by omega)).mp h67); (have : ¬ J.1.2.2.2.1 i = 0 := fun z => h36 (congrArg nI z); omega))]; rfl)
  · refine r_aload_n (i := 0) hK dX10_mayBe_39 rfl rfl ?_
    refine r_getA hK flX10_111 to_91 rfl dX10_mayBe_40 ?_
    refine r_iload_n (i := 1) hK dX10_mayBe_43 rfl rfl ?_
    refine r_ialN hK to_124 rfl (by omega) (by decide) ((congrFun (FM_pM.1 124 (by omega)) _).trans hq4) dX10_mayBe_44 ?_
    refine r_aload_n (i := 0) hK dX10_mayBe_45 rfl rfl ?_
    refine r_getA hK flX10_19 to_91 rfl dX10_mayBe_46 ?_
    refine r_iload_n (i := 2) hK dX10_mayBe_49 rfl rfl ?_
    refine r_ialN hK to_95 rfl (by omega) (by decide) ((congrFun (FM_pM.1 95 (by omega)) _).trans r1) dX10_mayBe_50 ?_
    refine r_icmp_ne (tgt := 58) hK dX10_mayBe_51 (by decide) (fun h51 => ?_) (fun h51 => ?_)
    · refine r_iconst (v := 0) hK dX10_mayBe_58 (by decide) ?_
      refine q_zret hK hR dX10_mayBe_59 (by first | exact Or.inl rfl | exact Or.inr rfl | assumption) ?_
      refine ⟨?_, FM_pM⟩
      have hk0 : J.1.2.2.2.1 i = 0 := nI_inj (by omega) (by decide) (by first | exact h36 | exact Classical.not_not.mp h36)
      unfold juB
      rw [hk0, sL_z, decide_eq_false (show ¬ rn0 X.2.1 (knb (X.2.2.2.2.1 (J.1.2.1 i))) (J.1.2.2.1 i) (X.2.2.1.2.1 (J.1.2.1 i)) < 0 from Nat.not_lt_zero _), Bool.false_or, Bool.not_not]
      first
        | (rw [decide_eq_true (nI_inj (by omega) (by omega) h51).symm]; rfl)
        | (rw [decide_eq_false (fun z => h51 (congrArg nI z.symm))]; rfl)
    · refine r_iconst (v := 1) hK dX10_mayBe_54 (by decide) ?_
      refine r_goto (tgt := 59) hK dX10_mayBe_55 (by decide) ?_
      refine q_zret hK hR dX10_mayBe_59 (by first | exact Or.inl rfl | exact Or.inr rfl | assumption) ?_
      refine ⟨?_, FM_pM⟩
      have hk0 : J.1.2.2.2.1 i = 0 := nI_inj (by omega) (by decide) (by first | exact h36 | exact Classical.not_not.mp h36)
      unfold juB
      rw [hk0, sL_z, decide_eq_false (show ¬ rn0 X.2.1 (knb (X.2.2.2.2.1 (J.1.2.1 i))) (J.1.2.2.1 i) (X.2.2.1.2.1 (J.1.2.1 i)) < 0 from Nat.not_lt_zero _), Bool.false_or, Bool.not_not]
      first
        | (rw [decide_eq_true (nI_inj (by omega) (by omega) h51).symm]; rfl)
        | (rw [decide_eq_false (fun z => h51 (congrArg nI z.symm))]; rfl)
set_option maxHeartbeats 4000000 in
set_option maxRecDepth 100000 in
theorem lm_ju {K : KT} {ad : Nat → Nat} {g : St} {X : LN} (hX : MC g X) {J : JN} (hJ : MJ g X J) (hK : Cx K RX10 cX10_judge 5 ad) (hm : K.2.2.1.2.maxLocals = 2) (hnn : Nn K 0 0)
    (hR : Rt K 0 0 TT ad (some .int) (Qi ad (fun v g' => v = aJud X J ∧ FM g g'))) :
    ∀ m i, i + m = J.1.1 → fdF (juB X J) m i = fdF (juB X J) J.1.1 0 → ∀ g1 : St, FM g g1 → Wp K 0 0 TT ad g1 2 [(0, .ref 91), (1, .int (nI i))] [] := by
  intro m
  induction m with
  | zero =>
    intro i him hfd g1 hfr
    obtain ⟨⟨hL1, hL2, hL3⟩, j2⟩ := MJ_of hJ hfr
    refine r_iload_n (i := 1) hK dX10_judge_2 rfl rfl ?_
    refine r_aload_n (i := 0) hK dX10_judge_3 rfl rfl ?_
    refine r_getI hK flX10_229 to_91 rfl dX10_judge_4 ?_
    refine r_top (y := nI J.1.1) hL1 ?_
    refine r_icmp_ge (tgt := 26) hK dX10_judge_7 (by decide) (fun _ => ?_) (fun h => absurd (nI_le (by omega) (by omega)) h)
    refine r_iconst (v := (-1)) hK dX10_judge_26 (by decide) ?_
    refine q_iret hK hR dX10_judge_27 ⟨?_, hfr⟩
    unfold aJud
    rw [← hfd, if_neg (by show ¬ i < J.1.1; omega)]
  | succ m ih =>
    intro i him hfd g1 hfr
    have hX1 := MC_of hX hfr
    have hJ1 := MJ_of hJ hfr
    have hi : i < J.1.1 := by omega
    obtain ⟨⟨hL1, hL2, hL3⟩, j2⟩ := id hJ1
    refine r_iload_n (i := 1) hK dX10_judge_2 rfl rfl ?_
    refine r_aload_n (i := 0) hK dX10_judge_3 rfl rfl ?_
    refine r_getI hK flX10_229 to_91 rfl dX10_judge_4 ?_
    refine r_top (y := nI J.1.1) hL1 ?_
    refine r_icmp_ge (tgt := 26) hK dX10_judge_7 (by decide) (fun h => absurd h (nI_ge hi (by omega))) (fun _ => ?_)
    refine r_aload_n (i := 0) hK dX10_judge_10 rfl rfl ?_
    refine r_iload_n (i := 1) hK dX10_judge_11 rfl rfl ?_
    refine r_ci1 hK hnn (c_mMayBe hX1 hJ1 rfl hi) moX10_mayBe mlX10_352 to_91 rfl rfl dX10_judge_12 (Nat.le_of_ble_eq_true rfl) (Nat.le_of_ble_eq_true rfl) (fun v12 g12 q12 => ?_)
    obtain ⟨rfl, hf2⟩ := q12
    refine r_if_ne (tgt := 20) hK dX10_judge_15 (by decide) (fun h15 => ?_) (fun h15 => ?_)
    · refine r_iincN (i := 1) hK hm dX10_judge_20 rfl (by decide) ?_
      refine r_goto (tgt := 2) hK dX10_judge_23 (by decide) ?_
      refine r_loc ?_ (ih (i + 1) (by omega) ?_ _ (hfr.tr hf2))
      · rfl
      · rw [← hfd, fdF_succ, if_neg]
        have z := B1_n.mp h15
        rw [Bool.not_eq_true'] at z
        rw [z]; decide
    · refine r_iload_n (i := 1) hK dX10_judge_18 rfl rfl ?_
      refine q_iret hK hR dX10_judge_19 ?_
      refine ⟨?_, hfr.tr hf2⟩
      have hz : juB X J i = true := by
        have z := B1_0.mp h15
        rwa [Bool.not_eq_false'] at z
      unfold aJud
      rw [← hfd, fdF_succ, if_pos hz, if_pos hi]
set_option maxHeartbeats 4000000 in
set_option maxRecDepth 100000 in
theorem c_mJudge {ad : Nat → Nat} {g : St} {X : LN} (hX : MC g X) {J : JN} (hJ : MJ g X J) : Ci 5 mX10_judge [.ref 91] ad g (fun v g' => v = aJud X J ∧ FM g g') := by
  refine Cm.mk rfl (Nat.le_of_ble_eq_true rfl) (fun K hK hR hm hnn => ?_)
  refine r_iconst (v := 0) hK dX10_judge_0 (by decide) ?_
  refine r_istore_n (i := 1) hK hm dX10_judge_1 rfl (by decide) ?_
  refine r_loc ?_ (lm_ju hX hJ hK hm hnn hR J.1.1 0 (by omega) rfl g FM.rf)
  rfl
