/-! THE MODEL: drift -/
set_option maxHeartbeats 4000000 in
set_option maxRecDepth 100000 in
theorem c_mStr {ad : Nat → Nat} {g : St} {X : LN} (hX : MC g X) {s : Nat} (h0 : X.1 ≠ 0) (hsd : g.1 91 12 = nI s) (hs0 : s < 2147483648) : Ci 6 mX10_strangerBy [.ref 91] ad g (fun v g' => v = (if (drL X s).2.1 = drT X s then nI (drL X s).2.2.1 else -1) ∧ FW g (drL X s).2.2.2.2 g') := by
  obtain ⟨hok, hpo, hlaw, x1, hW, hPs, x4⟩ := id hX
  have h10 := hok.2.1
  have h6 := hpo.1
  have h14 := hok.1
  obtain ⟨R, hRe⟩ : ∃ R, R = drL X s := ⟨_, rfl⟩
  obtain ⟨t, hte⟩ : ∃ t, t = drT X s := ⟨_, rfl⟩
  have hRf : ldF X.2.2.1 (vX X t false) t true 6 (0, drA X s, 0, 0, sdN (sdN s)) = R := by rw [hRe, hte]; rfl
  have hte2 := hte
  unfold drT at hte
  unfold drA at hRf
  obtain ⟨s1, hs1⟩ : ∃ s1, s1 = sdN s := ⟨_, rfl⟩
  rw [← hs1] at hRf hte
  obtain ⟨s2, hs2⟩ : ∃ s2, s2 = sdN s1 := ⟨_, rfl⟩
  rw [← hs2] at hRf hte
  obtain ⟨a, hae⟩ : ∃ a, a = s1 / 65536 % X.1 := ⟨_, rfl⟩
  rw [← hae] at hRf
  have hs1l : s1 < 2147483648 := by rw [hs1]; exact sdN_lt
  have hs2l : s2 < 2147483648 := by rw [hs2]; exact sdN_lt
  have ha : a < X.1 := by rw [hae]; exact Nat.mod_lt _ (by omega)
  have ht : t < X.1 := by rw [hte]; exact Nat.mod_lt _ (by omega)
  refine Cm.mk rfl (Nat.le_of_ble_eq_true rfl) (fun K hK hR hm hnn => ?_)
  refine r_aload_n (i := 0) hK dX10_strangerBy_0 rfl rfl ?_
  refine r_aload_n (i := 0) hK dX10_strangerBy_1 rfl rfl ?_
  refine r_getI hK flX10_121 to_91 rfl dX10_strangerBy_2 ?_
  refine r_top (y := nI X.1) x1 ?_
  refine r_ci1 hK hnn (c_mDraw hsd hs0 rfl (by omega) (by omega)) moX10_draw mlX10_365 to_91 rfl rfl dX10_strangerBy_5 (Nat.le_of_ble_eq_true rfl) (Nat.le_of_ble_eq_true rfl) (eqI ?_)
  rw [← hs1, ← hae]
  refine r_istore_n (i := 1) hK hm dX10_strangerBy_8 rfl (by decide) ?_
  refine r_aload_n (i := 0) hK dX10_strangerBy_9 rfl rfl ?_
  refine r_aload_n (i := 0) hK dX10_strangerBy_10 rfl rfl ?_
  refine r_getI hK flX10_121 to_91 rfl dX10_strangerBy_11 ?_
  refine r_top (y := nI X.1) ((upd_n2 (by decide)).trans x1) ?_
  refine r_ci1 hK hnn (c_mDraw (s := s1) (by rw [upI_s, upd_s]) hs1l rfl (by omega) (by omega)) moX10_draw mlX10_365 to_91 rfl rfl dX10_strangerBy_14 (Nat.le_of_ble_eq_true rfl) (Nat.le_of_ble_eq_true rfl) (eqI ?_)
  rw [← hs2, ← hte]
  have hw2 : FW g s2 (upI (upI g 91 12 (nI s1)) 91 12 (nI s2)) := FW_up.trw FW_up
  have hX2 := MC_fw hX hw2
  refine r_istore_n (i := 2) hK hm dX10_strangerBy_17 rfl (by decide) ?_
  refine r_aload_n (i := 0) hK dX10_strangerBy_18 rfl rfl ?_
  refine r_iload_n (i := 2) hK dX10_strangerBy_19 rfl rfl ?_
  refine r_iconst (v := 0) hK dX10_strangerBy_20 (by decide) ?_
  refine r_cv2 hK hnn (c_mFindEnds (own := false) hX2 rfl ht rfl) moX10_findEnds mlX10_295 to_91 rfl rfl dX10_strangerBy_21 (Nat.le_of_ble_eq_true rfl) (Nat.le_of_ble_eq_true rfl) (fun g21 q21 => ?_)
  obtain ⟨hf21, hG⟩ := q21
  rw [← hRe, ← hte2] at hR
  have hw3 := hw2.tr hf21
  refine r_iconst (v := 0) hK dX10_strangerBy_24 (by decide) ?_
  refine r_istore_n (i := 3) hK hm dX10_strangerBy_25 rfl (by decide) ?_
  refine r_iconst (v := 0) hK dX10_strangerBy_26 (by decide) ?_
  refine r_istore (i := 4) hK hm dX10_strangerBy_27 (by decide) ?_
  refine r_loc ?_ (lm_st (R := R) (MC_of hX2 hf21) (vX_ok hok hpo t) hG ht hK hm hnn hR (fun v g' h => ⟨h.1, hw3.trw h.2.fw⟩) 6 (0, a, 0, 0, s2) (Nat.le_trans (sp_cn_le _ _) h6) (by show 0 < 64; omega) ha hs2l hRf _ (FU_rf hw3.2.2.2))
  rfl
theorem drS_q {X : LN} {A : DS} : drS X A = drQ (drL X A.2.2) (drT X A.2.2) A := rfl
set_option maxHeartbeats 4000000 in
set_option maxRecDepth 100000 in
theorem lm_dri {K : KT} {ad : Nat → Nat} {g : St} {X : LN} (hX : MC g X) {s N : Nat} {x : Int32} (h0 : X.1 ≠ 0) (hN : N ≤ 99) (hK : Cx K RX10 cX10_drift 7 ad) (hm : K.2.2.1.2.maxLocals = 7) (hnn : Nn K 0 0)
    (hR : Rt K 0 0 TT ad (some .int) (Qi ad (fun v g' => v = (if x = 0 then nI (drF X N (0, 0, s)).1 else nI (drF X N (0, 0, s)).2.1) ∧ FW g (drF X N (0, 0, s)).2.2 g'))) :
    ∀ m i, i + m = N → ∀ (A : DS) (g1 : St), FW g A.2.2 g1 → A.2.2 < 2147483648 → drF X m A = drF X N (0, 0, s) → Wp K 0 0 TT ad g1 44 [(0, .ref 91), (1, .int (nI N)), (2, .int x), (3, .int (nI A.1)), (4, .int (nI A.2.1)), (5, .int (nI i))] [] := by
  intro m
  induction m with
  | zero =>
    intro i him A g1 hfd hsA hnx
    refine r_iload (i := 5) hK dX10_drift_44 rfl ?_
    refine r_iload_n (i := 1) hK dX10_drift_46 rfl rfl ?_
    refine r_icmp_ge (tgt := 91) hK dX10_drift_47 (by decide) (fun _ => ?_) (fun h => absurd (nI_le (by omega) (by omega)) h)
    have hA : A = drF X N (0, 0, s) := (drF_zero X A).symm.trans hnx
    refine r_iload_n (i := 2) hK dX10_drift_91 rfl rfl ?_
    refine r_if_ne (tgt := 99) hK dX10_drift_92 (by decide) (fun h92 => ?_) (fun h92 => ?_)
    · refine r_iload (i := 4) hK dX10_drift_99 rfl ?_
      refine q_iret hK hR dX10_drift_101 ?_
      refine ⟨?_, hA ▸ hfd⟩
      first
        | (rw [if_pos (Classical.not_not.mp h92), ← hA]; done)
        | (rw [if_pos h92, ← hA]; done)
        | (rw [if_neg h92, ← hA]; done)
    · refine r_iload_n (i := 3) hK dX10_drift_95 rfl rfl ?_
      refine r_goto (tgt := 101) hK dX10_drift_96 (by decide) ?_
      refine q_iret hK hR dX10_drift_101 ?_
      refine ⟨?_, hA ▸ hfd⟩
      first
        | (rw [if_pos (Classical.not_not.mp h92), ← hA]; done)
        | (rw [if_pos h92, ← hA]; done)
        | (rw [if_neg h92, ← hA]; done)
  | succ m ih =>
    intro i him A g1 hfd hsA hnx
    have hX1 := MC_fw hX hfd
    obtain ⟨hok, hpo, hlaw, x1, hW, hPs, x4⟩ := id hX1
    have hi : i < N := by omega
    rw [drF_succ, drS_q] at hnx
    have hSok := drL_ok (X := X) (t := drT X A.2.2) (a := drA X A.2.2) (s := sdN (sdN A.2.2)) hok hpo (Nat.mod_lt _ (by omega)) sdN_lt
    obtain ⟨t, hte⟩ : ∃ t, t = drT X A.2.2 := ⟨_, rfl⟩
    obtain ⟨S, hSe⟩ : ∃ S, S = drL X A.2.2 := ⟨_, rfl⟩
    rw [← hSe, ← hte] at hnx
    have hS5 : S.2.2.2.2 < 2147483648 := by rw [hSe]; exact hSok.2.2.2.2
    have hS3 : S.2.2.1 ≤ 5346 := by
      have q1 := hSok.2.2.1
      have q2 := hSok.2.2.2.1
      rw [hSe]
      show (ldF _ _ _ _ _ _).2.2.1 ≤ 5346
      unfold drA at q1 q2
      unfold drA
      omega
    refine r_iload (i := 5) hK dX10_drift_44 rfl ?_
    refine r_iload_n (i := 1) hK dX10_drift_46 rfl rfl ?_
    refine r_icmp_ge (tgt := 91) hK dX10_drift_47 (by decide) (fun h => absurd h (nI_ge hi (by omega))) (fun _ => ?_)
    refine r_aload_n (i := 0) hK dX10_drift_50 rfl rfl ?_
    refine r_ci0 hK hnn (c_mStr hX1 h0 hfd.2.2.2 hsA) moX10_strangerBy mlX10_371 to_91 rfl rfl dX10_drift_51 (Nat.le_of_ble_eq_true rfl) (Nat.le_of_ble_eq_true rfl) (fun v51 g51 q51 => ?_)
    obtain ⟨hv51, hf51⟩ := q51
    rw [← hSe, ← hte] at hv51
    rw [← hSe] at hf51
    refine r_istore (i := 6) hK hm dX10_drift_54 (by decide) ?_
    refine r_iload_n (i := 3) hK dX10_drift_56 rfl rfl ?_
    refine r_iload (i := 6) hK dX10_drift_57 rfl ?_
    refine r_if_lt (tgt := 66) hK dX10_drift_59 (by decide) (fun h59 => ?_) (fun h59 => ?_)
    · refine r_iconst (v := 0) hK dX10_drift_66 (by decide) ?_
      refine r_iadd hK dX10_drift_67 ?_
      refine r_top (y := nI A.1) (Int32.add_zero _) ?_
      refine r_istore_n (i := 3) hK hm dX10_drift_68 rfl (by decide) ?_
      refine r_iload (i := 4) hK dX10_drift_69 rfl ?_
      refine r_iload (i := 6) hK dX10_drift_71 rfl ?_
      refine r_if_lt (tgt := 81) hK dX10_drift_73 (by decide) (fun _ => ?_) (fun h => absurd h59 h)
      refine r_iconst (v := 0) hK dX10_drift_81 (by decide) ?_
      refine r_iadd hK dX10_drift_82 ?_
      refine r_top (y := nI A.2.1) (Int32.add_zero _) ?_
      have hst : ¬ S.2.1 = t := fun z => by rw [hv51, if_pos z] at h59; exact nI_pos (by omega) h59
      rw [drQ_n hst] at hnx
      refine r_istore (i := 4) hK hm dX10_drift_83 (by decide) ?_
      refine r_iincN (i := 5) hK hm dX10_drift_85 rfl (by decide) ?_
      refine r_goto (tgt := 44) hK dX10_drift_88 (by decide) ?_
      first
        | (refine r_loc ?_ (ih (i + 1) (by omega) (A.1 + 1, A.2.1 + S.2.2.1, S.2.2.2.2) _ (hfd.trw hf51) hS5 hnx); rfl)
        | (refine r_loc ?_ (ih (i + 1) (by omega) (A.1, A.2.1, S.2.2.2.2) _ (hfd.trw hf51) hS5 hnx); rfl)
    · refine r_iconst (v := 1) hK dX10_drift_62 (by decide) ?_
      refine r_goto (tgt := 67) hK dX10_drift_63 (by decide) ?_
      refine r_iadd hK dX10_drift_67 ?_
      refine r_top (y := nI (A.1 + 1)) (nI_add A.1 1) ?_
      refine r_istore_n (i := 3) hK hm dX10_drift_68 rfl (by decide) ?_
      refine r_iload (i := 4) hK dX10_drift_69 rfl ?_
      refine r_iload (i := 6) hK dX10_drift_71 rfl ?_
      refine r_if_lt (tgt := 81) hK dX10_drift_73 (by decide) (fun h => absurd h h59) (fun _ => ?_)
      refine r_iload (i := 6) hK dX10_drift_76 rfl ?_
      refine r_goto (tgt := 82) hK dX10_drift_78 (by decide) ?_
      refine r_iadd hK dX10_drift_82 ?_
      have hst : S.2.1 = t := Classical.byContradiction (fun z => h59 (by rw [hv51, if_neg z]; decide))
      rw [if_pos hst] at hv51
      rw [drQ_p hst] at hnx
      refine r_top (y := nI (A.2.1 + S.2.2.1)) (by rw [hv51]; exact nI_add _ _) ?_
      refine r_istore (i := 4) hK hm dX10_drift_83 (by decide) ?_
      refine r_iincN (i := 5) hK hm dX10_drift_85 rfl (by decide) ?_
      refine r_goto (tgt := 44) hK dX10_drift_88 (by decide) ?_
      first
        | (refine r_loc ?_ (ih (i + 1) (by omega) (A.1 + 1, A.2.1 + S.2.2.1, S.2.2.2.2) _ (hfd.trw hf51) hS5 hnx); rfl)
        | (refine r_loc ?_ (ih (i + 1) (by omega) (A.1, A.2.1, S.2.2.2.2) _ (hfd.trw hf51) hS5 hnx); rfl)
set_option maxHeartbeats 4000000 in
set_option maxRecDepth 100000 in
theorem c_mDrift {ad : Nat → Nat} {g : St} {X : LN} (hX : MC g X) {n x : Int32} {s : Nat} (hsd : g.1 91 12 = nI s) (hs0 : s < 2147483648) : Ci 7 mX10_drift [.ref 91, .int n, .int x] ad g (fun v g' => v = aDri X s n x ∧ FW g (sDri X s n x) g') := by
  obtain ⟨hok, hpo, hlaw, x1, hW, hPs, x4⟩ := id hX
  have h10 := hok.2.1
  have h6 := hpo.1
  have h14 := hok.1
  refine Cm.mk rfl (Nat.le_of_ble_eq_true rfl) (fun K hK hR hm hnn => ?_)
  refine r_iload_n (i := 1) hK dX10_drift_0 rfl rfl ?_
  refine r_i2l hK dX10_drift_1 ?_
  refine r_lconst (v := 1) hK dX10_drift_2 (by decide) ?_
  refine r_ldc2 hK ckX10_368 dX10_drift_3 ?_
  refine r_si3 hK hnn c_mIn moX10_in mlX10_124 dX10_drift_6 (Nat.le_of_ble_eq_true rfl) (Nat.le_of_ble_eq_true rfl) (eqI ?_)
  refine r_top (y := B1 (bI n 1 99)) (congrArg B1 (inL_b (lI := 1) (hI := 99) rfl rfl)) ?_
  refine r_if_eq (tgt := 22) hK dX10_drift_9 (by decide) (fun h9 => ?_) (fun h9 => ?_)
  · refine r_ldc hK ckX10_136 dX10_drift_22 ?_
    refine q_iret hK hR dX10_drift_24 ?_
    unfold aDri sDri
    first
      | (have hE : drE n x := Or.inl (bI_f.mp (B1_0.mp h9)); rw [if_pos hE, if_pos hE]; exact ⟨rfl, FW_rf hsd⟩)
      | (have hE : drE n x := Or.inr (bI_f.mp (B1_0.mp h19)); rw [if_pos hE, if_pos hE]; exact ⟨rfl, FW_rf hsd⟩)
  · refine r_iload_n (i := 2) hK dX10_drift_12 rfl rfl ?_
    refine r_i2l hK dX10_drift_13 ?_
    refine r_lconst (v := 0) hK dX10_drift_14 (by decide) ?_
    refine r_lconst (v := 1) hK dX10_drift_15 (by decide) ?_
    refine r_si3 hK hnn c_mIn moX10_in mlX10_124 dX10_drift_16 (Nat.le_of_ble_eq_true rfl) (Nat.le_of_ble_eq_true rfl) (eqI ?_)
    refine r_top (y := B1 (bI x 0 1)) (congrArg B1 (inL_b (lI := 0) (hI := 1) rfl rfl)) ?_
    refine r_if_ne (tgt := 25) hK dX10_drift_19 (by decide) (fun h19 => ?_) (fun h19 => ?_)
    · refine r_aload_n (i := 0) hK dX10_drift_25 rfl rfl ?_
      refine r_getI hK flX10_121 to_91 rfl dX10_drift_26 ?_
      refine r_top (y := nI X.1) x1 ?_
      have hE : ¬ drE n x := fun z => z.elim (bI_t.mp (B1_n.mp h9)) (bI_t.mp (B1_n.mp h19))
      obtain ⟨hn1, hn2⟩ := l1I (not_or.mp (bI_t.mp (B1_n.mp h9))).1 (not_or.mp (bI_t.mp (B1_n.mp h9))).2
      refine r_if_ne (tgt := 36) hK dX10_drift_29 (by decide) (fun h29 => ?_) (fun h29 => ?_)
      · refine r_iconst (v := 0) hK dX10_drift_36 (by decide) ?_
        refine r_istore_n (i := 3) hK hm dX10_drift_37 rfl (by decide) ?_
        refine r_iconst (v := 0) hK dX10_drift_38 (by decide) ?_
        refine r_istore (i := 4) hK hm dX10_drift_39 (by decide) ?_
        refine r_iconst (v := 0) hK dX10_drift_41 (by decide) ?_
        refine r_istore (i := 5) hK hm dX10_drift_42 (by decide) ?_
        have h0 : X.1 ≠ 0 := fun z => h29 (by rw [z]; rfl)
        unfold aDri sDri at hR
        simp only [if_neg hE, if_neg h0] at hR
        refine r_loc ?_ (lm_dri hX h0 hn1 hK hm hnn hR n.toNatClampNeg 0 (by omega) (0, 0, s) g (FW_rf hsd) hs0 rfl)
        simp only [List.map_cons, List.map_nil]
        rw [← hn2]
        rfl
      · refine r_ldcw hK ckX10_370 dX10_drift_32 ?_
        refine q_iret hK hR dX10_drift_35 ?_
        unfold aDri sDri
        have h0 : X.1 = 0 := nI_inj (by omega) (by decide) (by first | exact h29 | exact Classical.not_not.mp h29)
        rw [if_neg hE, if_pos h0, if_neg hE, if_pos h0]
        exact ⟨rfl, FW_rf hsd⟩
    · refine r_ldc hK ckX10_136 dX10_drift_22 ?_
      refine q_iret hK hR dX10_drift_24 ?_
      unfold aDri sDri
      first
        | (have hE : drE n x := Or.inl (bI_f.mp (B1_0.mp h9)); rw [if_pos hE, if_pos hE]; exact ⟨rfl, FW_rf hsd⟩)
        | (have hE : drE n x := Or.inr (bI_f.mp (B1_0.mp h19)); rw [if_pos hE, if_pos hE]; exact ⟨rfl, FW_rf hsd⟩)
