/-! THE MODEL: far, route, says, own -/
set_option maxHeartbeats 4000000 in
set_option maxRecDepth 100000 in
theorem c_mFar {ad : Nat → Nat} {g : St} {X : LN} (hX : MC g X) {a b : Int32} : Ci 3 mX10_far [.ref 91, .int a, .int b] ad g (fun v g' => v = aFar X a b ∧ FM g g') := by
  obtain ⟨hok, hpo, hlaw, x1, hW, hPs, x4⟩ := id hX
  have h10 := hok.2.1
  have h6 := hpo.1
  have h14 := hok.1
  refine Cm.mk rfl (Nat.le_of_ble_eq_true rfl) (fun K hK hR hm hnn => ?_)
  refine r_aload_n (i := 0) hK dX10_far_0 rfl rfl ?_
  refine r_iload_n (i := 1) hK dX10_far_1 rfl rfl ?_
  refine r_ci1 hK hnn (c_misPlace x1 (by omega)) moX10_isPlace mlX10_256 to_91 rfl rfl dX10_far_2 (Nat.le_of_ble_eq_true rfl) (Nat.le_of_ble_eq_true rfl) (eqI ?_)
  refine r_if_eq (tgt := 16) hK dX10_far_5 (by decide) (fun h5 => ?_) (fun h5 => ?_)
  · refine r_ldc hK ckX10_242 dX10_far_16 ?_
    refine q_iret hK hR dX10_far_18 ?_
    refine ⟨?_, FM.rf⟩
    unfold aFar
    first
      | (rw [if_neg (by rw [B1_0.mp h5]; simp)]; done)
      | (rw [if_neg (by rw [B1_0.mp h13]; simp)]; done)
  · refine r_aload_n (i := 0) hK dX10_far_8 rfl rfl ?_
    refine r_iload_n (i := 2) hK dX10_far_9 rfl rfl ?_
    refine r_ci1 hK hnn (c_misPlace x1 (by omega)) moX10_isPlace mlX10_256 to_91 rfl rfl dX10_far_10 (Nat.le_of_ble_eq_true rfl) (Nat.le_of_ble_eq_true rfl) (eqI ?_)
    refine r_if_ne (tgt := 19) hK dX10_far_13 (by decide) (fun h13 => ?_) (fun h13 => ?_)
    · refine r_aload_n (i := 0) hK dX10_far_19 rfl rfl ?_
      have hb1 := B1_n.mp h5
      have hb2 := B1_n.mp h13
      obtain ⟨ha1, ha2⟩ := isB_cl (by omega) hb1
      obtain ⟨hb3, hb4⟩ := isB_cl (by omega) hb2
      have hpw : 2 ^ X.2.1.1 ≤ 2 ^ 14 := Nat.pow_le_pow_right (by decide) h14
      refine r_iconst (v := 1) hK dX10_far_20 (by decide) ?_
      refine r_aload_n (i := 0) hK dX10_far_21 rfl rfl ?_
      refine r_getI hK flX10_128 to_91 rfl dX10_far_22 ?_
      refine r_top (y := nI X.2.1.1) hW.1 ?_
      refine r_ishl hK dX10_far_25 ?_
      refine r_iconst (v := 1) hK dX10_far_26 (by decide) ?_
      refine r_isub hK dX10_far_27 ?_
      refine r_top (y := nI (2 ^ X.2.1.1 - 1)) (bits_nI h14) ?_
      refine r_iload_n (i := 2) hK dX10_far_28 rfl rfl ?_
      refine r_cv2 hK hnn (c_mNeeds (k := 2 ^ X.2.1.1 - 1) hok hW rfl (Nat.lt_of_le_of_lt (Nat.sub_le _ _) (Nat.lt_of_le_of_lt hpw (by decide))) hb4 (by omega)) moX10_findNeeds mlX10_249 to_91 rfl rfl dX10_far_29 (Nat.le_of_ble_eq_true rfl) (Nat.le_of_ble_eq_true rfl) (fun g29 q29 => ?_)
      obtain ⟨f, rfl, hf⟩ := q29
      have hle : kW X.2.1 (allK X.2.1) (nC b) (nC a) ≤ 1000000 := sp_K_le (nC a)
      refine r_aload_n (i := 0) hK dX10_far_32 rfl rfl ?_
      refine r_getA hK flX10_65 to_91 rfl dX10_far_33 ?_
      refine r_iload_n (i := 1) hK dX10_far_36 rfl rfl ?_
      refine r_ialN hK to_109 ha2 (by omega) (by decide) ((congrFun upR_s _).trans (hf _ (by omega))) dX10_far_37 ?_
      refine r_ldc hK ckX10_248 dX10_far_38 ?_
      refine r_icmp_lt (tgt := 47) hK dX10_far_40 (by decide) (fun h40 => ?_) (fun h40 => ?_)
      · refine r_aload_n (i := 0) hK dX10_far_47 rfl rfl ?_
        refine r_getA hK flX10_65 to_91 rfl dX10_far_48 ?_
        refine r_iload_n (i := 1) hK dX10_far_51 rfl rfl ?_
        refine r_ialN hK to_109 ha2 (by omega) (by decide) ((congrFun upR_s _).trans (hf _ (by omega))) dX10_far_52 ?_
        refine r_bipush (v := 16) hK dX10_far_53 (by decide) ?_
        refine r_idiv hK dX10_far_55 (by decide) ?_
        refine r_top (y := nI (kW X.2.1 (allK X.2.1) (nC b) (nC a) / 16)) (pk_div (a := kW X.2.1 (allK X.2.1) (nC b) (nC a)) (d := 16) (by have := sp_K_le (E := wE X.2.1 (allK X.2.1)) (F := FR) (t := nC b) (nC a); exact Nat.lt_of_le_of_lt this (by decide)) (by decide) (by decide)) ?_
        refine q_iret hK hR dX10_far_56 ?_
        refine ⟨?_, FM.rf.upR (by decide) (by decide)⟩
        unfold aFar
        rw [if_pos (by rw [hb1, hb2]; rfl)]
        unfold farV
        first
          | (rw [if_neg (show ¬ kW X.2.1 (allK X.2.1) (nC b) (nC a) < FR from nlt_I h40 (by decide))]; done)
          | (have hlt : kW X.2.1 (allK X.2.1) (nC b) (nC a) < FR := lt_of_I h40 (by omega); rw [if_pos hlt]; refine congrArg nI ?_; have e1 : kW X.2.1 (allK X.2.1) (nC b) (nC a) = 16 * rM X.2.1 (allK X.2.1) (nC b) (nC a) (rN X.2.1 (allK X.2.1) (nC b) (nC a)) + rN X.2.1 (allK X.2.1) (nC b) (nC a) := rN_key hok ha1 hlt; have e2 : rN X.2.1 (allK X.2.1) (nC b) (nC a) ≤ 9 := (rN_go hok ha1 hlt).1; omega)
      · refine r_iconst (v := (-1)) hK dX10_far_43 (by decide) ?_
        refine r_goto (tgt := 56) hK dX10_far_44 (by decide) ?_
        refine q_iret hK hR dX10_far_56 ?_
        refine ⟨?_, FM.rf.upR (by decide) (by decide)⟩
        unfold aFar
        rw [if_pos (by rw [hb1, hb2]; rfl)]
        unfold farV
        first
          | (rw [if_neg (show ¬ kW X.2.1 (allK X.2.1) (nC b) (nC a) < FR from nlt_I h40 (by decide))]; done)
          | (have hlt : kW X.2.1 (allK X.2.1) (nC b) (nC a) < FR := lt_of_I h40 (by omega); rw [if_pos hlt]; refine congrArg nI ?_; have e1 : kW X.2.1 (allK X.2.1) (nC b) (nC a) = 16 * rM X.2.1 (allK X.2.1) (nC b) (nC a) (rN X.2.1 (allK X.2.1) (nC b) (nC a)) + rN X.2.1 (allK X.2.1) (nC b) (nC a) := rN_key hok ha1 hlt; have e2 : rN X.2.1 (allK X.2.1) (nC b) (nC a) ≤ 9 := (rN_go hok ha1 hlt).1; omega)
    · refine r_ldc hK ckX10_242 dX10_far_16 ?_
      refine q_iret hK hR dX10_far_18 ?_
      refine ⟨?_, FM.rf⟩
      unfold aFar
      first
        | (rw [if_neg (by rw [B1_0.mp h5]; simp)]; done)
        | (rw [if_neg (by rw [B1_0.mp h13]; simp)]; done)
theorem isB_pr {x : Int32} {n : Nat} (h : isB x n = true) : ¬ x < 0 ∧ x < nI n := by
  unfold isB at h
  simp only [Bool.and_eq_true, Bool.not_eq_true', decide_eq_false_iff_not, decide_eq_true_eq] at h
  exact h
theorem pr_isB {x : Int32} {n : Nat} (h : ¬ x < 0 ∧ x < nI n) : isB x n = true := by
  unfold isB
  rw [decide_eq_false h.1, decide_eq_true h.2]
  rfl
set_option maxHeartbeats 4000000 in
set_option maxRecDepth 100000 in
theorem c_mRoute {ad : Nat → Nat} {g : St} {X : LN} (hX : MC g X) {p a t i : Int32} : Ci 4 mX10_route [.ref 91, .int p, .int a, .int t, .int i] ad g (fun v g' => v = aRou X p a t i ∧ FM g g') := by
  obtain ⟨hok, hpo, hlaw, x1, hW, hPs, x4⟩ := id hX
  have h10 := hok.2.1
  have h6 := hpo.1
  have h14 := hok.1
  refine Cm.mk rfl (Nat.le_of_ble_eq_true rfl) (fun K hK hR hm hnn => ?_)
  refine r_aload_n (i := 0) hK dX10_route_0 rfl rfl ?_
  refine r_iload_n (i := 1) hK dX10_route_1 rfl rfl ?_
  refine r_iload_n (i := 2) hK dX10_route_2 rfl rfl ?_
  refine r_iload_n (i := 3) hK dX10_route_3 rfl rfl ?_
  refine r_ci3 hK hnn (c_misAsked hX) moX10_isAsked mlX10_259 to_91 rfl rfl dX10_route_4 (Nat.le_of_ble_eq_true rfl) (Nat.le_of_ble_eq_true rfl) (eqI ?_)
  refine r_if_ne (tgt := 13) hK dX10_route_7 (by decide) (fun h7 => ?_) (fun h7 => ?_)
  · refine r_aload_n (i := 0) hK dX10_route_13 rfl rfl ?_
    have hkA := B1_n.mp h7
    obtain ⟨⟨hp, hp2⟩, ⟨ha, ha2⟩, ht, ht2⟩ := kA_cl h10 h6 hkA
    obtain ⟨p1, p2, p3, p4, p5⟩ := hpo.2 _ hp
    obtain ⟨r1, r2, r3, r4, r5⟩ := hPs.2 _ hp
    have hrb := rt_b hok (kN X (nC p)) (nC t) ha
    have hrbA : rn0 X.2.1 (knb (X.2.2.2.2.1 p.toNatClampNeg)) t.toNatClampNeg a.toNatClampNeg ≤ 9 := hrb.1
    have hrbB : rn0 X.2.1 (kN X (nC p)) (nC t) (nC a) ≤ 9 := hrb.1
    have hrbC : rn0 X.2.1 (knb (X.2.2.2.2.1 (nC p))) (nC t) (nC a) ≤ 9 := hrb.1
    refine r_aload_n (i := 0) hK dX10_route_14 rfl rfl ?_
    refine r_getA hK flX10_31 to_91 rfl dX10_route_15 ?_
    refine r_iload_n (i := 1) hK dX10_route_18 rfl rfl ?_
    refine r_ialN hK to_99 hp2 (by omega) (by decide) r5 dX10_route_19 ?_
    refine r_iload_n (i := 2) hK dX10_route_20 rfl rfl ?_
    refine r_iload_n (i := 3) hK dX10_route_21 rfl rfl ?_
    refine r_ci3 hK hnn (c_mRoute0 hok hW rfl (Nat.lt_trans p5 (by decide)) ha2 ha ht2 ht) moX10_findRoute mlX10_263 to_91 rfl rfl dX10_route_22 (Nat.le_of_ble_eq_true rfl) (Nat.le_of_ble_eq_true rfl) (fun v22 g22 q22 => ?_)
    obtain ⟨f1, f2, f3, rfl, hMP⟩ := q22
    refine r_istore (i := 5) hK hm dX10_route_25 (by decide) ?_
    refine r_iload (i := 5) hK dX10_route_27 rfl ?_
    refine r_if_lt (tgt := 38) hK dX10_route_29 (by decide) (fun h29 => ?_) (fun h29 => ?_)
    · refine r_iload (i := 5) hK dX10_route_38 rfl ?_
      refine q_iret hK hR dX10_route_40 ?_
      refine ⟨?_, FM_pM⟩
      unfold aRou
      rw [if_pos hkA]
      rcases mp_v hMP with ⟨q1, q2⟩ | ⟨q1, q2, q3⟩
      · rw [if_pos q1, q2]
        first
          | (rw [if_pos h35]; done)
          | (rw [q2] at h29; exact absurd h29 (nI_pos (by omega)))
      · rw [if_neg q1]; exact q2
    · refine r_iload (i := 4) hK dX10_route_32 rfl ?_
      refine r_iconst (v := (-1)) hK dX10_route_34 (by decide) ?_
      refine r_icmp_ne (tgt := 41) hK dX10_route_35 (by decide) (fun h35 => ?_) (fun h35 => ?_)
      · refine r_iload (i := 4) hK dX10_route_41 rfl ?_
        have hv5 : v22 = nI (rn0 X.2.1 (kN X (nC p)) (nC t) (nC a)) ∧ kW X.2.1 (kN X (nC p)) (nC t) (nC a) < FR := by
          rcases mp_v hMP with ⟨q1, q2⟩ | ⟨q1, q2, q3⟩
          · exact ⟨q2, q1⟩
          · exfalso; rw [q2] at h29; exact h29 (by decide)
        obtain ⟨hv5, hl⟩ := hv5
        refine r_bipush (v := (-2)) hK dX10_route_43 (by decide) ?_
        refine r_icmp_ne (tgt := 69) hK dX10_route_45 (by decide) (fun h45 => ?_) (fun h45 => ?_)
        · refine r_iload (i := 4) hK dX10_route_69 rfl ?_
          refine r_i2l hK dX10_route_71 ?_
          refine r_lconst (v := 0) hK dX10_route_72 (by decide) ?_
          refine r_iload (i := 5) hK dX10_route_73 rfl ?_
          refine r_top (y := nI (rn0 X.2.1 (kN X (nC p)) (nC t) (nC a))) hv5 ?_
          refine r_iconst (v := 1) hK dX10_route_75 (by decide) ?_
          refine r_isub hK dX10_route_76 ?_
          refine r_i2l hK dX10_route_77 ?_
          refine r_si3 hK hnn c_mIn moX10_in mlX10_124 dX10_route_78 (Nat.le_of_ble_eq_true rfl) (Nat.le_of_ble_eq_true rfl) (eqI ?_)
          refine r_top (y := B1 (isB i (rn0 X.2.1 (kN X (nC p)) (nC t) (nC a)))) (congrArg B1 ((inL_b (lI := 0) (hI := nI (rn0 X.2.1 (kN X (nC p)) (nC t) (nC a)) - 1) rfl rfl).trans (bI_B (by omega)))) ?_
          refine r_if_eq (tgt := 94) hK dX10_route_81 (by decide) (fun h81 => ?_) (fun h81 => ?_)
          · refine r_iconst (v := (-1)) hK dX10_route_94 (by decide) ?_
            refine q_iret hK hR dX10_route_95 ?_
            refine ⟨?_, FM_pM⟩
            unfold aRou
            rw [if_pos hkA, if_pos hl]
            first
              | (have hz0 : (rn0 X.2.1 (kN X (nC p)) (nC t) (nC a)) = 0 := nI_inj (by omega) (by decide) h50; rw [if_neg h35, if_pos h45, hz0]; rfl)
              | (rw [if_neg h35, if_pos h45]; done)
              | (rw [if_neg h35, if_neg h45, if_pos (isB_pr (B1_n.mp h81))]; done)
              | (rw [if_neg h35, if_neg h45, if_neg (fun z => absurd (B1_0.mp h81) (by rw [pr_isB z]; decide))]; done)
          · refine r_aload_n (i := 0) hK dX10_route_84 rfl rfl ?_
            obtain ⟨hi1, hi2⟩ := isB_cl (by omega) (B1_n.mp h81)
            refine r_getA hK flX10_68 to_91 rfl dX10_route_85 ?_
            refine r_iload (i := 4) hK dX10_route_88 rfl ?_
            refine r_ialN hK to_110 hi2 (by omega) (by decide) ((congrFun pM_110 _).trans (mp_s (k := nC i + 1) hMP (Nat.succ_pos _) hi1).1) dX10_route_90 ?_
            refine r_goto (tgt := 95) hK dX10_route_91 (by decide) ?_
            refine q_iret hK hR dX10_route_95 ?_
            refine ⟨?_, FM_pM⟩
            unfold aRou
            rw [if_pos hkA, if_pos hl]
            first
              | (have hz0 : (rn0 X.2.1 (kN X (nC p)) (nC t) (nC a)) = 0 := nI_inj (by omega) (by decide) h50; rw [if_neg h35, if_pos h45, hz0]; rfl)
              | (rw [if_neg h35, if_pos h45]; done)
              | (rw [if_neg h35, if_neg h45, if_pos (isB_pr (B1_n.mp h81))]; done)
              | (rw [if_neg h35, if_neg h45, if_neg (fun z => absurd (B1_0.mp h81) (by rw [pr_isB z]; decide))]; done)
        · refine r_iload (i := 5) hK dX10_route_48 rfl ?_
          refine r_top (y := nI (rn0 X.2.1 (kN X (nC p)) (nC t) (nC a))) hv5 ?_
          refine r_if_ne (tgt := 57) hK dX10_route_50 (by decide) (fun h50 => ?_) (fun h50 => ?_)
          · refine r_aload_n (i := 0) hK dX10_route_57 rfl rfl ?_
            refine r_getA hK flX10_71 to_91 rfl dX10_route_58 ?_
            refine r_iload (i := 5) hK dX10_route_61 rfl ?_
            refine r_top (y := nI (rn0 X.2.1 (kN X (nC p)) (nC t) (nC a))) hv5 ?_
            have hn0 : 0 < (rn0 X.2.1 (kN X (nC p)) (nC t) (nC a)) := Nat.pos_of_ne_zero (fun z => h50 (by rw [z]; rfl))
            refine r_iconst (v := 1) hK dX10_route_63 (by decide) ?_
            refine r_isub hK dX10_route_64 ?_
            refine r_top (y := nI ((rn0 X.2.1 (kN X (nC p)) (nC t) (nC a)) - 1)) (pk_sub (a := (rn0 X.2.1 (kN X (nC p)) (nC t) (nC a))) (b := 1) hn0) ?_
            refine r_ialN hK to_111 rfl (by omega) (by decide) ((congrFun pM_111 _).trans (mp_s hMP hn0 (Nat.le_refl _)).2) dX10_route_65 ?_
            refine r_goto (tgt := 95) hK dX10_route_66 (by decide) ?_
            refine q_iret hK hR dX10_route_95 ?_
            refine ⟨?_, FM_pM⟩
            unfold aRou
            rw [if_pos hkA, if_pos hl]
            first
              | (have hz0 : (rn0 X.2.1 (kN X (nC p)) (nC t) (nC a)) = 0 := nI_inj (by omega) (by decide) h50; rw [if_neg h35, if_pos h45, hz0]; rfl)
              | (rw [if_neg h35, if_pos h45]; done)
              | (rw [if_neg h35, if_neg h45, if_pos (isB_pr (B1_n.mp h81))]; done)
              | (rw [if_neg h35, if_neg h45, if_neg (fun z => absurd (B1_0.mp h81) (by rw [pr_isB z]; decide))]; done)
          · refine r_iconst (v := 0) hK dX10_route_53 (by decide) ?_
            refine r_goto (tgt := 95) hK dX10_route_54 (by decide) ?_
            refine q_iret hK hR dX10_route_95 ?_
            refine ⟨?_, FM_pM⟩
            unfold aRou
            rw [if_pos hkA, if_pos hl]
            first
              | (have hz0 : (rn0 X.2.1 (kN X (nC p)) (nC t) (nC a)) = 0 := nI_inj (by omega) (by decide) h50; rw [if_neg h35, if_pos h45, hz0]; rfl)
              | (rw [if_neg h35, if_pos h45]; done)
              | (rw [if_neg h35, if_neg h45, if_pos (isB_pr (B1_n.mp h81))]; done)
              | (rw [if_neg h35, if_neg h45, if_neg (fun z => absurd (B1_0.mp h81) (by rw [pr_isB z]; decide))]; done)
      · refine r_iload (i := 5) hK dX10_route_38 rfl ?_
        refine q_iret hK hR dX10_route_40 ?_
        refine ⟨?_, FM_pM⟩
        unfold aRou
        rw [if_pos hkA]
        rcases mp_v hMP with ⟨q1, q2⟩ | ⟨q1, q2, q3⟩
        · rw [if_pos q1, q2]
          first
            | (rw [if_pos h35]; done)
            | (rw [q2] at h29; exact absurd h29 (nI_pos (by omega)))
        · rw [if_neg q1]; exact q2
  · refine r_ldc hK ckX10_242 dX10_route_10 ?_
    refine q_iret hK hR dX10_route_12 ?_
    refine ⟨?_, FM.rf⟩
    unfold aRou
    rw [if_neg (by rw [B1_0.mp h7]; decide)]
theorem sw_out {x : Int32} (h : x.toInt < 0 ∨ 4 < x.toInt) : x < 0 ∨ 4 < x := by
  rcases h with h | h
  · exact Or.inl (by rw [Int32.lt_iff_toInt_lt]; exact h)
  · exact Or.inr (by rw [Int32.lt_iff_toInt_lt]; exact h)
set_option maxHeartbeats 4000000 in
set_option maxRecDepth 100000 in
theorem c_mSays {ad : Nat → Nat} {g : St} {X : LN} (hX : MC g X) {p a t x : Int32} : Ci 5 mX10_says [.ref 91, .int p, .int a, .int t, .int x] ad g (fun v g' => v = aSay X p a t x ∧ FM g g') := by
  obtain ⟨hok, hpo, hlaw, x1, hW, hPs, x4⟩ := id hX
  have h10 := hok.2.1
  have h6 := hpo.1
  have h14 := hok.1
  refine Cm.mk rfl (Nat.le_of_ble_eq_true rfl) (fun K hK hR hm hnn => ?_)
  refine r_aload_n (i := 0) hK dX10_says_0 rfl rfl ?_
  refine r_iload_n (i := 1) hK dX10_says_1 rfl rfl ?_
  refine r_iload_n (i := 2) hK dX10_says_2 rfl rfl ?_
  refine r_iload_n (i := 3) hK dX10_says_3 rfl rfl ?_
  refine r_ci3 hK hnn (c_misAsked hX) moX10_isAsked mlX10_259 to_91 rfl rfl dX10_says_4 (Nat.le_of_ble_eq_true rfl) (Nat.le_of_ble_eq_true rfl) (eqI ?_)
  refine r_if_ne (tgt := 13) hK dX10_says_7 (by decide) (fun h7 => ?_) (fun h7 => ?_)
  · refine r_aload_n (i := 0) hK dX10_says_13 rfl rfl ?_
    have hkA := B1_n.mp h7
    obtain ⟨⟨hp, hp2⟩, ⟨ha, ha2⟩, ht, ht2⟩ := kA_cl h10 h6 hkA
    obtain ⟨p1, p2, p3, p4, p5⟩ := hpo.2 _ hp
    obtain ⟨r1, r2, r3, r4, r5⟩ := hPs.2 _ hp
    have hrb := rt_b hok (kN X (nC p)) (nC t) ha
    have hrbA : rn0 X.2.1 (knb (X.2.2.2.2.1 p.toNatClampNeg)) t.toNatClampNeg a.toNatClampNeg ≤ 9 := hrb.1
    have hrbB : rn0 X.2.1 (kN X (nC p)) (nC t) (nC a) ≤ 9 := hrb.1
    have hrbC : rn0 X.2.1 (knb (X.2.2.2.2.1 (nC p))) (nC t) (nC a) ≤ 9 := hrb.1
    refine r_iload_n (i := 1) hK dX10_says_14 rfl rfl ?_
    refine r_iload_n (i := 2) hK dX10_says_15 rfl rfl ?_
    refine r_iload_n (i := 3) hK dX10_says_16 rfl rfl ?_
    refine r_ci3 hK hnn (c_mSaidBy hX hp2 hp ha2 ha ht2 ht) moX10_saidBy mlX10_277 to_91 rfl rfl dX10_says_17 (Nat.le_of_ble_eq_true rfl) (Nat.le_of_ble_eq_true rfl) (fun v17 g17 q17 => ?_)
    obtain ⟨f1, f2, f3, v2, rfl, hMP, rfl⟩ := q17
    have hsa : (saX X (nC p) (nC a) (nC t)) ≤ rn0 X.2.1 (kN X (nC p)) (nC t) (nC a) := sdF_le
    have x49 : (pM g f1 f2 f3 v2).1 91 11 = nI X.2.2.2.2.2 := (MC_of hX FM_pM).2.2.2.2.2.2
    refine r_istore (i := 5) hK hm dX10_says_20 (by decide) ?_
    refine r_iload (i := 4) hK dX10_says_22 rfl ?_
    refine r_sw (n := 5) (lo := 0) (tgt0 := 93) hK dX10_says_24 (by decide) (by decide) (by decide) (by decide) (fun h24 => ?_) (fun i24 hi24 h24 => ?_)
    · refine r_ldc hK ckX10_136 dX10_says_93 ?_
      refine q_iret hK hR dX10_says_95 ?_
      refine ⟨?_, FM_pM⟩
      unfold aSay
      rw [if_pos hkA]
      first
        | (have ex : x = 0 := h24; rw [if_neg (by rw [ex]; decide), ex]; rw [if_pos rfl]; done)
        | (have ex : x = 1 := h24; rw [if_neg (by rw [ex]; decide), ex]; rw [if_neg (by decide)]; rw [if_pos rfl]; done)
        | (have ex : x = 2 := h24; rw [if_neg (by rw [ex]; decide), ex]; rw [if_neg (by decide)]; rw [if_neg (by decide)]; rw [if_pos rfl]; done)
        | (have ex : x = 3 := h24; rw [if_neg (by rw [ex]; decide), ex]; rw [if_neg (by decide)]; rw [if_neg (by decide)]; rw [if_neg (by decide)]; rw [if_pos rfl]; done)
        | (have ex : x = 4 := h24; rw [if_neg (by rw [ex]; decide), ex]; rw [if_neg (by decide)]; rw [if_neg (by decide)]; rw [if_neg (by decide)]; rw [if_neg (by decide)]; done)
        | (rw [if_pos (sw_out h24)]; done)
    · obtain rfl | rfl | rfl | rfl | rfl : i24 = 0 ∨ i24 = 1 ∨ i24 = 2 ∨ i24 = 3 ∨ i24 = 4 := by omega
      · refine ⟨_, 60, rfl, by decide, ?_⟩
        refine r_iload (i := 5) hK dX10_says_60 rfl ?_
        refine q_iret hK hR dX10_says_62 ?_
        refine ⟨?_, FM_pM⟩
        unfold aSay
        rw [if_pos hkA]
        first
          | (have ex : x = 0 := h24; rw [if_neg (by rw [ex]; decide), ex]; rw [if_pos rfl]; done)
          | (have ex : x = 1 := h24; rw [if_neg (by rw [ex]; decide), ex]; rw [if_neg (by decide)]; rw [if_pos rfl]; done)
          | (have ex : x = 2 := h24; rw [if_neg (by rw [ex]; decide), ex]; rw [if_neg (by decide)]; rw [if_neg (by decide)]; rw [if_pos rfl]; done)
          | (have ex : x = 3 := h24; rw [if_neg (by rw [ex]; decide), ex]; rw [if_neg (by decide)]; rw [if_neg (by decide)]; rw [if_neg (by decide)]; rw [if_pos rfl]; done)
          | (have ex : x = 4 := h24; rw [if_neg (by rw [ex]; decide), ex]; rw [if_neg (by decide)]; rw [if_neg (by decide)]; rw [if_neg (by decide)]; rw [if_neg (by decide)]; done)
          | (rw [if_pos (sw_out h24)]; done)
      · refine ⟨_, 63, rfl, by decide, ?_⟩
        refine r_aload_n (i := 0) hK dX10_says_63 rfl rfl ?_
        refine r_iload_n (i := 2) hK dX10_says_64 rfl rfl ?_
        refine r_iload (i := 5) hK dX10_says_65 rfl ?_
        refine r_ci2 hK hnn (c_mEndOf hok ha (MR_pM hMP) ha2 rfl hsa) moX10_endOf mlX10_274 to_91 rfl rfl dX10_says_67 (Nat.le_of_ble_eq_true rfl) (Nat.le_of_ble_eq_true rfl) (eqI ?_)
        refine q_iret hK hR dX10_says_70 ?_
        refine ⟨?_, FM_pM⟩
        unfold aSay
        rw [if_pos hkA]
        first
          | (have ex : x = 0 := h24; rw [if_neg (by rw [ex]; decide), ex]; rw [if_pos rfl]; done)
          | (have ex : x = 1 := h24; rw [if_neg (by rw [ex]; decide), ex]; rw [if_neg (by decide)]; rw [if_pos rfl]; done)
          | (have ex : x = 2 := h24; rw [if_neg (by rw [ex]; decide), ex]; rw [if_neg (by decide)]; rw [if_neg (by decide)]; rw [if_pos rfl]; done)
          | (have ex : x = 3 := h24; rw [if_neg (by rw [ex]; decide), ex]; rw [if_neg (by decide)]; rw [if_neg (by decide)]; rw [if_neg (by decide)]; rw [if_pos rfl]; done)
          | (have ex : x = 4 := h24; rw [if_neg (by rw [ex]; decide), ex]; rw [if_neg (by decide)]; rw [if_neg (by decide)]; rw [if_neg (by decide)]; rw [if_neg (by decide)]; done)
          | (rw [if_pos (sw_out h24)]; done)
      · refine ⟨_, 71, rfl, by decide, ?_⟩
        refine r_aload_n (i := 0) hK dX10_says_71 rfl rfl ?_
        refine r_iload (i := 5) hK dX10_says_72 rfl ?_
        refine r_ci1 hK hnn (c_mLongOf hok ha (MR_pM hMP) rfl hsa) moX10_longOf mlX10_267 to_91 rfl rfl dX10_says_74 (Nat.le_of_ble_eq_true rfl) (Nat.le_of_ble_eq_true rfl) (eqI ?_)
        refine q_iret hK hR dX10_says_77 ?_
        refine ⟨?_, FM_pM⟩
        unfold aSay
        rw [if_pos hkA]
        first
          | (have ex : x = 0 := h24; rw [if_neg (by rw [ex]; decide), ex]; rw [if_pos rfl]; done)
          | (have ex : x = 1 := h24; rw [if_neg (by rw [ex]; decide), ex]; rw [if_neg (by decide)]; rw [if_pos rfl]; done)
          | (have ex : x = 2 := h24; rw [if_neg (by rw [ex]; decide), ex]; rw [if_neg (by decide)]; rw [if_neg (by decide)]; rw [if_pos rfl]; done)
          | (have ex : x = 3 := h24; rw [if_neg (by rw [ex]; decide), ex]; rw [if_neg (by decide)]; rw [if_neg (by decide)]; rw [if_neg (by decide)]; rw [if_pos rfl]; done)
          | (have ex : x = 4 := h24; rw [if_neg (by rw [ex]; decide), ex]; rw [if_neg (by decide)]; rw [if_neg (by decide)]; rw [if_neg (by decide)]; rw [if_neg (by decide)]; done)
          | (rw [if_pos (sw_out h24)]; done)
      · refine ⟨_, 78, rfl, by decide, ?_⟩
        refine r_aload_n (i := 0) hK dX10_says_78 rfl rfl ?_
        refine r_iload_n (i := 2) hK dX10_says_79 rfl rfl ?_
        refine r_iload (i := 5) hK dX10_says_80 rfl ?_
        refine r_ci2 hK hnn (c_mStands hok ha (MR_pM hMP) x49 hlaw ha2 rfl hsa) moX10_stands mlX10_280 to_91 rfl rfl dX10_says_82 (Nat.le_of_ble_eq_true rfl) (Nat.le_of_ble_eq_true rfl) (eqI ?_)
        refine q_iret hK hR dX10_says_85 ?_
        refine ⟨?_, FM_pM⟩
        unfold aSay
        rw [if_pos hkA]
        first
          | (have ex : x = 0 := h24; rw [if_neg (by rw [ex]; decide), ex]; rw [if_pos rfl]; done)
          | (have ex : x = 1 := h24; rw [if_neg (by rw [ex]; decide), ex]; rw [if_neg (by decide)]; rw [if_pos rfl]; done)
          | (have ex : x = 2 := h24; rw [if_neg (by rw [ex]; decide), ex]; rw [if_neg (by decide)]; rw [if_neg (by decide)]; rw [if_pos rfl]; done)
          | (have ex : x = 3 := h24; rw [if_neg (by rw [ex]; decide), ex]; rw [if_neg (by decide)]; rw [if_neg (by decide)]; rw [if_neg (by decide)]; rw [if_pos rfl]; done)
          | (have ex : x = 4 := h24; rw [if_neg (by rw [ex]; decide), ex]; rw [if_neg (by decide)]; rw [if_neg (by decide)]; rw [if_neg (by decide)]; rw [if_neg (by decide)]; done)
          | (rw [if_pos (sw_out h24)]; done)
      · refine ⟨_, 86, rfl, by decide, ?_⟩
        refine r_aload_n (i := 0) hK dX10_says_86 rfl rfl ?_
        refine r_iload (i := 5) hK dX10_says_87 rfl ?_
        refine r_ci1 hK hnn (c_mWalked hok ha (MR_pM hMP) x49 hlaw rfl hsa) moX10_walked mlX10_283 to_91 rfl rfl dX10_says_89 (Nat.le_of_ble_eq_true rfl) (Nat.le_of_ble_eq_true rfl) (eqI ?_)
        refine q_iret hK hR dX10_says_92 ?_
        refine ⟨?_, FM_pM⟩
        unfold aSay
        rw [if_pos hkA]
        first
          | (have ex : x = 0 := h24; rw [if_neg (by rw [ex]; decide), ex]; rw [if_pos rfl]; done)
          | (have ex : x = 1 := h24; rw [if_neg (by rw [ex]; decide), ex]; rw [if_neg (by decide)]; rw [if_pos rfl]; done)
          | (have ex : x = 2 := h24; rw [if_neg (by rw [ex]; decide), ex]; rw [if_neg (by decide)]; rw [if_neg (by decide)]; rw [if_pos rfl]; done)
          | (have ex : x = 3 := h24; rw [if_neg (by rw [ex]; decide), ex]; rw [if_neg (by decide)]; rw [if_neg (by decide)]; rw [if_neg (by decide)]; rw [if_pos rfl]; done)
          | (have ex : x = 4 := h24; rw [if_neg (by rw [ex]; decide), ex]; rw [if_neg (by decide)]; rw [if_neg (by decide)]; rw [if_neg (by decide)]; rw [if_neg (by decide)]; done)
          | (rw [if_pos (sw_out h24)]; done)
  · refine r_ldc hK ckX10_242 dX10_says_10 ?_
    refine q_iret hK hR dX10_says_12 ?_
    refine ⟨?_, FM.rf⟩
    unfold aSay
    rw [if_neg (by rw [B1_0.mp h7]; decide)]
theorem ow_out {x : Int32} (h0 : ¬ x = 0) (h1 : ¬ x = 1) : x < 0 ∨ 1 < x := by
  rw [Int32.lt_iff_toInt_lt, Int32.lt_iff_toInt_lt]
  have e0 : (0 : Int32).toInt = 0 := by decide
  have e1 : (1 : Int32).toInt = 1 := by decide
  rw [e0, e1]
  have n0 : x.toInt ≠ 0 := fun z => h0 (Int32.toInt_inj.mp (z.trans e0.symm))
  have n1 : x.toInt ≠ 1 := fun z => h1 (Int32.toInt_inj.mp (z.trans e1.symm))
  omega
set_option maxHeartbeats 4000000 in
set_option maxRecDepth 100000 in
theorem c_mOwn {ad : Nat → Nat} {g : St} {X : LN} (hX : MC g X) {p a t x : Int32} : Ci 5 mX10_own [.ref 91, .int p, .int a, .int t, .int x] ad g (fun v g' => v = aOwn X p a t x ∧ FM g g') := by
  obtain ⟨hok, hpo, hlaw, x1, hW, hPs, x4⟩ := id hX
  have h10 := hok.2.1
  have h6 := hpo.1
  have h14 := hok.1
  refine Cm.mk rfl (Nat.le_of_ble_eq_true rfl) (fun K hK hR hm hnn => ?_)
  refine r_aload_n (i := 0) hK dX10_own_0 rfl rfl ?_
  refine r_iload_n (i := 1) hK dX10_own_1 rfl rfl ?_
  refine r_iload_n (i := 2) hK dX10_own_2 rfl rfl ?_
  refine r_iload_n (i := 3) hK dX10_own_3 rfl rfl ?_
  refine r_ci3 hK hnn (c_misAsked hX) moX10_isAsked mlX10_259 to_91 rfl rfl dX10_own_4 (Nat.le_of_ble_eq_true rfl) (Nat.le_of_ble_eq_true rfl) (eqI ?_)
  refine r_if_ne (tgt := 13) hK dX10_own_7 (by decide) (fun h7 => ?_) (fun h7 => ?_)
  · refine r_aload_n (i := 0) hK dX10_own_13 rfl rfl ?_
    have hkA := B1_n.mp h7
    obtain ⟨⟨hp, hp2⟩, ⟨ha, ha2⟩, ht, ht2⟩ := kA_cl h10 h6 hkA
    obtain ⟨p1, p2, p3, p4, p5⟩ := hpo.2 _ hp
    obtain ⟨r1, r2, r3, r4, r5⟩ := hPs.2 _ hp
    have hrb := rt_b hok (kN X (nC p)) (nC t) ha
    have hrbA : rn0 X.2.1 (knb (X.2.2.2.2.1 p.toNatClampNeg)) t.toNatClampNeg a.toNatClampNeg ≤ 9 := hrb.1
    have hrbB : rn0 X.2.1 (kN X (nC p)) (nC t) (nC a) ≤ 9 := hrb.1
    have hrbC : rn0 X.2.1 (knb (X.2.2.2.2.1 (nC p))) (nC t) (nC a) ≤ 9 := hrb.1
    refine r_iload_n (i := 1) hK dX10_own_14 rfl rfl ?_
    refine r_iload_n (i := 2) hK dX10_own_15 rfl rfl ?_
    refine r_iload_n (i := 3) hK dX10_own_16 rfl rfl ?_
    refine r_ci3 hK hnn (c_mOwnBy hX hp2 hp ha2 ha ht2 ht) moX10_ownBy mlX10_292 to_91 rfl rfl dX10_own_17 (Nat.le_of_ble_eq_true rfl) (Nat.le_of_ble_eq_true rfl) (fun v17 g17 q17 => ?_)
    obtain ⟨f1, f2, f3, v2, rfl, hMP, rfl⟩ := q17
    refine r_istore (i := 5) hK hm dX10_own_20 (by decide) ?_
    refine r_iload (i := 4) hK dX10_own_22 rfl ?_
    refine r_if_ne (tgt := 32) hK dX10_own_24 (by decide) (fun h24 => ?_) (fun h24 => ?_)
    · refine r_iload (i := 4) hK dX10_own_32 rfl ?_
      refine r_iconst (v := 1) hK dX10_own_34 (by decide) ?_
      refine r_icmp_ne (tgt := 45) hK dX10_own_35 (by decide) (fun h35 => ?_) (fun h35 => ?_)
      · refine r_ldc hK ckX10_136 dX10_own_45 ?_
        refine q_iret hK hR dX10_own_47 ?_
        refine ⟨?_, FM_pM.fl rfl⟩
        unfold aOwn
        rw [if_pos hkA]
        first
          | (rw [if_neg (by rw [h24]; decide), if_pos h24]; done)
          | (rw [if_neg (by rw [h35]; decide), if_neg h24]; rfl)
          | (rw [if_pos (ow_out h24 h35)]; done)
      · refine r_aload_n (i := 0) hK dX10_own_38 rfl rfl ?_
        refine r_getI hK flX10_286 to_91 rfl dX10_own_39 ?_
        refine r_top (y := gG X (nC p) (nC a) (nC t) (owX X (nC p) (nC a) (nC t))) ((congrFun upI_s _).trans upd_s) ?_
        refine r_goto (tgt := 47) hK dX10_own_42 (by decide) ?_
        refine q_iret hK hR dX10_own_47 ?_
        refine ⟨?_, FM_pM.fl rfl⟩
        unfold aOwn
        rw [if_pos hkA]
        first
          | (rw [if_neg (by rw [h24]; decide), if_pos h24]; done)
          | (rw [if_neg (by rw [h35]; decide), if_neg h24]; rfl)
          | (rw [if_pos (ow_out h24 h35)]; done)
    · refine r_iload (i := 5) hK dX10_own_27 rfl ?_
      refine r_goto (tgt := 47) hK dX10_own_29 (by decide) ?_
      refine q_iret hK hR dX10_own_47 ?_
      refine ⟨?_, FM_pM.fl rfl⟩
      unfold aOwn
      rw [if_pos hkA]
      first
        | (rw [if_neg (by rw [h24]; decide), if_pos h24]; done)
        | (rw [if_neg (by rw [h35]; decide), if_neg h24]; rfl)
        | (rw [if_pos (ow_out h24 h35)]; done)
  · refine r_ldc hK ckX10_242 dX10_own_10 ?_
    refine q_iret hK hR dX10_own_12 ?_
    refine ⟨?_, FM.rf⟩
    unfold aOwn
    rw [if_neg (by rw [B1_0.mp h7]; decide)]
