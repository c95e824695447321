/-! THE MODEL: learnt, the question -/
theorem LQ_sum {g g' : St} {X : LN} {a t d : Nat} {v : Int32} (h : LQ g X a t d v g') : FL g g' ∧ v = lnC X a t d ∧ ((1 ≤ v → g'.1 91 45 = nI (lnF X a t d) ∧ lnF X a t d < 84) ∧ (¬ 1 ≤ v → g'.1 91 45 = -1)) ∧ (2 ≤ v → g'.1 91 46 = nI (lnS X a t d) ∧ lnS X a t d < 84) ∧ (¬ 2 ≤ v → g'.1 91 46 = -1) := by
  obtain ⟨hf, h⟩ := h
  refine ⟨hf, ?_⟩
  unfold lnC lnF lnS
  rcases h with ⟨q1, rfl, q3, q4⟩ | ⟨q1, q2, rfl, q3, q4⟩ | ⟨q1, q2, q3, rfl, q4, q5⟩ | ⟨q1, q2, q3, rfl, q4, q5⟩
  · rw [if_pos q1]
    exact ⟨rfl, ⟨fun z => absurd z (by decide), fun _ => q3⟩, fun z => absurd z (by decide), fun _ => q4⟩
  · rw [if_neg q1, if_pos q2, if_pos q2]
    exact ⟨rfl, ⟨fun _ => ⟨q3, q2⟩, fun z => absurd (by decide) z⟩, fun z => absurd z (by decide), fun _ => q4⟩
  · rw [if_neg q1, if_neg q2, if_pos q3, if_neg q2]
    exact ⟨rfl, ⟨fun _ => ⟨q4, q3⟩, fun z => absurd (by decide) z⟩, fun _ => ⟨q5, (flF_1 q3).1⟩, fun z => absurd (by decide) z⟩
  · rw [if_neg q1, if_neg q2, if_neg q3]
    exact ⟨rfl, ⟨fun z => absurd z (by decide), fun _ => q4⟩, fun z => absurd z (by decide), fun _ => q5⟩
def lnW (c F1 F2 : Int32) (f s : Nat) : Prop := ((1 ≤ c → F1 = nI f ∧ f < 84) ∧ (¬ 1 ≤ c → F1 = -1)) ∧ (2 ≤ c → F2 = nI s ∧ s < 84) ∧ (¬ 2 ≤ c → F2 = -1)
theorem x5_of {x : Int32} (h : ¬ (x < 0 ∨ 4 < x)) : x = 0 ∨ x = 1 ∨ x = 2 ∨ x = 3 ∨ x = 4 := by
  rw [not_or] at h
  obtain ⟨j, hj, rfl⟩ := nI_of h.1
  have h2 := h.2
  rw [Int32.lt_iff_toInt_lt, show (4 : Int32) = nI 4 from rfl, nI_toInt (by decide), nI_toInt hj] at h2
  have : j = 0 ∨ j = 1 ∨ j = 2 ∨ j = 3 ∨ j = 4 := by omega
  rcases this with rfl | rfl | rfl | rfl | rfl
  · exact Or.inl rfl
  · exact Or.inr (Or.inl rfl)
  · exact Or.inr (Or.inr (Or.inl rfl))
  · exact Or.inr (Or.inr (Or.inr (Or.inl rfl)))
  · exact Or.inr (Or.inr (Or.inr (Or.inr rfl)))
theorem ln_v {c F1 F2 x : Int32} {f s : Nat} (hx : x = 0 ∨ x = 1 ∨ x = 2 ∨ x = 3 ∨ x = 4) (h : lnW c F1 F2 f s) (h0 : ¬ x = 0) : (∃ n, n < 84 ∧ (if 3 ≤ x then F2 else F1) = nI n ∧ lnA c f s x = (if x = 1 ∨ x = 3 then nI (n / 14) else nI (n % 14))) ∨ ((if 3 ≤ x then F2 else F1) = -1 ∧ lnA c f s x = -1) := by
  obtain ⟨⟨a1, a2⟩, a3, a4⟩ := h
  by_cases h1 : 1 ≤ c
  · obtain ⟨b1, b2⟩ := a1 h1
    by_cases h2 : 2 ≤ c
    · obtain ⟨b3, b4⟩ := a3 h2
      rcases hx with rfl | rfl | rfl | rfl | rfl
      · exact absurd rfl h0
      · exact Or.inl ⟨f, b2, b1, by simp [lnA, h1]⟩
      · exact Or.inl ⟨f, b2, b1, by simp [lnA, h1]⟩
      · exact Or.inl ⟨s, b4, b3, by simp [lnA, h2]⟩
      · exact Or.inl ⟨s, b4, b3, by simp [lnA, h2]⟩
    · have b3 := a4 h2
      rcases hx with rfl | rfl | rfl | rfl | rfl
      · exact absurd rfl h0
      · exact Or.inl ⟨f, b2, b1, by simp [lnA, h1]⟩
      · exact Or.inl ⟨f, b2, b1, by simp [lnA, h1]⟩
      · exact Or.inr ⟨b3, by simp [lnA, h2]⟩
      · exact Or.inr ⟨b3, by simp [lnA, h2]⟩
  · have b1 := a2 h1
    have h2 : ¬ 2 ≤ c := fun z => h1 (Int32.le_trans (by decide) z)
    have b3 := a4 h2
    rcases hx with rfl | rfl | rfl | rfl | rfl
    · exact absurd rfl h0
    · exact Or.inr ⟨b1, by simp [lnA, h1]⟩
    · exact Or.inr ⟨b1, by simp [lnA, h1]⟩
    · exact Or.inr ⟨b3, by simp [lnA, h2]⟩
    · exact Or.inr ⟨b3, by simp [lnA, h2]⟩
theorem x_odd {x : Int32} (hx : x = 0 ∨ x = 1 ∨ x = 2 ∨ x = 3 ∨ x = 4) : x - x / 2 * 2 = 1 ↔ x = 1 ∨ x = 3 := by
  rcases hx with rfl | rfl | rfl | rfl | rfl <;> decide
/-- the tail of the answer -/
theorem ln_1 {c F1 F2 F x : Int32} {f s : Nat} (hx : x = 0 ∨ x = 1 ∨ x = 2 ∨ x = 3 ∨ x = 4) (h : lnW c F1 F2 f s) (h0 : ¬ x = 0) (hF : F = if 3 ≤ x then F2 else F1) (hneg : ¬ 0 ≤ F) : (-1 : Int32) = lnA c f s x := by
  rcases ln_v hx h h0 with ⟨n, n1, n2, n3⟩ | ⟨n1, n2⟩
  · rw [hF, n2] at hneg; exact absurd (Int32.not_lt.mp (nI_pos (by omega))) hneg
  · exact n2.symm
theorem ln_2 {c F1 F2 F x : Int32} {f s : Nat} (hx : x = 0 ∨ x = 1 ∨ x = 2 ∨ x = 3 ∨ x = 4) (h : lnW c F1 F2 f s) (h0 : ¬ x = 0) (hF : F = if 3 ≤ x then F2 else F1) (hneg : 0 ≤ F) (ho : x - x / 2 * 2 = 1) : F / 14 = lnA c f s x := by
  rcases ln_v hx h h0 with ⟨n, n1, n2, n3⟩ | ⟨n1, n2⟩
  · rw [n3, if_pos ((x_odd hx).mp ho), hF, n2]; exact pk_div (by omega) (by decide) (by decide)
  · rw [hF, n1] at hneg; exact absurd hneg (by decide)
theorem ln_3 {c F1 F2 F x : Int32} {f s : Nat} (hx : x = 0 ∨ x = 1 ∨ x = 2 ∨ x = 3 ∨ x = 4) (h : lnW c F1 F2 f s) (h0 : ¬ x = 0) (hF : F = if 3 ≤ x then F2 else F1) (hneg : 0 ≤ F) (ho : ¬ x - x / 2 * 2 = 1) : F - F / 14 * 14 = lnA c f s x := by
  rcases ln_v hx h h0 with ⟨n, n1, n2, n3⟩ | ⟨n1, n2⟩
  · rw [n3, if_neg (fun z => ho ((x_odd hx).mpr z)), hF, n2]; exact pk_rem (by omega) (by decide) (by decide)
  · rw [hF, n1] at hneg; exact absurd hneg (by decide)
theorem ln_q {X : LN} (hok : wOk X.1 X.2.1) (hpo : pOk X.1 X.2.2.1 X.2.2.2.1 X.2.2.2.2.1) {a t d x v : Int32} (hbb : (isB a X.1 && isB t X.1) = true) (ha : nC a < X.1) (hd : ¬ (d < 0 ∨ 999 < d)) (hd2 : nC d ≤ 999) (hd3 : d = nI (nC d)) (hx : ¬ (x < 0 ∨ 4 < x)) (h : v = lnA (lnC X (nC a) (nC t) (nC d)) (lnF X (nC a) (nC t) (nC d)) (lnS X (nC a) (nC t) (nC d)) x) : v = aLnt X a t d x := by
  unfold aLnt
  rw [if_pos hbb, if_neg (fun z => by rcases z with z | z | z | z; exact hd (Or.inl z); exact hd (Or.inr z); exact hx (Or.inl z); exact hx (Or.inr z))]
  by_cases hf : farV X (nC a) (nC t) = -1 ∨ d < farV X (nC a) (nC t)
  · rw [if_pos hf, h, lnC_no hok hpo ha hd2 (by rw [← hd3]; exact hf), lnA_m]
  · rw [if_neg hf, h]

theorem FL.rf {g : St} : FL g g := FM.rf.fl2
set_option maxHeartbeats 4000000 in
set_option maxRecDepth 100000 in
theorem c_mLearnt {ad : Nat → Nat} {g : St} {X : LN} (hX : MC g X) {a t d x : Int32} : Ci 9 mX10_learnt [.ref 91, .int a, .int t, .int d, .int x] ad g (fun v g' => v = aLnt X a t d x ∧ FL g g') := by
  obtain ⟨hok, hpo, hlaw, x1, hW, hPs, x4⟩ := id hX
  have h10 := hok.2.1
  have h6 := hpo.1
  have h14 := hok.1
  refine Cm.mk rfl (Nat.le_of_ble_eq_true rfl) (fun K hK hR hm hnn => ?_)
  refine r_aload_n (i := 0) hK dX10_learnt_0 rfl rfl ?_
  refine r_iload_n (i := 1) hK dX10_learnt_1 rfl rfl ?_
  refine r_ci1 hK hnn (c_misPlace x1 (by omega)) moX10_isPlace mlX10_256 to_91 rfl rfl dX10_learnt_2 (Nat.le_of_ble_eq_true rfl) (Nat.le_of_ble_eq_true rfl) (eqI ?_)
  refine r_if_eq (tgt := 16) hK dX10_learnt_5 (by decide) (fun h5 => ?_) (fun h5 => ?_)
  · refine r_ldc hK ckX10_242 dX10_learnt_16 ?_
    refine q_iret hK hR dX10_learnt_18 ?_
    refine ⟨?_, FL.rf⟩
    unfold aLnt
    first
      | (rw [if_neg (by rw [B1_0.mp h5]; simp)]; done)
      | (rw [if_neg (by rw [B1_0.mp h13]; simp)]; done)
  · refine r_aload_n (i := 0) hK dX10_learnt_8 rfl rfl ?_
    refine r_iload_n (i := 2) hK dX10_learnt_9 rfl rfl ?_
    refine r_ci1 hK hnn (c_misPlace x1 (by omega)) moX10_isPlace mlX10_256 to_91 rfl rfl dX10_learnt_10 (Nat.le_of_ble_eq_true rfl) (Nat.le_of_ble_eq_true rfl) (eqI ?_)
    refine r_if_ne (tgt := 19) hK dX10_learnt_13 (by decide) (fun h13 => ?_) (fun h13 => ?_)
    · refine r_iload_n (i := 3) hK dX10_learnt_19 rfl rfl ?_
      have hb1 := B1_n.mp h5
      have hb2 := B1_n.mp h13
      have hbb : (isB a X.1 && isB t X.1) = true := by rw [hb1, hb2]; rfl
      obtain ⟨ha1, ha2⟩ := isB_cl (by omega) hb1
      obtain ⟨ht1, ht2⟩ := isB_cl (by omega) hb2
      refine r_i2l hK dX10_learnt_20 ?_
      refine r_lconst (v := 0) hK dX10_learnt_21 (by decide) ?_
      refine r_ldc2 hK ckX10_340 dX10_learnt_22 ?_
      refine r_si3 hK hnn c_mIn moX10_in mlX10_124 dX10_learnt_25 (Nat.le_of_ble_eq_true rfl) (Nat.le_of_ble_eq_true rfl) (eqI ?_)
      refine r_top (y := B1 (bI d 0 999)) (congrArg B1 (inL_b (lI := 0) (hI := 999) rfl rfl)) ?_
      refine r_if_eq (tgt := 44) hK dX10_learnt_28 (by decide) (fun h28 => ?_) (fun h28 => ?_)
      · refine r_ldc hK ckX10_136 dX10_learnt_44 ?_
        refine q_iret hK hR dX10_learnt_46 ?_
        refine ⟨?_, FL.rf⟩
        unfold aLnt
        rw [if_pos hbb]
        first
          | (rw [if_pos (by rcases bI_f.mp (B1_0.mp h28) with z | z; exact Or.inl z; exact Or.inr (Or.inl z))]; done)
          | (rw [if_pos (by rcases bI_f.mp (B1_0.mp h41) with z | z; exact Or.inr (Or.inr (Or.inl z)); exact Or.inr (Or.inr (Or.inr z)))]; done)
      · refine r_iload (i := 4) hK dX10_learnt_31 rfl ?_
        refine r_i2l hK dX10_learnt_33 ?_
        refine r_lconst (v := 0) hK dX10_learnt_34 (by decide) ?_
        refine r_ldc2 hK ckX10_342 dX10_learnt_35 ?_
        refine r_si3 hK hnn c_mIn moX10_in mlX10_124 dX10_learnt_38 (Nat.le_of_ble_eq_true rfl) (Nat.le_of_ble_eq_true rfl) (eqI ?_)
        refine r_top (y := B1 (bI x 0 4)) (congrArg B1 (inL_b (lI := 0) (hI := 4) rfl rfl)) ?_
        refine r_if_ne (tgt := 47) hK dX10_learnt_41 (by decide) (fun h41 => ?_) (fun h41 => ?_)
        · refine r_aload_n (i := 0) hK dX10_learnt_47 rfl rfl ?_
          have hdb := bI_t.mp (B1_n.mp h28)
          have hxb := bI_t.mp (B1_n.mp h41)
          obtain ⟨hd1, hd2⟩ := l0I (not_or.mp hdb).1 (not_or.mp hdb).2
          refine r_iload_n (i := 1) hK dX10_learnt_48 rfl rfl ?_
          refine r_iload_n (i := 2) hK dX10_learnt_49 rfl rfl ?_
          refine r_iload_n (i := 3) hK dX10_learnt_50 rfl rfl ?_
          refine r_ci3 hK hnn (c_mFindLearnt hX ha2 ha1 ht2 ht1 hd2 hd1) moX10_findLearnt mlX10_344 to_91 rfl rfl dX10_learnt_51 (Nat.le_of_ble_eq_true rfl) (Nat.le_of_ble_eq_true rfl) (fun v51 g51 q51 => ?_)
          obtain ⟨hfl, hv51, hw⟩ := LQ_sum q51
          refine r_istore (i := 5) hK hm dX10_learnt_54 (by decide) ?_
          refine r_iload (i := 4) hK dX10_learnt_56 rfl ?_
          refine r_iconst (v := 3) hK dX10_learnt_58 (by decide) ?_
          refine r_icmp_ge (tgt := 69) hK dX10_learnt_59 (by decide) (fun h59 => ?_) (fun h59 => ?_)
          · refine r_aload_n (i := 0) hK dX10_learnt_69 rfl rfl ?_
            refine r_getI hK flX10_328 to_91 rfl dX10_learnt_70 ?_
            have hFF : g51.1 91 46 = if 3 ≤ x then g51.1 91 46 else g51.1 91 45 := (if_pos h59).symm
            refine r_istore (i := 6) hK hm dX10_learnt_73 (by decide) ?_
            refine r_iload (i := 4) hK dX10_learnt_75 rfl ?_
            refine r_if_ne (tgt := 85) hK dX10_learnt_77 (by decide) (fun h77 => ?_) (fun h77 => ?_)
            · refine r_iload (i := 6) hK dX10_learnt_85 rfl ?_
              refine r_if_ge (tgt := 94) hK dX10_learnt_87 (by decide) (fun h87 => ?_) (fun h87 => ?_)
              · refine r_iload (i := 4) hK dX10_learnt_94 rfl ?_
                refine r_iconst (v := 2) hK dX10_learnt_96 (by decide) ?_
                refine r_irem hK dX10_learnt_97 (by decide) ?_
                refine r_iconst (v := 1) hK dX10_learnt_98 (by decide) ?_
                refine r_icmp_ne (tgt := 110) hK dX10_learnt_99 (by decide) (fun h99 => ?_) (fun h99 => ?_)
                · refine r_iload (i := 6) hK dX10_learnt_110 rfl ?_
                  refine r_bipush (v := 14) hK dX10_learnt_112 (by decide) ?_
                  refine r_irem hK dX10_learnt_114 (by decide) ?_
                  refine q_iret hK hR dX10_learnt_115 ?_
                  refine ⟨?_, hfl⟩
                  first
                    | (have q0 := h77; exact ln_q hok hpo hbb ha1 hdb hd1 hd2 hxb (by rw [q0]; exact hv51))
                    | exact ln_q hok hpo hbb ha1 hdb hd1 hd2 hxb (by rw [← hv51]; exact ln_1 (x5_of hxb) hw h77 hFF h87)
                    | exact ln_q hok hpo hbb ha1 hdb hd1 hd2 hxb (by rw [← hv51]; exact ln_2 (x5_of hxb) hw h77 hFF h87 h99)
                    | exact ln_q hok hpo hbb ha1 hdb hd1 hd2 hxb (by rw [← hv51]; exact ln_3 (x5_of hxb) hw h77 hFF h87 h99)
                · refine r_iload (i := 6) hK dX10_learnt_102 rfl ?_
                  refine r_bipush (v := 14) hK dX10_learnt_104 (by decide) ?_
                  refine r_idiv hK dX10_learnt_106 (by decide) ?_
                  refine r_goto (tgt := 115) hK dX10_learnt_107 (by decide) ?_
                  refine q_iret hK hR dX10_learnt_115 ?_
                  refine ⟨?_, hfl⟩
                  first
                    | (have q0 := h77; exact ln_q hok hpo hbb ha1 hdb hd1 hd2 hxb (by rw [q0]; exact hv51))
                    | exact ln_q hok hpo hbb ha1 hdb hd1 hd2 hxb (by rw [← hv51]; exact ln_1 (x5_of hxb) hw h77 hFF h87)
                    | exact ln_q hok hpo hbb ha1 hdb hd1 hd2 hxb (by rw [← hv51]; exact ln_2 (x5_of hxb) hw h77 hFF h87 h99)
                    | exact ln_q hok hpo hbb ha1 hdb hd1 hd2 hxb (by rw [← hv51]; exact ln_3 (x5_of hxb) hw h77 hFF h87 h99)
              · refine r_iconst (v := (-1)) hK dX10_learnt_90 (by decide) ?_
                refine r_goto (tgt := 115) hK dX10_learnt_91 (by decide) ?_
                refine q_iret hK hR dX10_learnt_115 ?_
                refine ⟨?_, hfl⟩
                first
                  | (have q0 := h77; exact ln_q hok hpo hbb ha1 hdb hd1 hd2 hxb (by rw [q0]; exact hv51))
                  | exact ln_q hok hpo hbb ha1 hdb hd1 hd2 hxb (by rw [← hv51]; exact ln_1 (x5_of hxb) hw h77 hFF h87)
                  | exact ln_q hok hpo hbb ha1 hdb hd1 hd2 hxb (by rw [← hv51]; exact ln_2 (x5_of hxb) hw h77 hFF h87 h99)
                  | exact ln_q hok hpo hbb ha1 hdb hd1 hd2 hxb (by rw [← hv51]; exact ln_3 (x5_of hxb) hw h77 hFF h87 h99)
            · refine r_iload (i := 5) hK dX10_learnt_80 rfl ?_
              refine r_goto (tgt := 115) hK dX10_learnt_82 (by decide) ?_
              refine q_iret hK hR dX10_learnt_115 ?_
              refine ⟨?_, hfl⟩
              first
                | (have q0 := h77; exact ln_q hok hpo hbb ha1 hdb hd1 hd2 hxb (by rw [q0]; exact hv51))
                | exact ln_q hok hpo hbb ha1 hdb hd1 hd2 hxb (by rw [← hv51]; exact ln_1 (x5_of hxb) hw h77 hFF h87)
                | exact ln_q hok hpo hbb ha1 hdb hd1 hd2 hxb (by rw [← hv51]; exact ln_2 (x5_of hxb) hw h77 hFF h87 h99)
                | exact ln_q hok hpo hbb ha1 hdb hd1 hd2 hxb (by rw [← hv51]; exact ln_3 (x5_of hxb) hw h77 hFF h87 h99)
          · refine r_aload_n (i := 0) hK dX10_learnt_62 rfl rfl ?_
            refine r_getI hK flX10_325 to_91 rfl dX10_learnt_63 ?_
            have hFF : g51.1 91 45 = if 3 ≤ x then g51.1 91 46 else g51.1 91 45 := (if_neg h59).symm
            refine r_goto (tgt := 73) hK dX10_learnt_66 (by decide) ?_
            refine r_istore (i := 6) hK hm dX10_learnt_73 (by decide) ?_
            refine r_iload (i := 4) hK dX10_learnt_75 rfl ?_
            refine r_if_ne (tgt := 85) hK dX10_learnt_77 (by decide) (fun h77 => ?_) (fun h77 => ?_)
            · refine r_iload (i := 6) hK dX10_learnt_85 rfl ?_
              refine r_if_ge (tgt := 94) hK dX10_learnt_87 (by decide) (fun h87 => ?_) (fun h87 => ?_)
              · refine r_iload (i := 4) hK dX10_learnt_94 rfl ?_
                refine r_iconst (v := 2) hK dX10_learnt_96 (by decide) ?_
                refine r_irem hK dX10_learnt_97 (by decide) ?_
                refine r_iconst (v := 1) hK dX10_learnt_98 (by decide) ?_
                refine r_icmp_ne (tgt := 110) hK dX10_learnt_99 (by decide) (fun h99 => ?_) (fun h99 => ?_)
                · refine r_iload (i := 6) hK dX10_learnt_110 rfl ?_
                  refine r_bipush (v := 14) hK dX10_learnt_112 (by decide) ?_
                  refine r_irem hK dX10_learnt_114 (by decide) ?_
                  refine q_iret hK hR dX10_learnt_115 ?_
                  refine ⟨?_, hfl⟩
                  first
                    | (have q0 := h77; exact ln_q hok hpo hbb ha1 hdb hd1 hd2 hxb (by rw [q0]; exact hv51))
                    | exact ln_q hok hpo hbb ha1 hdb hd1 hd2 hxb (by rw [← hv51]; exact ln_1 (x5_of hxb) hw h77 hFF h87)
                    | exact ln_q hok hpo hbb ha1 hdb hd1 hd2 hxb (by rw [← hv51]; exact ln_2 (x5_of hxb) hw h77 hFF h87 h99)
                    | exact ln_q hok hpo hbb ha1 hdb hd1 hd2 hxb (by rw [← hv51]; exact ln_3 (x5_of hxb) hw h77 hFF h87 h99)
                · refine r_iload (i := 6) hK dX10_learnt_102 rfl ?_
                  refine r_bipush (v := 14) hK dX10_learnt_104 (by decide) ?_
                  refine r_idiv hK dX10_learnt_106 (by decide) ?_
                  refine r_goto (tgt := 115) hK dX10_learnt_107 (by decide) ?_
                  refine q_iret hK hR dX10_learnt_115 ?_
                  refine ⟨?_, hfl⟩
                  first
                    | (have q0 := h77; exact ln_q hok hpo hbb ha1 hdb hd1 hd2 hxb (by rw [q0]; exact hv51))
                    | exact ln_q hok hpo hbb ha1 hdb hd1 hd2 hxb (by rw [← hv51]; exact ln_1 (x5_of hxb) hw h77 hFF h87)
                    | exact ln_q hok hpo hbb ha1 hdb hd1 hd2 hxb (by rw [← hv51]; exact ln_2 (x5_of hxb) hw h77 hFF h87 h99)
                    | exact ln_q hok hpo hbb ha1 hdb hd1 hd2 hxb (by rw [← hv51]; exact ln_3 (x5_of hxb) hw h77 hFF h87 h99)
              · refine r_iconst (v := (-1)) hK dX10_learnt_90 (by decide) ?_
                refine r_goto (tgt := 115) hK dX10_learnt_91 (by decide) ?_
                refine q_iret hK hR dX10_learnt_115 ?_
                refine ⟨?_, hfl⟩
                first
                  | (have q0 := h77; exact ln_q hok hpo hbb ha1 hdb hd1 hd2 hxb (by rw [q0]; exact hv51))
                  | exact ln_q hok hpo hbb ha1 hdb hd1 hd2 hxb (by rw [← hv51]; exact ln_1 (x5_of hxb) hw h77 hFF h87)
                  | exact ln_q hok hpo hbb ha1 hdb hd1 hd2 hxb (by rw [← hv51]; exact ln_2 (x5_of hxb) hw h77 hFF h87 h99)
                  | exact ln_q hok hpo hbb ha1 hdb hd1 hd2 hxb (by rw [← hv51]; exact ln_3 (x5_of hxb) hw h77 hFF h87 h99)
            · refine r_iload (i := 5) hK dX10_learnt_80 rfl ?_
              refine r_goto (tgt := 115) hK dX10_learnt_82 (by decide) ?_
              refine q_iret hK hR dX10_learnt_115 ?_
              refine ⟨?_, hfl⟩
              first
                | (have q0 := h77; exact ln_q hok hpo hbb ha1 hdb hd1 hd2 hxb (by rw [q0]; exact hv51))
                | exact ln_q hok hpo hbb ha1 hdb hd1 hd2 hxb (by rw [← hv51]; exact ln_1 (x5_of hxb) hw h77 hFF h87)
                | exact ln_q hok hpo hbb ha1 hdb hd1 hd2 hxb (by rw [← hv51]; exact ln_2 (x5_of hxb) hw h77 hFF h87 h99)
                | exact ln_q hok hpo hbb ha1 hdb hd1 hd2 hxb (by rw [← hv51]; exact ln_3 (x5_of hxb) hw h77 hFF h87 h99)
        · refine r_ldc hK ckX10_136 dX10_learnt_44 ?_
          refine q_iret hK hR dX10_learnt_46 ?_
          refine ⟨?_, FL.rf⟩
          unfold aLnt
          rw [if_pos hbb]
          first
            | (rw [if_pos (by rcases bI_f.mp (B1_0.mp h28) with z | z; exact Or.inl z; exact Or.inr (Or.inl z))]; done)
            | (rw [if_pos (by rcases bI_f.mp (B1_0.mp h41) with z | z; exact Or.inr (Or.inr (Or.inl z)); exact Or.inr (Or.inr (Or.inr z)))]; done)
    · refine r_ldc hK ckX10_242 dX10_learnt_16 ?_
      refine q_iret hK hR dX10_learnt_18 ?_
      refine ⟨?_, FL.rf⟩
      unfold aLnt
      first
        | (rw [if_neg (by rw [B1_0.mp h5]; simp)]; done)
        | (rw [if_neg (by rw [B1_0.mp h13]; simp)]; done)
