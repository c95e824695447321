/-! THE READER'S CLAUSES: a person told -/
def clQ (c : CT) (A : DR) (F : FP) (s : Nat) : CR :=
  if 6 ≤ A.2.2.1.1 then (A, bl F 3 s, s) else
  let s1 := nx c s; let s2 := nx c s1; let s3 := nx c s2; let s4 := nx c s3; let s5 := nx c s4
  let F4 := habG c (seF c (seF c (seF c F s1 (nI 0) (nI (A.1 - 1))) s2 (nI 0) (nI (A.1 - 1))) s3 (nI 0) (nI 99)) s4
  let R := if isW c s5 7 = true then knS c A.2.1.1 400 0 F4 s5 else (0, F4, s5)
  ((A.1, A.2.1, (A.2.2.1.1 + 1, upN A.2.2.1.2.1 A.2.2.1.1 (tV c s1), upN A.2.2.1.2.2.1 A.2.2.1.1 (tV c s2), upN A.2.2.1.2.2.2 A.2.2.1.1 (tV c s3)), upN A.2.2.2.1 A.2.2.1.1 (habF c s4), upN A.2.2.2.2 A.2.2.1.1 R.1), sgF c R.2.1 R.2.2 59, nx c R.2.2)
theorem clQ_g {c : CT} {A : DR} {F : FP} {s s1 s2 s3 s4 s5 : Nat} {F1 F2 F3 F4 : FP} {R : KR} (h : ¬ 6 ≤ A.2.2.1.1) (e1 : s1 = nx c s) (e2 : s2 = nx c s1) (e3 : s3 = nx c s2) (e4 : s4 = nx c s3) (e5 : s5 = nx c s4) (q1 : F1 = seF c F s1 (nI 0) (nI (A.1 - 1))) (q2 : F2 = seF c F1 s2 (nI 0) (nI (A.1 - 1))) (q3 : F3 = seF c F2 s3 (nI 0) (nI 99)) (q4 : F4 = habG c F3 s4) (q5 : R = if isW c s5 7 = true then knS c A.2.1.1 400 0 F4 s5 else (0, F4, s5)) : clQ c A F s = ((A.1, A.2.1, (A.2.2.1.1 + 1, upN A.2.2.1.2.1 A.2.2.1.1 (tV c s1), upN A.2.2.1.2.2.1 A.2.2.1.1 (tV c s2), upN A.2.2.1.2.2.2 A.2.2.1.1 (tV c s3)), upN A.2.2.2.1 A.2.2.1.1 (habF c s4), upN A.2.2.2.2 A.2.2.1.1 R.1), sgF c R.2.1 R.2.2 59, nx c R.2.2) := by
  subst e1 e2 e3 e4 e5 q1 q2 q3 q4 q5
  unfold clQ
  rw [if_neg h]
theorem knS_b {n wn : Nat} {c : CT} (hT : tOk n c) (hwn : wn ≤ 14) : ∀ m set (F : FP) s, set < 2 ^ 14 → F.1 ≤ 4 → s ≤ n → (knS c wn m set F s).1 < 2 ^ 14 ∧ (knS c wn m set F s).2.1.1 ≤ 4 ∧ (knS c wn m set F s).2.2 ≤ n
  | 0, set, F, s, h1, h2, h3 => ⟨h1, h2, h3⟩
  | m + 1, set, F, s, h1, h2, h3 => by
    by_cases hz : F.1 = 0
    · obtain ⟨F1, q1⟩ : ∃ x, x = seF c F (nx c s) (nI 0) (nI wn - 1) := ⟨_, rfl⟩
      obtain ⟨F2, q2⟩ : ∃ x, x = (if F1.1 = 0 ∧ set.testBit (tV c (nx c s)) = true then bl F1 4 (nx c s) else F1) := ⟨_, rfl⟩
      obtain ⟨set2, q3⟩ : ∃ x, x = (if F1.1 = 0 then set ||| 1 <<< tV c (nx c s) else set) := ⟨_, rfl⟩
      have b1 := (nx_le hT h3).2
      have b2 := (nx_le hT b1).2
      have k1 : F1.1 ≤ 4 := by rw [q1]; exact seF_ok h2
      have k2 : F2.1 ≤ 4 := by rw [q2]; split; exact bl_ok k1 (by decide); exact k1
      have hset2 : set2 < 2 ^ 14 := by
        rw [q3]
        split
        · rename_i hz1
          have hv := se_w hwn (by rw [← q1]; exact hz1)
          exact Nat.or_lt_two_pow h1 (by rw [Nat.one_shiftLeft]; exact Nat.pow_lt_pow_right (by decide) (by omega))
        · exact h1
      rw [knS_s hz rfl rfl q1 q2 q3]
      split
      · exact knS_b hT hwn m set2 F2 _ hset2 k2 b2
      · exact ⟨hset2, k2, b2⟩
    · rw [knS_n hz]; exact ⟨h1, h2, h3⟩
theorem DrC_per {g : St} {A : DR} (h : DrC g A) (h6 : A.2.2.1.1 < 6) {a b m ha kn : Nat} {x y z u v : Int32} (h1 : a < A.1) (h2 : b < A.1) (h3 : m ≤ 99) (h4 : ha ≤ 3) (h5 : kn < 2 ^ 14) (hx : x = nI a) (hy : y = nI b) (hz : z = nI m) (hu : u = nI ha) (hv : v = nI kn) : DrC (upI (upI (upI (upI (upI (upI g 8 A.2.2.1.1 x) 9 A.2.2.1.1 y) 10 A.2.2.1.1 z) 11 A.2.2.1.1 u) 12 A.2.2.1.1 v) 4 10 (nI (A.2.2.1.1 + 1))) (A.1, A.2.1, (A.2.2.1.1 + 1, upN A.2.2.1.2.1 A.2.2.1.1 a, upN A.2.2.1.2.2.1 A.2.2.1.1 b, upN A.2.2.1.2.2.2 A.2.2.1.1 m), upN A.2.2.2.1 A.2.2.1.1 ha, upN A.2.2.2.2 A.2.2.1.1 kn) := by
  obtain ⟨g1, ⟨g2, g2b⟩, g3, ⟨g4, g5⟩, g6, g7⟩ := h
  obtain ⟨S, hS⟩ : ∃ S, S = (upI (upI (upI (upI (upI (upI g 8 A.2.2.1.1 x) 9 A.2.2.1.1 y) 10 A.2.2.1.1 z) 11 A.2.2.1.1 u) 12 A.2.2.1.1 v) 4 10 (nI (A.2.2.1.1 + 1))) := ⟨_, rfl⟩
  rw [← hS]
  have m4 : S.1 4 = upd (g.1 4) 10 (nI (A.2.2.1.1 + 1)) := by rw [hS, upI_s, upI_n (by decide), upI_n (by decide), upI_n (by decide), upI_n (by decide), upI_n (by decide)]
  have m8 : S.1 8 = upd (g.1 8) A.2.2.1.1 x := by rw [hS, upI_n (by decide), upI_n (by decide), upI_n (by decide), upI_n (by decide), upI_n (by decide), upI_s]
  have m9 : S.1 9 = upd (g.1 9) A.2.2.1.1 y := by rw [hS, upI_n (by decide), upI_n (by decide), upI_n (by decide), upI_n (by decide), upI_s, upI_n (by decide)]
  have m10 : S.1 10 = upd (g.1 10) A.2.2.1.1 z := by rw [hS, upI_n (by decide), upI_n (by decide), upI_n (by decide), upI_s, upI_n (by decide), upI_n (by decide)]
  have m11 : S.1 11 = upd (g.1 11) A.2.2.1.1 u := by rw [hS, upI_n (by decide), upI_n (by decide), upI_s, upI_n (by decide), upI_n (by decide), upI_n (by decide)]
  have m12 : S.1 12 = upd (g.1 12) A.2.2.1.1 v := by rw [hS, upI_n (by decide), upI_s, upI_n (by decide), upI_n (by decide), upI_n (by decide), upI_n (by decide)]
  have mo : ∀ j, 5 ≤ j → j ≤ 7 → S.1 j = g.1 j := fun j hj hj2 => by rw [hS, upI_n (by omega), upI_n (by omega), upI_n (by omega), upI_n (by omega), upI_n (by omega), upI_n (by omega)]
  refine ⟨g1, ⟨h6, fun p hp => ?_⟩, ?_, ⟨?_, fun w hw => ?_⟩, ?_, fun p hp => ?_⟩
  · show upN _ _ _ _ < A.1 ∧ upN _ _ _ _ < A.1 ∧ upN _ _ _ _ ≤ 99 ∧ upN _ _ _ _ ≤ 3 ∧ upN _ _ _ _ < 2 ^ 14
    by_cases e : p = A.2.2.1.1
    · subst e
      rw [up_s, up_s, up_s, up_s, up_s]
      exact ⟨h1, h2, h3, h4, h5⟩
    · rw [up_lt e, up_lt e, up_lt e, up_lt e, up_lt e]
      exact g2b p (by have : p < A.2.2.1.1 + 1 := hp; omega)
  · rw [m4, upd_e (by decide)]; exact g3
  · rw [m4, upd_e (by decide)]; exact g4
  · show S.1 5 w = _ ∧ S.1 6 w = _ ∧ S.1 7 w = _
    rw [mo 5 (by decide) (by decide), mo 6 (by decide) (by decide), mo 7 (by decide) (by decide)]
    exact g5 w hw
  · rw [m4, upd_s]
  · show S.1 8 p = nI (upN _ _ _ _) ∧ S.1 9 p = nI (upN _ _ _ _) ∧ S.1 10 p = nI (upN _ _ _ _) ∧ S.1 11 p = nI (upN _ _ _ _) ∧ S.1 12 p = nI (upN _ _ _ _)
    rw [m8, m9, m10, m11, m12]
    by_cases e : p = A.2.2.1.1
    · subst e
      rw [upd_s, upd_s, upd_s, upd_s, upd_s, up_s, up_s, up_s, up_s, up_s]
      exact ⟨hx, hy, hz, hu, hv⟩
    · rw [upd_e e, upd_e e, upd_e e, upd_e e, upd_e e, up_lt e, up_lt e, up_lt e, up_lt e, up_lt e]
      exact g7 p (by have : p < A.2.2.1.1 + 1 := hp; omega)

theorem c_tkH {ad : Nat → Nat} {g : St} {n s s' : Nat} {c : CT} {F F' : FP} (hT : TxC g n c) (hs : s ≤ n) (hF : F.1 ≤ 4) (e1 : F' = habG c F s) (e2 : s' = nx c s) : Ci 7 mX7_takeHabit [.ref 3] ad (rs g c F s) (fun v g' => v = hvI (habF c s) ∧ g' = rs g c F' s') := by
  subst e1 e2; exact c_takeHabit hT hs hF
set_option maxHeartbeats 4000000 in
set_option maxRecDepth 100000 in
theorem c_readPerson {ad : Nat → Nat} {g : St} {n s : Nat} {c : CT} {A : DR} {F : FP} (hT : TxC g n c) (hs : s ≤ n) (hF : F.1 = 0) (hA : DrC g A) (h0 : 0 < A.1) : Cv 8 mX7_readPerson [.ref 3] ad (rs g c F s) (fun g' => QC g n c (clQ c A F s) g') := by
  obtain ⟨hwo, hpo, x8, hW, x10, hP⟩ := id hA
  have hnp := hwo.2.1
  have h14 := hwo.1
  have h6 := hpo.1
  have hF4 : F.1 ≤ 4 := by omega
  refine Cm.mk rfl (Nat.le_of_ble_eq_true rfl) (fun K hK hR hm hnn => ?_)
  obtain ⟨s1, e1⟩ : ∃ x, x = nx c s := ⟨_, rfl⟩
  obtain ⟨s2, e2⟩ : ∃ x, x = nx c s1 := ⟨_, rfl⟩
  obtain ⟨s3, e3⟩ : ∃ x, x = nx c s2 := ⟨_, rfl⟩
  obtain ⟨s4, e4⟩ : ∃ x, x = nx c s3 := ⟨_, rfl⟩
  obtain ⟨s5, e5⟩ : ∃ x, x = nx c s4 := ⟨_, rfl⟩
  obtain ⟨F1, q1⟩ : ∃ x, x = seF c F s1 (nI 0) (nI (A.1 - 1)) := ⟨_, rfl⟩
  obtain ⟨F2, q2⟩ : ∃ x, x = seF c F1 s2 (nI 0) (nI (A.1 - 1)) := ⟨_, rfl⟩
  obtain ⟨F3, q3⟩ : ∃ x, x = seF c F2 s3 (nI 0) (nI 99) := ⟨_, rfl⟩
  obtain ⟨F4, q4⟩ : ∃ x, x = habG c F3 s4 := ⟨_, rfl⟩
  obtain ⟨R, q5⟩ : ∃ x : KR, x = (if isW c s5 7 = true then knS c A.2.1.1 400 0 F4 s5 else (0, F4, s5)) := ⟨_, rfl⟩
  obtain ⟨s7, e7⟩ : ∃ x, x = nx c R.2.2 := ⟨_, rfl⟩
  have b1 : s1 ≤ n := by rw [e1]; exact (nx_le hT.1 hs).2
  have b2 : s2 ≤ n := by rw [e2]; exact (nx_le hT.1 b1).2
  have b3 : s3 ≤ n := by rw [e3]; exact (nx_le hT.1 b2).2
  have b4 : s4 ≤ n := by rw [e4]; exact (nx_le hT.1 b3).2
  have b5 : s5 ≤ n := by rw [e5]; exact (nx_le hT.1 b4).2
  have k1 : F1.1 ≤ 4 := by rw [q1]; exact seF_ok hF4
  have k2 : F2.1 ≤ 4 := by rw [q2]; exact seF_ok k1
  have k3 : F3.1 ≤ 4 := by rw [q3]; exact seF_ok k2
  have k4 : F4.1 ≤ 4 := by rw [q4]; exact habG_ok k3
  have hRb : R.1 < 2 ^ 14 ∧ R.2.1.1 ≤ 4 ∧ R.2.2 ≤ n := by
    rw [q5]
    split
    · exact knS_b hT.1 h14 400 0 F4 s5 (by decide) k4 b5
    · exact ⟨Nat.two_pow_pos 14, k4, b5⟩
  have b7 : s7 ≤ n := by rw [e7]; exact (nx_le hT.1 hRb.2.2).2
  have hR0 : R.2.1.1 = 0 → F4.1 = 0 := fun h => Classical.byContradiction (fun z => by
    rw [q5, knS_n z, ite_self] at h
    exact z h)
  refine r_aload_n (i := 0) hK dX7_readPerson_0 rfl rfl ?_
  refine r_getA hK flX7_12 to_3 rfl dX7_readPerson_1 ?_
  refine r_getI hK flX7_98 to_4 rfl dX7_readPerson_4 ?_
  refine r_top (y := nI A.2.2.1.1) ((congrFun (rs_n (by decide)) _).trans x10) ?_
  refine r_istore_n (i := 1) hK hm dX7_readPerson_7 rfl (by decide) ?_
  refine r_iload_n (i := 1) hK dX7_readPerson_8 rfl rfl ?_
  refine r_bipush (v := 6) hK dX7_readPerson_9 (by decide) ?_
  refine r_icmp_lt (tgt := 20) hK dX7_readPerson_11 (by decide) (fun h11 => ?_) (fun h11 => ?_)
  · have hp6 : A.2.2.1.1 < 6 := by first | exact Nat.lt_of_not_le (fun z => absurd h11 (nI_nlt z (by omega))) | exact Nat.lt_of_not_le (fun z => h11 (nI_le z (by omega)))
    have hcl := clQ_g (c := c) (A := A) (F := F) (s := s) (by omega) e1 e2 e3 e4 e5 q1 q2 q3 q4 q5
    have h132 : Wp K 0 0 TT ad (rs (upI (upI (upI (upI g 8 A.2.2.1.1 (seV c F1 s1)) 9 A.2.2.1.1 (seV c F2 s2)) 10 A.2.2.1.1 (seV c F3 s3)) 11 A.2.2.1.1 (hvI (habF c s4))) c R.2.1 R.2.2) 132 [(0, .ref 3), (1, .int (nI A.2.2.1.1))] [.int (nI R.1), .int (nI A.2.2.1.1), .ref 12] := by
      refine r_sv3 hK hnn (c_ptE to_12 (by decide) rfl hp6 rfl) moX9_put mlX7_88 dX7_readPerson_132 (Nat.le_of_ble_eq_true rfl) (Nat.le_of_ble_eq_true rfl) (eqV ?_)
      refine r_g (rs_up (by decide)) ?_
      refine r_aload_n (i := 0) hK dX7_readPerson_135 rfl rfl ?_
      refine r_bipush (v := 59) hK dX7_readPerson_136 (by decide) ?_
      refine r_cv1 hK hnn (c_tkS (TxC_kp hT (((((Kp.rf.up (by decide) (by decide)).up (by decide) (by decide)).up (by decide) (by decide)).up (by decide) (by decide)).up (by decide) (by decide))) hRb.2.2 hRb.2.1 rfl (by decide) rfl e7) moX7_takeSign mlX7_70 to_3 rfl rfl dX7_readPerson_138 (Nat.le_of_ble_eq_true rfl) (Nat.le_of_ble_eq_true rfl) (eqV ?_)
      refine r_aload_n (i := 0) hK dX7_readPerson_141 rfl rfl ?_
      refine r_getA hK flX7_12 to_3 rfl dX7_readPerson_142 ?_
      refine r_dup hK dX7_readPerson_145 rfl ?_
      refine r_getI hK flX7_98 to_4 rfl dX7_readPerson_146 ?_
      refine r_top (y := nI A.2.2.1.1) ((congrFun ((rs_n (by decide)).trans ((upI_n (by decide)).trans ((upI_n (by decide)).trans ((upI_n (by decide)).trans ((upI_n (by decide)).trans (upI_n (by decide))))))) _).trans x10) ?_
      refine r_iconst (v := 1) hK dX7_readPerson_149 (by decide) ?_
      refine r_iadd hK dX7_readPerson_150 ?_
      refine r_top (y := nI (A.2.2.1.1 + 1)) (nI_succ _).symm ?_
      refine r_putI hK flX7_98 ft4_10 to_4 rfl dX7_readPerson_151 ?_
      refine r_g (rs_up (by decide)) ?_
      refine q_vret hK hR dX7_readPerson_154 ?_
      rw [hcl]
      refine ⟨_, _, b7, ?_, rfl, fun hz5 => ⟨e7, ?_⟩⟩
      · exact ((((((Kp.rf.up (by decide) (by decide)).up (by decide) (by decide)).up (by decide) (by decide)).up (by decide) (by decide)).up (by decide) (by decide)).up (by decide) (by decide))
      obtain ⟨-, hzR, -⟩ := sgF_0 hz5
      have hz4 := hR0 hzR
      rw [q4] at hz4
      obtain ⟨hh4, hz3⟩ := habG_0 hz4
      rw [q3] at hz3
      obtain ⟨v5, v6, v7⟩ := se_v (hi := 99) (lo := 0) (by decide) (by decide) hz3
      obtain ⟨-, hz2, -⟩ := seF_0 hz3
      rw [q2] at hz2
      obtain ⟨w5, w6, w7⟩ := se_v (by omega) (by omega) hz2
      obtain ⟨-, hz1, -⟩ := seF_0 hz2
      rw [q1] at hz1
      obtain ⟨u5, u6, u7⟩ := se_v (by omega) (by omega) hz1
      exact DrC_per hA hp6 (by omega) (by omega) v7 (by omega) hRb.1 (by rw [q1]; exact u5) (by rw [q2]; exact w5) (by rw [q3]; exact v5) (by unfold hvI; rw [if_pos hh4]) rfl
    refine r_aload_n (i := 0) hK dX7_readPerson_20 rfl rfl ?_
    refine r_cv0 hK hnn (c_stp hT hs e1) moX7_step mlX7_38 to_3 rfl rfl dX7_readPerson_21 (Nat.le_of_ble_eq_true rfl) (Nat.le_of_ble_eq_true rfl) (eqV ?_)
    refine r_aload_n (i := 0) hK dX7_readPerson_24 rfl rfl ?_
    refine r_getA hK flX7_12 to_3 rfl dX7_readPerson_25 ?_
    refine r_getA hK flX7_101 to_4 rfl dX7_readPerson_28 ?_
    refine r_iload_n (i := 1) hK dX7_readPerson_31 rfl rfl ?_
    refine r_aload_n (i := 0) hK dX7_readPerson_32 rfl rfl ?_
    refine r_iconst (v := 0) hK dX7_readPerson_33 (by decide) ?_
    refine r_aload_n (i := 0) hK dX7_readPerson_34 rfl rfl ?_
    refine r_getA hK flX7_12 to_3 rfl dX7_readPerson_35 ?_
    refine r_getI hK flX7_50 to_4 rfl dX7_readPerson_38 ?_
    refine r_top (y := nI A.1) ((congrFun ((rs_n (by decide))) _).trans x8) ?_
    refine r_iconst (v := 1) hK dX7_readPerson_41 (by decide) ?_
    refine r_isub hK dX7_readPerson_42 ?_
    refine r_top (y := nI (A.1 - 1)) (pk_sub (a := A.1) (b := 1) h0) ?_
    refine r_ci2 hK hnn (c_tkN hT b1 hF4 q1 e2) moX7_takeNumber mlX7_66 to_3 rfl rfl dX7_readPerson_43 (Nat.le_of_ble_eq_true rfl) (Nat.le_of_ble_eq_true rfl) (eqI ?_)
    refine r_sv3 hK hnn (c_ptE to_8 (by decide) rfl hp6 rfl) moX9_put mlX7_88 dX7_readPerson_46 (Nat.le_of_ble_eq_true rfl) (Nat.le_of_ble_eq_true rfl) (eqV ?_)
    refine r_g (rs_up (by decide)) ?_
    refine r_aload_n (i := 0) hK dX7_readPerson_49 rfl rfl ?_
    refine r_getA hK flX7_12 to_3 rfl dX7_readPerson_50 ?_
    refine r_getA hK flX7_104 to_4 rfl dX7_readPerson_53 ?_
    refine r_iload_n (i := 1) hK dX7_readPerson_56 rfl rfl ?_
    refine r_aload_n (i := 0) hK dX7_readPerson_57 rfl rfl ?_
    refine r_iconst (v := 0) hK dX7_readPerson_58 (by decide) ?_
    refine r_aload_n (i := 0) hK dX7_readPerson_59 rfl rfl ?_
    refine r_getA hK flX7_12 to_3 rfl dX7_readPerson_60 ?_
    refine r_getI hK flX7_50 to_4 rfl dX7_readPerson_63 ?_
    refine r_top (y := nI A.1) ((congrFun ((rs_n (by decide)).trans (upI_n (by decide))) _).trans x8) ?_
    refine r_iconst (v := 1) hK dX7_readPerson_66 (by decide) ?_
    refine r_isub hK dX7_readPerson_67 ?_
    refine r_top (y := nI (A.1 - 1)) (pk_sub (a := A.1) (b := 1) h0) ?_
    refine r_ci2 hK hnn (c_tkN (TxC_kp hT (Kp.rf.up (by decide) (by decide))) b2 k1 q2 e3) moX7_takeNumber mlX7_66 to_3 rfl rfl dX7_readPerson_68 (Nat.le_of_ble_eq_true rfl) (Nat.le_of_ble_eq_true rfl) (eqI ?_)
    refine r_sv3 hK hnn (c_ptE to_9 (by decide) rfl hp6 rfl) moX9_put mlX7_88 dX7_readPerson_71 (Nat.le_of_ble_eq_true rfl) (Nat.le_of_ble_eq_true rfl) (eqV ?_)
    refine r_g (rs_up (by decide)) ?_
    refine r_aload_n (i := 0) hK dX7_readPerson_74 rfl rfl ?_
    refine r_getA hK flX7_12 to_3 rfl dX7_readPerson_75 ?_
    refine r_getA hK flX7_107 to_4 rfl dX7_readPerson_78 ?_
    refine r_iload_n (i := 1) hK dX7_readPerson_81 rfl rfl ?_
    refine r_aload_n (i := 0) hK dX7_readPerson_82 rfl rfl ?_
    refine r_iconst (v := 0) hK dX7_readPerson_83 (by decide) ?_
    refine r_bipush (v := 99) hK dX7_readPerson_84 (by decide) ?_
    refine r_ci2 hK hnn (c_tkN (TxC_kp hT ((Kp.rf.up (by decide) (by decide)).up (by decide) (by decide))) b3 k2 q3 e4) moX7_takeNumber mlX7_66 to_3 rfl rfl dX7_readPerson_86 (Nat.le_of_ble_eq_true rfl) (Nat.le_of_ble_eq_true rfl) (eqI ?_)
    refine r_sv3 hK hnn (c_ptE to_10 (by decide) rfl hp6 rfl) moX9_put mlX7_88 dX7_readPerson_89 (Nat.le_of_ble_eq_true rfl) (Nat.le_of_ble_eq_true rfl) (eqV ?_)
    refine r_g (rs_up (by decide)) ?_
    refine r_aload_n (i := 0) hK dX7_readPerson_92 rfl rfl ?_
    refine r_getA hK flX7_12 to_3 rfl dX7_readPerson_93 ?_
    refine r_getA hK flX7_110 to_4 rfl dX7_readPerson_96 ?_
    refine r_iload_n (i := 1) hK dX7_readPerson_99 rfl rfl ?_
    refine r_aload_n (i := 0) hK dX7_readPerson_100 rfl rfl ?_
    refine r_ci0 hK hnn (c_tkH (TxC_kp hT (((Kp.rf.up (by decide) (by decide)).up (by decide) (by decide)).up (by decide) (by decide))) b4 k3 q4 e5) moX7_takeHabit mlX7_113 to_3 rfl rfl dX7_readPerson_101 (Nat.le_of_ble_eq_true rfl) (Nat.le_of_ble_eq_true rfl) (eqI ?_)
    refine r_sv3 hK hnn (c_ptE to_11 (by decide) rfl hp6 rfl) moX9_put mlX7_88 dX7_readPerson_104 (Nat.le_of_ble_eq_true rfl) (Nat.le_of_ble_eq_true rfl) (eqV ?_)
    refine r_g (rs_up (by decide)) ?_
    refine r_aload_n (i := 0) hK dX7_readPerson_107 rfl rfl ?_
    refine r_getA hK flX7_12 to_3 rfl dX7_readPerson_108 ?_
    refine r_getA hK flX7_117 to_4 rfl dX7_readPerson_111 ?_
    refine r_iload_n (i := 1) hK dX7_readPerson_114 rfl rfl ?_
    refine r_aload_n (i := 0) hK dX7_readPerson_115 rfl rfl ?_
    refine r_str120 hK hm dX7_readPerson_116 ?_
    refine r_ci1 hK hnn (c_isWord (k := 7) (TxC_kp hT ((((Kp.rf.up (by decide) (by decide)).up (by decide) (by decide)).up (by decide) (by decide)).up (by decide) (by decide))) b5 (by decide)) moX7_isWord mlX7_43 to_3 rfl rfl dX7_readPerson_118 (Nat.le_of_ble_eq_true rfl) (Nat.le_of_ble_eq_true rfl) (eqI ?_)
    refine r_if_eq (tgt := 131) hK dX7_readPerson_121 (by decide) (fun h121 => ?_) (fun h121 => ?_)
    · refine r_iconst (v := 0) hK dX7_readPerson_131 (by decide) ?_
      first
        | (have eR : (0, F4, s5) = R := (by rw [q5, if_neg (by rw [B1_0.mp h121]; decide)]); rw [← eR] at h132; refine r_loc ?_ h132; rfl)
        | (refine r_loc ?_ h132; rfl)
    · refine r_aload_n (i := 0) hK dX7_readPerson_124 rfl rfl ?_
      refine r_ci0 hK hnn (c_takeKnown (R := R) (TxC_kp hT ((((Kp.rf.up (by decide) (by decide)).up (by decide) (by decide)).up (by decide) (by decide)).up (by decide) (by decide))) b5 k4 h14 ((congrFun ((upI_n (by decide)).trans ((upI_n (by decide)).trans ((upI_n (by decide)).trans (upI_n (by decide))))) _).trans hW.1) (by rw [q5, if_pos (B1_n.mp h121)])) moX7_takeKnown mlX7_122 to_3 rfl rfl dX7_readPerson_125 (Nat.le_of_ble_eq_true rfl) (Nat.le_of_ble_eq_true rfl) (eqI ?_)
      refine r_goto (tgt := 132) hK dX7_readPerson_128 (by decide) ?_
      first
        | (have eR : (0, F4, s5) = R := (by rw [q5, if_neg (by rw [B1_0.mp h121]; decide)]); rw [← eR] at h132; refine r_loc ?_ h132; rfl)
        | (refine r_loc ?_ h132; rfl)
  · refine r_aload_n (i := 0) hK dX7_readPerson_14 rfl rfl ?_
    refine r_iconst (v := 3) hK dX7_readPerson_15 (by decide) ?_
    refine r_cv1 hK hnn (c_blame hF4 rfl (by decide)) moX7_blame mlX7_62 to_3 rfl rfl dX7_readPerson_16 (Nat.le_of_ble_eq_true rfl) (Nat.le_of_ble_eq_true rfl) (eqV ?_)
    refine q_vret hK hR dX7_readPerson_19 ?_
    have hc : clQ c A F s = (A, bl F 3 s, s) := by unfold clQ; rw [if_pos (Nat.le_of_not_lt (fun z => h11 (nI_lt z (by decide))))]
    rw [hc]
    exact ⟨g, s, hs, Kp.rf, rfl, fun z => absurd z (bl_n (by decide))⟩
