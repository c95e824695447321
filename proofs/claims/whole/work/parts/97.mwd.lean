/-! THE MODEL: a word read -/
def WQ (c : CT) (g : St) (s i : Nat) (g' : St) : Prop := (∀ j, j ≠ 91 → g'.1 j = g.1 j) ∧ (∀ k, k ≠ 16 → k ≠ 18 → g'.1 91 k = g.1 91 k) ∧ (∀ j k, ¬ (j = 91 ∧ k = 17) → g'.2 j k = g.2 j k) ∧ g'.1 91 16 = nI s ∧ g'.1 91 18 = nI (s + i) ∧ g'.2 91 17 = lN (wc c s i)
theorem MTx_w {g g' : St} {n s i : Nat} {c : CT} (h : MTx g n c) (hf : WQ c g s i g') : MTx g' n c := by
  obtain ⟨h1, h2, h3⟩ := h
  exact ⟨h1, (hf.2.1 14 (by decide) (by decide)).trans h2, fun i hi => by rw [hf.1 100 (by decide)]; exact h3 i hi⟩
theorem WQ.up {c : CT} {g g' : St} {s i : Nat} {v : Int64} (h : WQ c g s i g') (hv : v = lN (wc c s (i + 1))) : WQ c g s (i + 1) (upI (upL g' 91 17 v) 91 18 (nI (s + (i + 1)))) := by
  obtain ⟨h1, h2, h3, h4, h5, h6⟩ := h
  refine ⟨fun j hj => (upI_n hj).trans (h1 j hj), fun k hk hk2 => (upd_n2 hk2).trans (h2 k hk hk2), fun j k hjk => ?_, (upd_n2 (show (16 : Nat) ≠ 18 by decide)).trans h4, by rw [upI_s, upd_s], ?_⟩
  · show (upL g' 91 17 v).2 j k = g.2 j k
    by_cases e : j = 91
    · subst e
      rw [upL_s]
      unfold vp_updL
      rw [if_neg (fun z => hjk ⟨rfl, z⟩)]
      exact h3 91 k hjk
    · rw [upL_n e]; exact h3 j k hjk
  · show (upL g' 91 17 v).2 91 17 = _
    rw [upL_s]
    unfold vp_updL
    rw [if_pos rfl, hv]
theorem lN_lt63 {a b : Nat} (ha : a < 2 ^ 63) (hb : b < 2 ^ 63) : lN a < lN b ↔ a < b := by
  rw [Int64.lt_iff_toInt_lt, pk_lT ha, pk_lT hb]; omega
theorem bI_lt {b : Nat} (h : b < 256) : bI (nI b) 97 122 = lt b := by
  have h1 := ltI_c (x := b) (Or.inl h)
  have h2 : cI b = nI b := by unfold cI; rw [if_neg (by omega)]
  rw [h2] at h1
  rw [← h1]
  unfold bI ltI
  rw [decide_not, decide_not]
theorem bI_fg {b : Nat} (h : b < 256) : bI (nI b) 48 57 = fg b := by
  have h1 := fgI_c (x := b) (Or.inl h)
  have h2 : cI b = nI b := by unfold cI; rw [if_neg (by omega)]
  rw [h2] at h1
  rw [← h1]
  unfold bI fgI
  rw [decide_not, decide_not]

set_option maxHeartbeats 4000000 in
set_option maxRecDepth 100000 in
theorem lm_rw {K : KT} {ad : Nat → Nat} {g : St} {n s : Nat} {c : CT} (hT : MTx g n c) (hs : s ≤ n) (hK : Cx K RX10 cX10_readWord 2 ad) (hm : K.2.2.1.2.maxLocals = 2) (hnn : Nn K 0 0)
    (hR : Rt K 0 0 TT ad none (Qv ad (fun g' => WQ c g s (wl c s) g'))) :
    ∀ m i, i + m = wl c s → ∀ g1, WQ c g s i g1 → Wp K 0 0 TT ad g1 18 [(0, .ref 91)] [] := by
  have hn4 := hT.1.1
  have hwl := wl_le hT.1 hs
  have hwc := fun i (hi : i ≤ wl c s) => wc_le (c := c) (s := s) i (fun j hj => wl_lt (by omega))
  intro m
  induction m with
  | zero =>
    intro i him g1 hf
    have hT1 := MTx_w hT hf
    have e : i = wl c s := by omega
    have hend : lt (c (s + i)) = false := by rw [e]; exact wl_end hT.1 hs
    rw [← e] at hR
    by_cases hin : s + i < n
    · have hb := hT.1.2.1 (s + i) hin
      refine r_aload_n (i := 0) hK dX10_readWord_18 rfl rfl ?_
      refine r_getI hK flX10_154 to_91 rfl dX10_readWord_19 ?_
      refine r_top (y := nI (s + i)) hf.2.2.2.2.1 ?_
      refine r_aload_n (i := 0) hK dX10_readWord_22 rfl rfl ?_
      refine r_getI hK flX10_137 to_91 rfl dX10_readWord_23 ?_
      refine r_top (y := nI n) hT1.2.1 ?_
      refine r_icmp_ge (tgt := 108) hK dX10_readWord_26 (by decide) (fun h => absurd h (nI_ge hin (by omega))) (fun _ => ?_)
      refine r_aload_n (i := 0) hK dX10_readWord_29 rfl rfl ?_
      refine r_getA hK flX10_34 to_91 rfl dX10_readWord_30 ?_
      refine r_aload_n (i := 0) hK dX10_readWord_33 rfl rfl ?_
      refine r_getI hK flX10_154 to_91 rfl dX10_readWord_34 ?_
      refine r_top (y := nI (s + i)) hf.2.2.2.2.1 ?_
      refine r_ialN hK to_100 rfl (by omega) (by decide) (hT1.2.2 (s + i) hin) dX10_readWord_37 ?_
      refine r_i2l hK dX10_readWord_38 ?_
      refine r_ldc2 hK ckX10_157 dX10_readWord_39 ?_
      refine r_ldc2 hK ckX10_159 dX10_readWord_42 ?_
      refine r_si3 hK hnn c_mIn moX10_in mlX10_124 dX10_readWord_45 (Nat.le_of_ble_eq_true rfl) (Nat.le_of_ble_eq_true rfl) (eqI ?_)
      refine r_top (y := B1 (lt (c (s + i)))) (congrArg B1 ((inL_b (lI := 97) (hI := 122) rfl rfl).trans (bI_lt (hT1.1.2.1 _ hin)))) ?_
      refine r_if_eq (tgt := 108) hK dX10_readWord_48 (by decide) (fun _ => ?_) (fun h => absurd (by rw [hend]; rfl) h)
      refine q_vret hK hR dX10_readWord_108 ?_
      exact hf
    · have hin2 : n ≤ s + i := by omega
      refine r_aload_n (i := 0) hK dX10_readWord_18 rfl rfl ?_
      refine r_getI hK flX10_154 to_91 rfl dX10_readWord_19 ?_
      refine r_top (y := nI (s + i)) hf.2.2.2.2.1 ?_
      refine r_aload_n (i := 0) hK dX10_readWord_22 rfl rfl ?_
      refine r_getI hK flX10_137 to_91 rfl dX10_readWord_23 ?_
      refine r_top (y := nI n) hT1.2.1 ?_
      refine r_icmp_ge (tgt := 108) hK dX10_readWord_26 (by decide) (fun _ => ?_) (fun h => absurd (nI_le (by omega) (by omega)) h)
      refine q_vret hK hR dX10_readWord_108 ?_
      exact hf
  | succ m ih =>
    intro i him g1 hf
    have hT1 := MTx_w hT hf
    have hin : s + i < n := by omega
    have hb := hT.1.2.1 (s + i) hin
    have hl : lt (c (s + i)) = true := wl_lt (by omega)
    have hl2 : 97 ≤ c (s + i) := by
      unfold lt at hl
      simp only [Bool.and_eq_true, decide_eq_true_eq] at hl
      exact hl.1
    have hw9 := hwc i (by omega)
    have hev : lg_cmp (lN (wc c s i)) 1000000000000 ≤ 0 → lN (27 * wc c s i + c (s + i) - 96) = lN (wc c s (i + 1)) := fun z => by
      rw [wc_s, if_neg (fun q => absurd ((lg_cmp_gt _ _).mpr ((lN_lt63 (a := 1000000000000) (by decide) (by omega)).mpr q)) (Int32.not_lt.mpr z))]
    refine r_aload_n (i := 0) hK dX10_readWord_18 rfl rfl ?_
    refine r_getI hK flX10_154 to_91 rfl dX10_readWord_19 ?_
    refine r_top (y := nI (s + i)) hf.2.2.2.2.1 ?_
    refine r_aload_n (i := 0) hK dX10_readWord_22 rfl rfl ?_
    refine r_getI hK flX10_137 to_91 rfl dX10_readWord_23 ?_
    refine r_top (y := nI n) hT1.2.1 ?_
    refine r_icmp_ge (tgt := 108) hK dX10_readWord_26 (by decide) (fun h => absurd h (nI_ge hin (by omega))) (fun _ => ?_)
    refine r_aload_n (i := 0) hK dX10_readWord_29 rfl rfl ?_
    refine r_getA hK flX10_34 to_91 rfl dX10_readWord_30 ?_
    refine r_aload_n (i := 0) hK dX10_readWord_33 rfl rfl ?_
    refine r_getI hK flX10_154 to_91 rfl dX10_readWord_34 ?_
    refine r_top (y := nI (s + i)) hf.2.2.2.2.1 ?_
    refine r_ialN hK to_100 rfl (by omega) (by decide) (hT1.2.2 (s + i) hin) dX10_readWord_37 ?_
    refine r_i2l hK dX10_readWord_38 ?_
    refine r_ldc2 hK ckX10_157 dX10_readWord_39 ?_
    refine r_ldc2 hK ckX10_159 dX10_readWord_42 ?_
    refine r_si3 hK hnn c_mIn moX10_in mlX10_124 dX10_readWord_45 (Nat.le_of_ble_eq_true rfl) (Nat.le_of_ble_eq_true rfl) (eqI ?_)
    refine r_top (y := B1 (lt (c (s + i)))) (congrArg B1 ((inL_b (lI := 97) (hI := 122) rfl rfl).trans (bI_lt (hT1.1.2.1 _ hin)))) ?_
    refine r_if_eq (tgt := 108) hK dX10_readWord_48 (by decide) (fun h => absurd h (by rw [hl]; decide)) (fun _ => ?_)
    refine r_aload_n (i := 0) hK dX10_readWord_51 rfl rfl ?_
    refine r_aload_n (i := 0) hK dX10_readWord_52 rfl rfl ?_
    refine r_getL hK flX10_150 to_91 rfl dX10_readWord_53 ?_
    refine r_topL (y := lN (wc c s i)) hf.2.2.2.2.2 ?_
    refine r_ldc2 hK ckX10_161 dX10_readWord_56 ?_
    refine r_lcmp hK dX10_readWord_59 ?_
    refine r_if_le (tgt := 69) hK dX10_readWord_60 (by decide) (fun h60 => ?_) (fun h60 => ?_)
    · refine r_ldc2 hK ckX10_165 dX10_readWord_69 ?_
      refine r_aload_n (i := 0) hK dX10_readWord_72 rfl rfl ?_
      refine r_getL hK flX10_150 to_91 rfl dX10_readWord_73 ?_
      refine r_topL (y := lN (wc c s i)) hf.2.2.2.2.2 ?_
      refine r_lmul hK dX10_readWord_76 ?_
      refine r_aload_n (i := 0) hK dX10_readWord_77 rfl rfl ?_
      refine r_getA hK flX10_34 to_91 rfl dX10_readWord_78 ?_
      refine r_aload_n (i := 0) hK dX10_readWord_81 rfl rfl ?_
      refine r_getI hK flX10_154 to_91 rfl dX10_readWord_82 ?_
      refine r_top (y := nI (s + i)) hf.2.2.2.2.1 ?_
      refine r_ialN hK to_100 rfl (by omega) (by decide) (hT1.2.2 (s + i) hin) dX10_readWord_85 ?_
      refine r_i2l hK dX10_readWord_86 ?_
      refine r_topL (y := lN (c (s + i))) (nI_l (by omega)) ?_
      refine r_ladd hK dX10_readWord_87 ?_
      refine r_ldc2 hK ckX10_167 dX10_readWord_88 ?_
      refine r_lsub hK dX10_readWord_91 ?_
      refine r_topL (y := lN (27 * wc c s i + c (s + i) - 96)) (by rw [show (27 : Int64) = lN 27 from rfl, lN_mul, lN_add]; exact lN_sub (a := 27 * wc c s i + c (s + i)) (b := 96) (by omega)) ?_
      refine r_putL hK flX10_150 ft10_17 to_91 rfl dX10_readWord_92 ?_
      refine r_aload_n (i := 0) hK dX10_readWord_95 rfl rfl ?_
      refine r_dup hK dX10_readWord_96 rfl ?_
      refine r_getI hK flX10_154 to_91 rfl dX10_readWord_97 ?_
      refine r_top (y := nI (s + i)) (show g1.1 91 18 = nI (s + i) from hf.2.2.2.2.1) ?_
      refine r_iconst (v := 1) hK dX10_readWord_100 (by decide) ?_
      refine r_iadd hK dX10_readWord_101 ?_
      refine r_top (y := nI (s + (i + 1))) (nI_add _ _) ?_
      refine r_putI hK flX10_154 ft10_18 to_91 rfl dX10_readWord_102 ?_
      refine r_goto (tgt := 18) hK dX10_readWord_105 (by decide) ?_
      first
        | (have ev : lN 2000000000000 = lN (wc c s (i + 1)) := (by rw [wc_s, if_pos ((lN_lt63 (by decide) (by omega)).mp ((lg_cmp_gt _ _).mp (Int32.not_le.mp h60)))]); refine r_loc ?_ (ih (i + 1) (by omega) _ (hf.up ev)); rfl)
        | (refine r_loc ?_ (ih (i + 1) (by omega) _ (hf.up (hev h60))); rfl)
    · refine r_ldc2 hK ckX10_163 dX10_readWord_63 ?_
      refine r_goto (tgt := 92) hK dX10_readWord_66 (by decide) ?_
      refine r_putL hK flX10_150 ft10_17 to_91 rfl dX10_readWord_92 ?_
      refine r_aload_n (i := 0) hK dX10_readWord_95 rfl rfl ?_
      refine r_dup hK dX10_readWord_96 rfl ?_
      refine r_getI hK flX10_154 to_91 rfl dX10_readWord_97 ?_
      refine r_top (y := nI (s + i)) (show g1.1 91 18 = nI (s + i) from hf.2.2.2.2.1) ?_
      refine r_iconst (v := 1) hK dX10_readWord_100 (by decide) ?_
      refine r_iadd hK dX10_readWord_101 ?_
      refine r_top (y := nI (s + (i + 1))) (nI_add _ _) ?_
      refine r_putI hK flX10_154 ft10_18 to_91 rfl dX10_readWord_102 ?_
      refine r_goto (tgt := 18) hK dX10_readWord_105 (by decide) ?_
      first
        | (have ev : lN 2000000000000 = lN (wc c s (i + 1)) := (by rw [wc_s, if_pos ((lN_lt63 (by decide) (by omega)).mp ((lg_cmp_gt _ _).mp (Int32.not_le.mp h60)))]); refine r_loc ?_ (ih (i + 1) (by omega) _ (hf.up ev)); rfl)
        | (refine r_loc ?_ (ih (i + 1) (by omega) _ (hf.up (hev h60))); rfl)
set_option maxHeartbeats 4000000 in
set_option maxRecDepth 100000 in
theorem c_mReadWord {ad : Nat → Nat} {g : St} {n p : Nat} {c : CT} (hT : MTx g n c) (hp : p ≤ n) (hpo : g.1 91 16 = nI p) : Cv 2 mX10_readWord [.ref 91] ad g (fun g' => WQ c g (sk c p) (wl c (sk c p)) g') := by
  refine Cm.mk rfl (Nat.le_of_ble_eq_true rfl) (fun K hK hR hm hnn => ?_)
  refine r_aload_n (i := 0) hK dX10_readWord_0 rfl rfl ?_
  refine r_ci0 hK hnn (c_mHere hT hp hpo) moX10_here mlX10_146 to_91 rfl rfl dX10_readWord_1 (Nat.le_of_ble_eq_true rfl) (Nat.le_of_ble_eq_true rfl) (fun v1 g1 q1 => ?_)
  obtain ⟨-, hf⟩ := q1
  have hs := (sk_le hT.1 hp).2
  refine r_istore_n (i := 1) hK hm dX10_readWord_4 rfl (by decide) ?_
  refine r_aload_n (i := 0) hK dX10_readWord_5 rfl rfl ?_
  refine r_lconst (v := 0) hK dX10_readWord_6 (by decide) ?_
  refine r_putL hK flX10_150 ft10_17 to_91 rfl dX10_readWord_7 ?_
  refine r_aload_n (i := 0) hK dX10_readWord_10 rfl rfl ?_
  refine r_aload_n (i := 0) hK dX10_readWord_11 rfl rfl ?_
  refine r_getI hK flX10_143 to_91 rfl dX10_readWord_12 ?_
  refine r_top (y := nI (sk c p)) (show g1.1 91 16 = nI (sk c p) from hf.2.2.2) ?_
  refine r_putI hK flX10_154 ft10_18 to_91 rfl dX10_readWord_15 ?_
  refine r_loc ?_ (lm_rw hT hs hK hm hnn hR (wl c (sk c p)) 0 (by omega) _ ?_)
  · rfl
  · refine ⟨fun j hj => (upI_n hj).trans (hf.1 j hj), fun k hk hk2 => (upd_n2 hk2).trans (hf.2.1 k hk), fun j k hjk => ?_, (upd_n2 (show (16 : Nat) ≠ 18 by decide)).trans hf.2.2.2, by rw [upI_s, upd_s]; rfl, ?_⟩
    · show (upL g1 91 17 0).2 j k = g.2 j k
      by_cases e : j = 91
      · subst e
        rw [upL_s]
        unfold vp_updL
        rw [if_neg (fun z => hjk ⟨rfl, z⟩), hf.2.2.1]
      · rw [upL_n e, hf.2.2.1]
    · show (upL g1 91 17 0).2 91 17 = _
      rw [upL_s]
      unfold vp_updL
      rw [if_pos rfl]
      rfl
