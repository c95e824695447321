/-! TOKENS, step -/
def tk (g : St) (c : CT) (s : Nat) : St := rd g (nI s) (nI (tL c s)) (B1 (lt (c s))) (B1 (fg (c s))) (vI c s (tL c s - 1))

set_option maxHeartbeats 4000000 in
set_option maxRecDepth 100000 in
theorem l_st1 {K : KT} {ad : Nat → Nat} {g : St} {n q : Nat} {c : CT} {L a b v : Int32} (hT : TxC g n c) (hq : q ≤ n) (hK : Cx K RX7 cX7_step 3 ad) (hm : K.2.2.1.2.maxLocals = 2) (hnn : Nn K 0 0)
    (h51 : Wp K 0 0 TT ad (rd g (nI (sk c q)) L a b v) 51 [(0, .ref 3)] []) :
    ∀ m i, i + m = 400 → fdF (fun i => decide (c i ≠ 32)) m (q + i) = sk c q → Wp K 0 0 TT ad (rd g (nI (q + i)) L a b v) 15 [(0, .ref 3), (1, .int (nI i))] [] := by
  have h400 := hT.1.1
  intro m
  induction m with
  | zero =>
    intro i hi hfd
    have e : i = 400 := by omega
    subst e
    refine r_iload_n (i := 1) hK dX7_step_15 rfl rfl ?_
    refine r_sipush (v := 400) hK dX7_step_16 (by decide) ?_
    refine r_icmp_ge (tgt := 51) hK dX7_step_19 (by decide) (fun _ => ?_) (fun h => absurd (by decide) h)
    rw [← hfd] at h51
    refine r_loc ?_ h51
    rfl
  | succ m ih =>
    intro i hi hfd
    refine r_iload_n (i := 1) hK dX7_step_15 rfl rfl ?_
    refine r_sipush (v := 400) hK dX7_step_16 (by decide) ?_
    refine r_icmp_ge (tgt := 51) hK dX7_step_19 (by decide) (fun h => absurd h (nI_ge (show i < 400 by omega) (by decide))) (fun _ => ?_)
    refine r_aload_n (i := 0) hK dX7_step_22 rfl rfl ?_
    refine r_aload_n (i := 0) hK dX7_step_23 rfl rfl ?_
    refine r_getI hK flX7_32 to_3 rfl dX7_step_24 ?_
    refine r_top (y := nI (q + i)) rd_4 ?_
    refine r_ci1 hK hnn (c_byteAt (TxC_rd hT) rfl (by omega)) moX7_byteAt mlX7_144 to_3 rfl rfl dX7_step_27 (Nat.le_of_ble_eq_true rfl) (Nat.le_of_ble_eq_true rfl) (eqI ?_)
    refine r_bipush (v := 32) hK dX7_step_30 (by decide) ?_
    refine r_icmp_ne (tgt := 51) hK dX7_step_32 (by decide) (fun h32 => ?_) (fun h32 => ?_)
    · have hR51 : sk c q = q + i := by rw [← hfd, fdF_succ, if_pos (by rw [decide_eq_true_eq]; exact fun z => h32 (by rw [z]; rfl))]
      rw [hR51] at h51
      refine r_loc ?_ h51
      rfl
    · refine r_aload_n (i := 0) hK dX7_step_35 rfl rfl ?_
      have hz : ¬ decide (c (q + i) ≠ 32) = true := by rw [decide_eq_true_eq, Classical.not_not]; exact (cI_eq (tOk_b hT.1 _) (by decide)).mp h32
      refine r_dup hK dX7_step_36 rfl ?_
      refine r_getI hK flX7_32 to_3 rfl dX7_step_37 ?_
      refine r_top (y := nI (q + i)) rd_4 ?_
      refine r_iconst (v := 1) hK dX7_step_40 (by decide) ?_
      refine r_iadd hK dX7_step_41 ?_
      refine r_top (y := nI (q + (i + 1))) (by rw [← nI_succ]; rfl) ?_
      refine r_putI hK flX7_32 ft7_4 to_3 rfl dX7_step_42 ?_
      refine r_g rd_p4 ?_
      refine r_iincN (i := 1) hK hm dX7_step_45 rfl (by decide) ?_
      refine r_goto (tgt := 15) hK dX7_step_48 (by decide) ?_
      refine r_loc ?_ (ih (i + 1) (by omega) (by rw [← Nat.add_assoc, ← hfd, fdF_succ, if_neg hz]))
      rfl
set_option maxHeartbeats 4000000 in
set_option maxRecDepth 100000 in
theorem l_st2 {K : KT} {ad : Nat → Nat} {g : St} {n s : Nat} {c : CT} (hT : TxC g n c) (hs : s ≤ n) (h9 : ¬ c s = 999) (hK : Cx K RX7 cX7_step 3 ad) (hm : K.2.2.1.2.maxLocals = 2) (hnn : Nn K 0 0)
    (hR : Rt K 0 0 TT ad none (Qv ad (fun g' => g' = tk g c s))) :
    ∀ m k, k + m = 399 → fdF (fun i => !gO c s i) m (k + 1) = fdF (fun i => !gO c s i) 399 1 → Wp K 0 0 TT ad (rd g (nI s) (nI (k + 1)) (B1 (lt (c s))) (B1 (fg (c s))) (vI c s k)) 119 [(0, .ref 3), (1, .int (nI (k + 1)))] [] := by
  have h400 := hT.1.1
  intro m
  induction m with
  | zero =>
    intro k hi hfd
    have e : k = 399 := by omega
    subst e
    refine r_iload_n (i := 1) hK dX7_step_119 rfl rfl ?_
    refine r_sipush (v := 400) hK dX7_step_120 (by decide) ?_
    refine r_icmp_ge (tgt := 199) hK dX7_step_123 (by decide) (fun _ => ?_) (fun h => absurd (by decide) h)
    refine q_vret hK hR dX7_step_199 ?_
    have ht : tL c s = 399 + 1 := by unfold tL; rw [if_neg h9, ← hfd]; rfl
    show rd g _ _ _ _ _ = tk g c s
    unfold tk
    rw [ht]
  | succ m ih =>
    intro k hi hfd
    have hfd9 := hfd
    refine r_iload_n (i := 1) hK dX7_step_119 rfl rfl ?_
    refine r_sipush (v := 400) hK dX7_step_120 (by decide) ?_
    refine r_icmp_ge (tgt := 199) hK dX7_step_123 (by decide) (fun h => absurd h (nI_ge (show k + 1 < 400 by omega) (by decide))) (fun _ => ?_)
    refine r_aload_n (i := 0) hK dX7_step_126 rfl rfl ?_
    refine r_aload_n (i := 0) hK dX7_step_127 rfl rfl ?_
    refine r_aload_n (i := 0) hK dX7_step_128 rfl rfl ?_
    refine r_getI hK flX7_32 to_3 rfl dX7_step_129 ?_
    refine r_top (y := nI s) rd_4 ?_
    refine r_iload_n (i := 1) hK dX7_step_132 rfl rfl ?_
    refine r_iadd hK dX7_step_133 ?_
    refine r_top (y := nI (s + (k + 1))) (nI_add _ _) ?_
    refine r_ci1 hK hnn (c_byteAt (TxC_rd hT) rfl (by omega)) moX7_byteAt mlX7_144 to_3 rfl rfl dX7_step_134 (Nat.le_of_ble_eq_true rfl) (Nat.le_of_ble_eq_true rfl) (eqI ?_)
    refine r_ci1 hK hnn (c_goesOn (a := lt (c s)) (b := fg (c s)) rd_6 rd_7) moX7_goesOn mlX7_166 to_3 rfl rfl dX7_step_137 (Nat.le_of_ble_eq_true rfl) (Nat.le_of_ble_eq_true rfl) (eqI ?_)
    refine r_top (y := B1 (gO c s (k + 1))) (by rw [ltI_c (tOk_b hT.1 _), fgI_c (tOk_b hT.1 _)]; rfl) ?_
    refine r_if_eq (tgt := 199) hK dX7_step_140 (by decide) (fun h140 => ?_) (fun h140 => ?_)
    · refine q_vret hK hR dX7_step_199 ?_
      have ht : tL c s = k + 1 := by unfold tL; rw [if_neg h9, ← hfd9, fdF_succ, if_pos (by rw [B1_0.mp h140]; rfl)]
      show rd g _ _ _ _ _ = tk g c s
      unfold tk
      rw [ht]
      rfl
    · refine r_aload_n (i := 0) hK dX7_step_143 rfl rfl ?_
      have hz : ¬ (!gO c s (k + 1)) = true := by rw [B1_n.mp h140]; decide
      refine r_dup hK dX7_step_144 rfl ?_
      refine r_getI hK flX7_35 to_3 rfl dX7_step_145 ?_
      refine r_top (y := nI (k + 1)) rd_5 ?_
      refine r_iconst (v := 1) hK dX7_step_148 (by decide) ?_
      refine r_iadd hK dX7_step_149 ?_
      refine r_top (y := nI (k + 1 + 1)) (nI_succ (k + 1)).symm ?_
      refine r_putI hK flX7_35 ft7_5 to_3 rfl dX7_step_150 ?_
      refine r_g rd_p5 ?_
      refine r_aload_n (i := 0) hK dX7_step_153 rfl rfl ?_
      refine r_aload_n (i := 0) hK dX7_step_154 rfl rfl ?_
      refine r_getI hK flX7_35 to_3 rfl dX7_step_155 ?_
      refine r_top (y := nI (k + 1 + 1)) rd_5 ?_
      refine r_iconst (v := 3) hK dX7_step_158 (by decide) ?_
      refine r_icmp_le (tgt := 169) hK dX7_step_159 (by decide) (fun h159 => ?_) (fun h159 => ?_)
      · refine r_aload_n (i := 0) hK dX7_step_169 rfl rfl ?_
        have hk3 : ¬ 3 < k + 2 := fun z => absurd h159 (nI_ge (a := 3) (b := k + 1 + 1) z (by omega))
        refine r_getI hK flX7_141 to_3 rfl dX7_step_170 ?_
        refine r_top (y := vI c s k) rd_8 ?_
        refine r_bipush (v := 10) hK dX7_step_173 (by decide) ?_
        refine r_imul hK dX7_step_175 ?_
        refine r_aload_n (i := 0) hK dX7_step_176 rfl rfl ?_
        refine r_aload_n (i := 0) hK dX7_step_177 rfl rfl ?_
        refine r_getI hK flX7_32 to_3 rfl dX7_step_178 ?_
        refine r_top (y := nI s) rd_4 ?_
        refine r_iload_n (i := 1) hK dX7_step_181 rfl rfl ?_
        refine r_iadd hK dX7_step_182 ?_
        refine r_top (y := nI (s + (k + 1))) (nI_add _ _) ?_
        refine r_ci1 hK hnn (c_byteAt (TxC_rd hT) rfl (by omega)) moX7_byteAt mlX7_144 to_3 rfl rfl dX7_step_183 (Nat.le_of_ble_eq_true rfl) (Nat.le_of_ble_eq_true rfl) (eqI ?_)
        refine r_iadd hK dX7_step_186 ?_
        refine r_bipush (v := 48) hK dX7_step_187 (by decide) ?_
        refine r_isub hK dX7_step_189 ?_
        refine r_putI hK flX7_141 ft7_8 to_3 rfl dX7_step_190 ?_
        refine r_g rd_p8 ?_
        refine r_iincN (i := 1) hK hm dX7_step_193 rfl (by decide) ?_
        refine r_goto (tgt := 119) hK dX7_step_196 (by decide) ?_
        first
          | (refine r_g (congrArg (rd g (nI s) (nI (k + 1 + 1)) (B1 (lt (c s))) (B1 (fg (c s)))) ((vI_s c s k).trans (if_pos hk3)).symm) ?_; refine r_loc ?_ (ih (k + 1) (by omega) (by rw [← hfd, fdF_succ, if_neg hz])); rfl)
          | (refine r_g (congrArg (rd g (nI s) (nI (k + 1 + 1)) (B1 (lt (c s))) (B1 (fg (c s)))) ((vI_s c s k).trans (if_neg hk3)).symm) ?_; refine r_loc ?_ (ih (k + 1) (by omega) (by rw [← hfd, fdF_succ, if_neg hz])); rfl)
      · refine r_aload_n (i := 0) hK dX7_step_162 rfl rfl ?_
        have hk3 : 3 < k + 2 := Nat.lt_of_not_le (fun z => h159 (nI_le (a := k + 1 + 1) (b := 3) z (by decide)))
        refine r_getI hK flX7_141 to_3 rfl dX7_step_163 ?_
        refine r_top (y := vI c s k) rd_8 ?_
        refine r_goto (tgt := 190) hK dX7_step_166 (by decide) ?_
        refine r_putI hK flX7_141 ft7_8 to_3 rfl dX7_step_190 ?_
        refine r_g rd_p8 ?_
        refine r_iincN (i := 1) hK hm dX7_step_193 rfl (by decide) ?_
        refine r_goto (tgt := 119) hK dX7_step_196 (by decide) ?_
        first
          | (refine r_g (congrArg (rd g (nI s) (nI (k + 1 + 1)) (B1 (lt (c s))) (B1 (fg (c s)))) ((vI_s c s k).trans (if_pos hk3)).symm) ?_; refine r_loc ?_ (ih (k + 1) (by omega) (by rw [← hfd, fdF_succ, if_neg hz])); rfl)
          | (refine r_g (congrArg (rd g (nI s) (nI (k + 1 + 1)) (B1 (lt (c s))) (B1 (fg (c s)))) ((vI_s c s k).trans (if_neg hk3)).symm) ?_; refine r_loc ?_ (ih (k + 1) (by omega) (by rw [← hfd, fdF_succ, if_neg hz])); rfl)
set_option maxHeartbeats 4000000 in
set_option maxRecDepth 100000 in
theorem l_st0 {K : KT} {ad : Nat → Nat} {g : St} {n s : Nat} {c : CT} (hT : TxC g n c) (hs : s ≤ n) (h9 : c s = 999) (hK : Cx K RX7 cX7_step 3 ad) (hm : K.2.2.1.2.maxLocals = 2) (hnn : Nn K 0 0)
    (hR : Rt K 0 0 TT ad none (Qv ad (fun g' => g' = tk g c s))) : Wp K 0 0 TT ad (rd g (nI s) 0 (B1 (lt (c s))) (B1 (fg (c s))) (vI c s 0)) 119 [(0, .ref 3), (1, .int 1)] [] := by
  have h400 := hT.1.1
  refine r_iload_n (i := 1) hK dX7_step_119 rfl rfl ?_
  refine r_sipush (v := 400) hK dX7_step_120 (by decide) ?_
  refine r_icmp_ge (tgt := 199) hK dX7_step_123 (by decide) (fun h => absurd h (by decide)) (fun _ => ?_)
  refine r_aload_n (i := 0) hK dX7_step_126 rfl rfl ?_
  refine r_aload_n (i := 0) hK dX7_step_127 rfl rfl ?_
  refine r_aload_n (i := 0) hK dX7_step_128 rfl rfl ?_
  refine r_getI hK flX7_32 to_3 rfl dX7_step_129 ?_
  refine r_top (y := nI s) rd_4 ?_
  refine r_iload_n (i := 1) hK dX7_step_132 rfl rfl ?_
  refine r_iadd hK dX7_step_133 ?_
  refine r_top (y := nI (s + 1)) (nI_add _ _) ?_
  refine r_ci1 hK hnn (c_byteAt (i := s + 1) (TxC_rd hT) rfl (by omega)) moX7_byteAt mlX7_144 to_3 rfl rfl dX7_step_134 (Nat.le_of_ble_eq_true rfl) (Nat.le_of_ble_eq_true rfl) (eqI ?_)
  refine r_ci1 hK hnn (c_goesOn (a := lt (c s)) (b := fg (c s)) rd_6 rd_7) moX7_goesOn mlX7_166 to_3 rfl rfl dX7_step_137 (Nat.le_of_ble_eq_true rfl) (Nat.le_of_ble_eq_true rfl) (eqI ?_)
  refine r_top (y := 0) (by rw [h9]; rfl) ?_
  refine r_if_eq (tgt := 199) hK dX7_step_140 (by decide) (fun _ => ?_) (fun h => absurd rfl h)
  refine q_vret hK hR dX7_step_199 ?_
  show rd g _ _ _ _ _ = tk g c s
  unfold tk tL
  rw [if_pos h9]
  rfl
set_option maxHeartbeats 4000000 in
set_option maxRecDepth 100000 in
theorem c_stepG {ad : Nat → Nat} {g : St} {n q : Nat} {c : CT} (hT : TxC g n c) (hq : q ≤ n) (hs4 : g.1 3 4 + g.1 3 5 = nI q) : Cv 3 mX7_step [.ref 3] ad g (fun g' => g' = tk g c (sk c q)) := by
  have h400 := hT.1.1
  obtain ⟨s, hs9⟩ : ∃ s, s = sk c q := ⟨_, rfl⟩
  have hs : s ≤ n := by rw [hs9]; exact (sk_le hT.1 hq).2
  refine Cm.mk rfl (Nat.le_of_ble_eq_true rfl) (fun K hK hR hm hnn => ?_)
  rw [← hs9] at hR
  have h51 : Wp K 0 0 TT ad (rd g (nI (sk c q)) (g.1 3 5) (g.1 3 6) (g.1 3 7) (g.1 3 8)) 51 [(0, .ref 3)] [] := by
    rw [← hs9]
    refine r_aload_n (i := 0) hK dX7_step_51 rfl rfl ?_
    refine r_aload_n (i := 0) hK dX7_step_52 rfl rfl ?_
    refine r_aload_n (i := 0) hK dX7_step_53 rfl rfl ?_
    refine r_getI hK flX7_32 to_3 rfl dX7_step_54 ?_
    refine r_top (y := nI s) rd_4 ?_
    refine r_ci1 hK hnn (c_byteAt (TxC_rd hT) rfl (by omega)) moX7_byteAt mlX7_144 to_3 rfl rfl dX7_step_57 (Nat.le_of_ble_eq_true rfl) (Nat.le_of_ble_eq_true rfl) (eqI ?_)
    refine r_si1 hK hnn c_isLetter moX7_isLetter mlX7_159 dX7_step_60 (Nat.le_of_ble_eq_true rfl) (Nat.le_of_ble_eq_true rfl) (eqI ?_)
    refine r_top (y := B1 (lt (c s))) (by rw [ltI_c (tOk_b hT.1 _)]) ?_
    refine r_putZ hK flX7_148 ft7_6 to_3 rfl (B1_01 _) dX7_step_63 ?_
    refine r_g rd_p6 ?_
    refine r_aload_n (i := 0) hK dX7_step_66 rfl rfl ?_
    refine r_aload_n (i := 0) hK dX7_step_67 rfl rfl ?_
    refine r_aload_n (i := 0) hK dX7_step_68 rfl rfl ?_
    refine r_getI hK flX7_32 to_3 rfl dX7_step_69 ?_
    refine r_top (y := nI s) rd_4 ?_
    refine r_ci1 hK hnn (c_byteAt (TxC_rd hT) rfl (by omega)) moX7_byteAt mlX7_144 to_3 rfl rfl dX7_step_72 (Nat.le_of_ble_eq_true rfl) (Nat.le_of_ble_eq_true rfl) (eqI ?_)
    refine r_si1 hK hnn c_isFigure moX7_isFigure mlX7_163 dX7_step_75 (Nat.le_of_ble_eq_true rfl) (Nat.le_of_ble_eq_true rfl) (eqI ?_)
    refine r_top (y := B1 (fg (c s))) (by rw [fgI_c (tOk_b hT.1 _)]) ?_
    refine r_putZ hK flX7_137 ft7_7 to_3 rfl (B1_01 _) dX7_step_78 ?_
    refine r_g rd_p7 ?_
    refine r_aload_n (i := 0) hK dX7_step_81 rfl rfl ?_
    refine r_aload_n (i := 0) hK dX7_step_82 rfl rfl ?_
    refine r_aload_n (i := 0) hK dX7_step_83 rfl rfl ?_
    refine r_getI hK flX7_32 to_3 rfl dX7_step_84 ?_
    refine r_top (y := nI s) rd_4 ?_
    refine r_ci1 hK hnn (c_byteAt (TxC_rd hT) rfl (by omega)) moX7_byteAt mlX7_144 to_3 rfl rfl dX7_step_87 (Nat.le_of_ble_eq_true rfl) (Nat.le_of_ble_eq_true rfl) (eqI ?_)
    refine r_iconst (v := (-1)) hK dX7_step_90 (by decide) ?_
    refine r_icmp_ne (tgt := 98) hK dX7_step_91 (by decide) (fun h91 => ?_) (fun h91 => ?_)
    · refine r_iconst (v := 1) hK dX7_step_98 (by decide) ?_
      have h9 : ¬ c s = 999 := fun z => h91 ((cI_m (tOk_b hT.1 _)).mpr z)
      refine r_putI hK flX7_35 ft7_5 to_3 rfl dX7_step_99 ?_
      refine r_g rd_p5 ?_
      refine r_aload_n (i := 0) hK dX7_step_102 rfl rfl ?_
      refine r_aload_n (i := 0) hK dX7_step_103 rfl rfl ?_
      refine r_aload_n (i := 0) hK dX7_step_104 rfl rfl ?_
      refine r_getI hK flX7_32 to_3 rfl dX7_step_105 ?_
      refine r_top (y := nI s) rd_4 ?_
      refine r_ci1 hK hnn (c_byteAt (TxC_rd hT) rfl (by omega)) moX7_byteAt mlX7_144 to_3 rfl rfl dX7_step_108 (Nat.le_of_ble_eq_true rfl) (Nat.le_of_ble_eq_true rfl) (eqI ?_)
      refine r_bipush (v := 48) hK dX7_step_111 (by decide) ?_
      refine r_isub hK dX7_step_113 ?_
      refine r_putI hK flX7_141 ft7_8 to_3 rfl dX7_step_114 ?_
      refine r_g rd_p8 ?_
      refine r_iconst (v := 1) hK dX7_step_117 (by decide) ?_
      refine r_istore_n (i := 1) hK hm dX7_step_118 rfl (by decide) ?_
      first
        | (refine r_loc ?_ (l_st2 hT hs h9 hK hm hnn hR 399 0 (by omega) rfl); rfl)
        | (refine r_loc ?_ (l_st0 hT hs h9 hK hm hnn hR); rfl)
    · refine r_iconst (v := 0) hK dX7_step_94 (by decide) ?_
      have h9 : c s = 999 := (cI_m (tOk_b hT.1 _)).mp h91
      refine r_goto (tgt := 99) hK dX7_step_95 (by decide) ?_
      refine r_putI hK flX7_35 ft7_5 to_3 rfl dX7_step_99 ?_
      refine r_g rd_p5 ?_
      refine r_aload_n (i := 0) hK dX7_step_102 rfl rfl ?_
      refine r_aload_n (i := 0) hK dX7_step_103 rfl rfl ?_
      refine r_aload_n (i := 0) hK dX7_step_104 rfl rfl ?_
      refine r_getI hK flX7_32 to_3 rfl dX7_step_105 ?_
      refine r_top (y := nI s) rd_4 ?_
      refine r_ci1 hK hnn (c_byteAt (TxC_rd hT) rfl (by omega)) moX7_byteAt mlX7_144 to_3 rfl rfl dX7_step_108 (Nat.le_of_ble_eq_true rfl) (Nat.le_of_ble_eq_true rfl) (eqI ?_)
      refine r_bipush (v := 48) hK dX7_step_111 (by decide) ?_
      refine r_isub hK dX7_step_113 ?_
      refine r_putI hK flX7_141 ft7_8 to_3 rfl dX7_step_114 ?_
      refine r_g rd_p8 ?_
      refine r_iconst (v := 1) hK dX7_step_117 (by decide) ?_
      refine r_istore_n (i := 1) hK hm dX7_step_118 rfl (by decide) ?_
      first
        | (refine r_loc ?_ (l_st2 hT hs h9 hK hm hnn hR 399 0 (by omega) rfl); rfl)
        | (refine r_loc ?_ (l_st0 hT hs h9 hK hm hnn hR); rfl)
  refine r_g rd_self ?_
  refine r_aload_n (i := 0) hK dX7_step_0 rfl rfl ?_
  refine r_dup hK dX7_step_1 rfl ?_
  refine r_getI hK flX7_32 to_3 rfl dX7_step_2 ?_
  refine r_top (y := g.1 3 4) rd_4 ?_
  refine r_aload_n (i := 0) hK dX7_step_5 rfl rfl ?_
  refine r_getI hK flX7_35 to_3 rfl dX7_step_6 ?_
  refine r_top (y := g.1 3 5) rd_5 ?_
  refine r_iadd hK dX7_step_9 ?_
  refine r_top (y := nI q) hs4 ?_
  refine r_putI hK flX7_32 ft7_4 to_3 rfl dX7_step_10 ?_
  refine r_g rd_p4 ?_
  refine r_iconst (v := 0) hK dX7_step_13 (by decide) ?_
  refine r_istore_n (i := 1) hK hm dX7_step_14 rfl (by decide) ?_
  refine r_loc ?_ (l_st1 hT hq hK hm hnn h51 400 0 (by omega) rfl)
  rfl
