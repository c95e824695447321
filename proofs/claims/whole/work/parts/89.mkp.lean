/-! THE MODEL: images, the text -/
/-- an image kept, as far as the first j -/
def KL6 (g : St) (i j : Nat) (g' : St) : Prop := (∀ q, q ≠ 125 → g'.1 q = g.1 q) ∧ (∀ q, q < j → g'.1 125 (20 * i + q) = g.1 99 q ∧ g'.1 125 (20 * i + 6 + q) = g.1 98 q) ∧ (∀ k, (k < 20 * i ∨ 20 * i + 12 ≤ k) → g'.1 125 k = g.1 125 k) ∧ g'.2 = g.2
theorem KL6_0 {g : St} {i : Nat} : KL6 g i 0 g := ⟨fun _ _ => rfl, fun q h => absurd h (Nat.not_lt_zero q), fun _ _ => rfl, rfl⟩
theorem KL6_s {g g' : St} {i j : Nat} (h : KL6 g i j g') (hj : j < 6) : KL6 g i (j + 1) (upI (upI g' 125 (20 * i + j) (g.1 99 j)) 125 (20 * i + 6 + j) (g.1 98 j)) := by
  obtain ⟨h1, h2, h3, h4⟩ := h
  refine ⟨fun q hq => (upI_n hq).trans ((upI_n hq).trans (h1 q hq)), fun q hq => ?_, fun k hk => ?_, h4⟩
  · rw [upI_s, upI_s]
    by_cases e : q = j
    · subst e
      exact ⟨(upd_e (by omega)).trans upd_s, upd_s⟩
    · obtain ⟨a, b⟩ := h2 q (by omega)
      exact ⟨(upd_e (by omega)).trans ((upd_e (by omega)).trans a), (upd_e (by omega)).trans ((upd_e (by omega)).trans b)⟩
  · rw [upI_s, upI_s]
    exact (upd_e (by omega)).trans ((upd_e (by omega)).trans (h3 k hk))
def KPq (g : St) (i : Nat) (g' : St) : Prop := (∀ j, j ≠ 125 → j ≠ 126 → g'.1 j = g.1 j) ∧ (∀ j, j < 6 → g'.1 125 (20 * i + j) = g.1 99 j ∧ g'.1 125 (20 * i + 6 + j) = g.1 98 j) ∧ g'.1 125 (20 * i + 12) = g.1 91 11 ∧ g'.1 125 (20 * i + 13) = g.1 91 12 ∧ g'.1 126 i = 1 ∧ (∀ k, (k < 20 * i ∨ 20 * i + 14 ≤ k) → g'.1 125 k = g.1 125 k) ∧ (∀ k, k ≠ i → g'.1 126 k = g.1 126 k) ∧ g'.2 = g.2
def GL6 (g : St) (i j : Nat) (g' : St) : Prop := (∀ q, q ≠ 98 → q ≠ 99 → g'.1 q = g.1 q) ∧ (∀ q, q < j → g'.1 99 q = g.1 125 (20 * i + q) ∧ g'.1 98 q = g.1 125 (20 * i + 6 + q)) ∧ g'.2 = g.2
theorem GL6_0 {g : St} {i : Nat} : GL6 g i 0 g := ⟨fun _ _ _ => rfl, fun q h => absurd h (Nat.not_lt_zero q), rfl⟩
theorem GL6_s {g g' : St} {i j : Nat} (h : GL6 g i j g') : GL6 g i (j + 1) (upI (upI g' 99 j (g.1 125 (20 * i + j))) 98 j (g.1 125 (20 * i + 6 + j))) := by
  obtain ⟨h1, h2, h4⟩ := h
  refine ⟨fun q hq hq2 => (upI_n hq).trans ((upI_n hq2).trans (h1 q hq hq2)), fun q hq => ?_, h4⟩
  rw [upI_s, upI_n (show (98 : Nat) ≠ 99 by decide), upI_n (show (99 : Nat) ≠ 98 by decide), upI_s]
  by_cases e : q = j
  · subst e
    exact ⟨upd_s, upd_s⟩
  · obtain ⟨a, b⟩ := h2 q (by omega)
    exact ⟨(upd_e e).trans a, (upd_e e).trans b⟩
def GBq (g : St) (i : Nat) (g' : St) : Prop := (∀ j, j ≠ 91 → j ≠ 98 → j ≠ 99 → g'.1 j = g.1 j) ∧ (∀ j, j < 6 → g'.1 99 j = g.1 125 (20 * i + j) ∧ g'.1 98 j = g.1 125 (20 * i + 6 + j)) ∧ g'.1 91 11 = g.1 125 (20 * i + 12) ∧ g'.1 91 12 = g.1 125 (20 * i + 13) ∧ (∀ k, k ≠ 11 → k ≠ 12 → g'.1 91 k = g.1 91 k) ∧ g'.2 = g.2
theorem mul_20 {i : Nat} : (20 : Int32) * nI i = nI (20 * i) := by
  rw [show (20 : Int32) = nI 20 from rfl]; exact pk_mul 20 i

set_option maxHeartbeats 4000000 in
set_option maxRecDepth 100000 in
theorem lm_kp {K : KT} {ad : Nat → Nat} {g : St} {i : Nat} (hi : i < 2) (hK : Cx K RX10 cX10_keep 2 ad) (hm : K.2.2.1.2.maxLocals = 4) (hnn : Nn K 0 0)
    {Qx : Int32 → St → Prop} (hR : Rt K 0 0 TT ad (some .int) (Qi ad Qx)) (hq : ∀ v g', v = 1 ∧ KPq g i g' → Qx v g') :
    ∀ m j, j + m = 6 → ∀ g1 : St, KL6 g i j g1 → Wp K 0 0 TT ad g1 20 [(0, .ref 91), (1, .int (nI i)), (2, .int (nI (20 * i))), (3, .int (nI j))] [] := by
  intro m
  induction m with
  | zero =>
    intro j hjm g1 hf
    have e : j = 6 := by omega
    subst e
    refine r_iload_n (i := 3) hK dX10_keep_20 rfl rfl ?_
    refine r_bipush (v := 6) hK dX10_keep_21 (by decide) ?_
    refine r_icmp_ge (tgt := 63) hK dX10_keep_23 (by decide) (fun _ => ?_) (fun h => absurd (by decide) h)
    refine r_aload_n (i := 0) hK dX10_keep_63 rfl rfl ?_
    refine r_getA hK flX10_114 to_91 rfl dX10_keep_64 ?_
    refine r_iload_n (i := 2) hK dX10_keep_67 rfl rfl ?_
    refine r_bipush (v := 12) hK dX10_keep_68 (by decide) ?_
    refine r_iadd hK dX10_keep_70 ?_
    refine r_top (y := nI (20 * i + 12)) (nI_add _ _) ?_
    refine r_aload_n (i := 0) hK dX10_keep_71 rfl rfl ?_
    refine r_getI hK flX10_235 to_91 rfl dX10_keep_72 ?_
    refine r_top (y := g.1 91 11) (congrFun (hf.1 91 (by decide)) _) ?_
    refine r_iasN hK to_125 rfl (by omega) (by decide) dX10_keep_75 ?_
    refine r_aload_n (i := 0) hK dX10_keep_76 rfl rfl ?_
    refine r_getA hK flX10_114 to_91 rfl dX10_keep_77 ?_
    refine r_iload_n (i := 2) hK dX10_keep_80 rfl rfl ?_
    refine r_bipush (v := 13) hK dX10_keep_81 (by decide) ?_
    refine r_iadd hK dX10_keep_83 ?_
    refine r_top (y := nI (20 * i + 13)) (nI_add _ _) ?_
    refine r_aload_n (i := 0) hK dX10_keep_84 rfl rfl ?_
    refine r_getI hK flX10_355 to_91 rfl dX10_keep_85 ?_
    refine r_top (y := g.1 91 12) ((congrFun ((upI_n (by decide)).trans (hf.1 91 (by decide))) _)) ?_
    refine r_iasN hK to_125 rfl (by omega) (by decide) dX10_keep_88 ?_
    refine r_aload_n (i := 0) hK dX10_keep_89 rfl rfl ?_
    refine r_getA hK flX10_117 to_91 rfl dX10_keep_90 ?_
    refine r_iload_n (i := 1) hK dX10_keep_93 rfl rfl ?_
    refine r_iconst (v := 1) hK dX10_keep_94 (by decide) ?_
    refine r_zasN hK to_126 rfl (by omega) (by decide) rfl dX10_keep_95 ?_
    refine r_iconst (v := 1) hK dX10_keep_96 (by decide) ?_
    refine q_iret hK hR dX10_keep_97 ?_
    obtain ⟨k1, k2, k3, k4⟩ := hf
    refine hq _ _ ⟨rfl, fun q h1 h2 => (upI_n h2).trans ((upI_n h1).trans ((upI_n h1).trans (k1 q h1))), fun q h1 => ?_, ?_, ?_, ?_, fun k hk => ?_, fun k hk => ?_, k4⟩
    · rw [upI_n (by decide), upI_s, upI_s]
      obtain ⟨a, b⟩ := k2 q h1
      exact ⟨(upd_e (by omega)).trans ((upd_e (by omega)).trans a), (upd_e (by omega)).trans ((upd_e (by omega)).trans b)⟩
    · rw [upI_n (by decide), upI_s, upI_s]
      exact (upd_e (by omega)).trans upd_s
    · rw [upI_n (by decide), upI_s, upI_s]
      exact upd_s
    · rw [upI_s]
      exact upd_s
    · rw [upI_n (by decide), upI_s, upI_s]
      exact (upd_e (by omega)).trans ((upd_e (by omega)).trans (k3 k (by omega)))
    · rw [upI_s]
      exact (upd_e hk).trans (congrFun ((upI_n (by decide)).trans ((upI_n (by decide)).trans (k1 126 (by decide)))) _)
  | succ m ih =>
    intro j hjm g1 hf
    have hj : j < 6 := by omega
    refine r_iload_n (i := 3) hK dX10_keep_20 rfl rfl ?_
    refine r_bipush (v := 6) hK dX10_keep_21 (by decide) ?_
    refine r_icmp_ge (tgt := 63) hK dX10_keep_23 (by decide) (fun h => absurd h (nI_ge hj (by decide))) (fun _ => ?_)
    refine r_aload_n (i := 0) hK dX10_keep_26 rfl rfl ?_
    refine r_getA hK flX10_114 to_91 rfl dX10_keep_27 ?_
    refine r_iload_n (i := 2) hK dX10_keep_30 rfl rfl ?_
    refine r_iload_n (i := 3) hK dX10_keep_31 rfl rfl ?_
    refine r_iadd hK dX10_keep_32 ?_
    refine r_top (y := nI (20 * i + j)) (nI_add _ _) ?_
    refine r_aload_n (i := 0) hK dX10_keep_33 rfl rfl ?_
    refine r_getA hK flX10_31 to_91 rfl dX10_keep_34 ?_
    refine r_iload_n (i := 3) hK dX10_keep_37 rfl rfl ?_
    refine r_ialN hK to_99 rfl (by omega) (by decide) (congrFun (hf.1 99 (by decide)) _) dX10_keep_38 ?_
    refine r_iasN hK to_125 rfl (by omega) (by decide) dX10_keep_39 ?_
    refine r_aload_n (i := 0) hK dX10_keep_40 rfl rfl ?_
    refine r_getA hK flX10_114 to_91 rfl dX10_keep_41 ?_
    refine r_iload_n (i := 2) hK dX10_keep_44 rfl rfl ?_
    refine r_bipush (v := 6) hK dX10_keep_45 (by decide) ?_
    refine r_iadd hK dX10_keep_47 ?_
    refine r_top (y := nI (20 * i + 6)) (nI_add _ _) ?_
    refine r_iload_n (i := 3) hK dX10_keep_48 rfl rfl ?_
    refine r_iadd hK dX10_keep_49 ?_
    refine r_top (y := nI (20 * i + 6 + j)) (nI_add _ _) ?_
    refine r_aload_n (i := 0) hK dX10_keep_50 rfl rfl ?_
    refine r_getA hK flX10_28 to_91 rfl dX10_keep_51 ?_
    refine r_iload_n (i := 3) hK dX10_keep_54 rfl rfl ?_
    refine r_ialN hK to_98 rfl (by omega) (by decide) ((congrFun (upI_n (by decide)) _).trans (congrFun (hf.1 98 (by decide)) _)) dX10_keep_55 ?_
    refine r_iasN hK to_125 rfl (by omega) (by decide) dX10_keep_56 ?_
    refine r_iincN (i := 3) hK hm dX10_keep_57 rfl (by decide) ?_
    refine r_goto (tgt := 20) hK dX10_keep_60 (by decide) ?_
    refine r_loc ?_ (ih (j + 1) (by omega) _ (KL6_s hf hj))
    rfl
set_option maxHeartbeats 4000000 in
set_option maxRecDepth 100000 in
theorem c_mKeep {ad : Nat → Nat} {g : St} {x : Int32} : Ci 2 mX10_keep [.ref 91, .int x] ad g (fun v g' => v = (if isB x 2 = true then 1 else UNK) ∧ (if isB x 2 = true then KPq g (nC x) g' else g' = g)) := by
  refine Cm.mk rfl (Nat.le_of_ble_eq_true rfl) (fun K hK hR hm hnn => ?_)
  refine r_iload_n (i := 1) hK dX10_keep_0 rfl rfl ?_
  refine r_i2l hK dX10_keep_1 ?_
  refine r_lconst (v := 0) hK dX10_keep_2 (by decide) ?_
  refine r_lconst (v := 1) hK dX10_keep_3 (by decide) ?_
  refine r_si3 hK hnn c_mIn moX10_in mlX10_124 dX10_keep_4 (Nat.le_of_ble_eq_true rfl) (Nat.le_of_ble_eq_true rfl) (eqI ?_)
  refine r_top (y := B1 (isB x 2)) (congrArg B1 ((inL_b (lI := 0) (hI := nI 2 - 1) (by decide) (by decide)).trans (bI_B (by decide)))) ?_
  refine r_if_ne (tgt := 13) hK dX10_keep_7 (by decide) (fun h7 => ?_) (fun h7 => ?_)
  · refine r_bipush (v := 20) hK dX10_keep_13 (by decide) ?_
    have hib := B1_n.mp h7
    obtain ⟨hi1, hi2⟩ := isB_cl (by decide) hib
    refine r_iload_n (i := 1) hK dX10_keep_15 rfl rfl ?_
    refine r_imul hK dX10_keep_16 ?_
    refine r_top (y := nI (20 * nC x)) ((congrArg (fun z => (20 : Int32) * z) hi2).trans mul_20) ?_
    refine r_istore_n (i := 2) hK hm dX10_keep_17 rfl (by decide) ?_
    refine r_iconst (v := 0) hK dX10_keep_18 (by decide) ?_
    refine r_istore_n (i := 3) hK hm dX10_keep_19 rfl (by decide) ?_
    refine r_loc ?_ (lm_kp hi1 hK hm hnn hR (fun v g' h => by rw [if_pos hib, if_pos hib]; exact h) 6 0 (by omega) g KL6_0)
    simp only [List.map_cons, List.map_nil]
    rw [← hi2]
    rfl
  · refine r_ldc hK ckX10_242 dX10_keep_10 ?_
    refine q_iret hK hR dX10_keep_12 ?_
    have hnb : ¬ isB x 2 = true := by rw [B1_0.mp h7]; decide
    rw [if_neg hnb, if_neg hnb]
    exact ⟨rfl, rfl⟩
set_option maxHeartbeats 4000000 in
set_option maxRecDepth 100000 in
theorem lm_gb {K : KT} {ad : Nat → Nat} {g : St} {i : Nat} (hi : i < 2) (hK : Cx K RX10 cX10_goBack 2 ad) (hm : K.2.2.1.2.maxLocals = 4) (hnn : Nn K 0 0)
    {Qx : Int32 → St → Prop} (hR : Rt K 0 0 TT ad (some .int) (Qi ad Qx)) (hq : ∀ v g', v = 1 ∧ GBq g i g' → Qx v g') :
    ∀ m j, j + m = 6 → ∀ g1 : St, GL6 g i j g1 → Wp K 0 0 TT ad g1 33 [(0, .ref 91), (1, .int (nI i)), (2, .int (nI (20 * i))), (3, .int (nI j))] [] := by
  intro m
  induction m with
  | zero =>
    intro j hjm g1 hf
    have e : j = 6 := by omega
    subst e
    refine r_iload_n (i := 3) hK dX10_goBack_33 rfl rfl ?_
    refine r_bipush (v := 6) hK dX10_goBack_34 (by decide) ?_
    refine r_icmp_ge (tgt := 76) hK dX10_goBack_36 (by decide) (fun _ => ?_) (fun h => absurd (by decide) h)
    refine r_aload_n (i := 0) hK dX10_goBack_76 rfl rfl ?_
    refine r_aload_n (i := 0) hK dX10_goBack_77 rfl rfl ?_
    refine r_getA hK flX10_114 to_91 rfl dX10_goBack_78 ?_
    refine r_iload_n (i := 2) hK dX10_goBack_81 rfl rfl ?_
    refine r_bipush (v := 12) hK dX10_goBack_82 (by decide) ?_
    refine r_iadd hK dX10_goBack_84 ?_
    refine r_top (y := nI (20 * i + 12)) (nI_add _ _) ?_
    refine r_ialN hK to_125 rfl (by omega) (by decide) (congrFun (hf.1 125 (by decide) (by decide)) _) dX10_goBack_85 ?_
    refine r_putI hK flX10_235 ft10_11 to_91 rfl dX10_goBack_86 ?_
    refine r_aload_n (i := 0) hK dX10_goBack_89 rfl rfl ?_
    refine r_aload_n (i := 0) hK dX10_goBack_90 rfl rfl ?_
    refine r_getA hK flX10_114 to_91 rfl dX10_goBack_91 ?_
    refine r_iload_n (i := 2) hK dX10_goBack_94 rfl rfl ?_
    refine r_bipush (v := 13) hK dX10_goBack_95 (by decide) ?_
    refine r_iadd hK dX10_goBack_97 ?_
    refine r_top (y := nI (20 * i + 13)) (nI_add _ _) ?_
    refine r_ialN hK to_125 rfl (by omega) (by decide) ((congrFun (upI_n (by decide)) _).trans (congrFun (hf.1 125 (by decide) (by decide)) _)) dX10_goBack_98 ?_
    refine r_putI hK flX10_355 ft10_12 to_91 rfl dX10_goBack_99 ?_
    refine r_iconst (v := 1) hK dX10_goBack_102 (by decide) ?_
    refine q_iret hK hR dX10_goBack_103 ?_
    obtain ⟨k1, k2, k4⟩ := hf
    refine hq _ _ ⟨rfl, fun q h1 h2 h3 => (upI_n h1).trans ((upI_n h1).trans (k1 q h2 h3)), fun q h1 => ?_, ?_, ?_, fun k hk hk2 => ?_, k4⟩
    · rw [upI_n (show (99 : Nat) ≠ 91 by decide), upI_n (show (98 : Nat) ≠ 91 by decide), upI_n (show (99 : Nat) ≠ 91 by decide), upI_n (show (98 : Nat) ≠ 91 by decide)]; exact k2 q h1
    · exact (upd_n2 (show (11 : Nat) ≠ 12 by decide)).trans (by rw [upI_s, upd_s])
    · rw [upI_s]; exact upd_s
    · exact (upd_n2 hk2).trans ((upd_n2 hk).trans (congrFun (k1 91 (by decide) (by decide)) _))
  | succ m ih =>
    intro j hjm g1 hf
    have hj : j < 6 := by omega
    refine r_iload_n (i := 3) hK dX10_goBack_33 rfl rfl ?_
    refine r_bipush (v := 6) hK dX10_goBack_34 (by decide) ?_
    refine r_icmp_ge (tgt := 76) hK dX10_goBack_36 (by decide) (fun h => absurd h (nI_ge hj (by decide))) (fun _ => ?_)
    refine r_aload_n (i := 0) hK dX10_goBack_39 rfl rfl ?_
    refine r_getA hK flX10_31 to_91 rfl dX10_goBack_40 ?_
    refine r_iload_n (i := 3) hK dX10_goBack_43 rfl rfl ?_
    refine r_aload_n (i := 0) hK dX10_goBack_44 rfl rfl ?_
    refine r_getA hK flX10_114 to_91 rfl dX10_goBack_45 ?_
    refine r_iload_n (i := 2) hK dX10_goBack_48 rfl rfl ?_
    refine r_iload_n (i := 3) hK dX10_goBack_49 rfl rfl ?_
    refine r_iadd hK dX10_goBack_50 ?_
    refine r_top (y := nI (20 * i + j)) (nI_add _ _) ?_
    refine r_ialN hK to_125 rfl (by omega) (by decide) (congrFun (hf.1 125 (by decide) (by decide)) _) dX10_goBack_51 ?_
    refine r_iasN hK to_99 rfl (by omega) (by decide) dX10_goBack_52 ?_
    refine r_aload_n (i := 0) hK dX10_goBack_53 rfl rfl ?_
    refine r_getA hK flX10_28 to_91 rfl dX10_goBack_54 ?_
    refine r_iload_n (i := 3) hK dX10_goBack_57 rfl rfl ?_
    refine r_aload_n (i := 0) hK dX10_goBack_58 rfl rfl ?_
    refine r_getA hK flX10_114 to_91 rfl dX10_goBack_59 ?_
    refine r_iload_n (i := 2) hK dX10_goBack_62 rfl rfl ?_
    refine r_bipush (v := 6) hK dX10_goBack_63 (by decide) ?_
    refine r_iadd hK dX10_goBack_65 ?_
    refine r_top (y := nI (20 * i + 6)) (nI_add _ _) ?_
    refine r_iload_n (i := 3) hK dX10_goBack_66 rfl rfl ?_
    refine r_iadd hK dX10_goBack_67 ?_
    refine r_top (y := nI (20 * i + 6 + j)) (nI_add _ _) ?_
    refine r_ialN hK to_125 rfl (by omega) (by decide) ((congrFun (upI_n (by decide)) _).trans (congrFun (hf.1 125 (by decide) (by decide)) _)) dX10_goBack_68 ?_
    refine r_iasN hK to_98 rfl (by omega) (by decide) dX10_goBack_69 ?_
    refine r_iincN (i := 3) hK hm dX10_goBack_70 rfl (by decide) ?_
    refine r_goto (tgt := 33) hK dX10_goBack_73 (by decide) ?_
    refine r_loc ?_ (ih (j + 1) (by omega) _ (GL6_s hf))
    rfl
set_option maxHeartbeats 4000000 in
set_option maxRecDepth 100000 in
theorem c_mGoBack {ad : Nat → Nat} {g : St} {x : Int32} : Ci 2 mX10_goBack [.ref 91, .int x] ad g (fun v g' => v = (if isB x 2 = true then (if g.1 126 (nC x) = 0 then NTT else 1) else UNK) ∧ (if isB x 2 = true ∧ ¬ g.1 126 (nC x) = 0 then GBq g (nC x) g' else g' = g)) := by
  refine Cm.mk rfl (Nat.le_of_ble_eq_true rfl) (fun K hK hR hm hnn => ?_)
  refine r_iload_n (i := 1) hK dX10_goBack_0 rfl rfl ?_
  refine r_i2l hK dX10_goBack_1 ?_
  refine r_lconst (v := 0) hK dX10_goBack_2 (by decide) ?_
  refine r_lconst (v := 1) hK dX10_goBack_3 (by decide) ?_
  refine r_si3 hK hnn c_mIn moX10_in mlX10_124 dX10_goBack_4 (Nat.le_of_ble_eq_true rfl) (Nat.le_of_ble_eq_true rfl) (eqI ?_)
  refine r_top (y := B1 (isB x 2)) (congrArg B1 ((inL_b (lI := 0) (hI := nI 2 - 1) (by decide) (by decide)).trans (bI_B (by decide)))) ?_
  refine r_if_ne (tgt := 13) hK dX10_goBack_7 (by decide) (fun h7 => ?_) (fun h7 => ?_)
  · refine r_aload_n (i := 0) hK dX10_goBack_13 rfl rfl ?_
    refine r_getA hK flX10_117 to_91 rfl dX10_goBack_14 ?_
    have hib := B1_n.mp h7
    obtain ⟨hi1, hi2⟩ := isB_cl (by decide) hib
    refine r_iload_n (i := 1) hK dX10_goBack_17 rfl rfl ?_
    refine r_zalN hK to_126 hi2 (by omega) (by decide) rfl dX10_goBack_18 ?_
    refine r_if_ne (tgt := 26) hK dX10_goBack_19 (by decide) (fun h19 => ?_) (fun h19 => ?_)
    · refine r_bipush (v := 20) hK dX10_goBack_26 (by decide) ?_
      refine r_iload_n (i := 1) hK dX10_goBack_28 rfl rfl ?_
      refine r_imul hK dX10_goBack_29 ?_
      refine r_top (y := nI (20 * nC x)) ((congrArg (fun z => (20 : Int32) * z) hi2).trans mul_20) ?_
      refine r_istore_n (i := 2) hK hm dX10_goBack_30 rfl (by decide) ?_
      refine r_iconst (v := 0) hK dX10_goBack_31 (by decide) ?_
      refine r_istore_n (i := 3) hK hm dX10_goBack_32 rfl (by decide) ?_
      refine r_loc ?_ (lm_gb hi1 hK hm hnn hR (fun v g' h => by rw [if_pos hib, if_neg h19, if_pos ⟨hib, h19⟩]; exact h) 6 0 (by omega) g GL6_0)
      simp only [List.map_cons, List.map_nil]
      rw [← hi2]
      rfl
    · refine r_ldcw hK ckX10_370 dX10_goBack_22 ?_
      refine q_iret hK hR dX10_goBack_25 ?_
      have h9 : g.1 126 (nC x) = 0 := by first | exact h19 | exact Classical.not_not.mp h19
      rw [if_pos hib, if_pos h9, if_neg (fun z => z.2 h9)]
      exact ⟨rfl, rfl⟩
  · refine r_ldc hK ckX10_242 dX10_goBack_10 ?_
    refine q_iret hK hR dX10_goBack_12 ?_
    have hnb : ¬ isB x 2 = true := by rw [B1_0.mp h7]; decide
    rw [if_neg hnb, if_neg (fun z => hnb z.1)]
    exact ⟨rfl, rfl⟩
