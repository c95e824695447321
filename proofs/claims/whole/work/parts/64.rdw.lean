/-! THE READER, whole -/
def clS (c : CT) (A : DR) (F : FP) (s : Nat) : CR := if isW c s 0 = true then clP c A F s else if 0 < A.1 ∧ isW c s 1 = true then clW c A F s else if 0 < A.1 ∧ isW c s 2 = true then clQ c A F s else (A, bl F 1 s, s)
def rdS (c : CT) : Nat → DR → FP → Nat → CR
  | 0, A, F, s => (A, F, s)
  | m + 1, A, F, s => if F.1 = 0 ∧ tL c s ≠ 0 then rdS c m (clS c A F s).1 (clS c A F s).2.1 (clS c A F s).2.2 else (A, F, s)
theorem rdS_s {c : CT} {m s : Nat} {A : DR} {F : FP} : rdS c (m + 1) A F s = if F.1 = 0 ∧ tL c s ≠ 0 then rdS c m (clS c A F s).1 (clS c A F s).2.1 (clS c A F s).2.2 else (A, F, s) := rfl
theorem rdS_n {c : CT} {m s : Nat} {A : DR} {F : FP} (h : ¬ F.1 = 0) : rdS c m A F s = (A, F, s) := by
  cases m with
  | zero => rfl
  | succ m => exact if_neg (fun z => h z.1)
theorem clP_ok {c : CT} {A : DR} {F : FP} {s : Nat} (h : F.1 ≤ 4) : (clP c A F s).2.1.1 ≤ 4 := by
  unfold clP
  split
  · exact bl_ok h (by decide)
  · exact sgF_ok (seF_ok h)
theorem clW_ok {c : CT} {A : DR} {F : FP} {s : Nat} (h : F.1 ≤ 4) : (clW c A F s).2.1.1 ≤ 4 := by
  unfold clW
  split
  · exact bl_ok h (by decide)
  · refine sgF_ok (seF_ok ?_)
    split
    · exact bl_ok (seF_ok (seF_ok h)) (by decide)
    · exact seF_ok (seF_ok h)
theorem clQ_ok {n : Nat} {c : CT} {A : DR} {F : FP} {s : Nat} (hT : tOk n c) (hs : s ≤ n) (hw : A.2.1.1 ≤ 14) (h : F.1 ≤ 4) : (clQ c A F s).2.1.1 ≤ 4 := by
  unfold clQ
  split
  · exact bl_ok h (by decide)
  · refine sgF_ok ?_
    have h4 := habG_ok (c := c) (s := nx c (nx c (nx c (nx c s)))) (seF_ok (c := c) (s := nx c (nx c (nx c s))) (lo := nI 0) (hi := nI 99) (seF_ok (c := c) (s := nx c (nx c s)) (lo := nI 0) (hi := nI (A.1 - 1)) (seF_ok (c := c) (s := nx c s) (lo := nI 0) (hi := nI (A.1 - 1)) h)))
    split
    · exact (knS_b hT hw 400 0 _ _ (by decide) h4 (nx_le hT (nx_le hT (nx_le hT (nx_le hT (nx_le hT hs).2).2).2).2).2).2.1
    · exact h4

def RQ (g0 : St) (c : CT) (R : CR) (v : Int32) (g' : St) : Prop := v = nI R.2.1.1 ∧ ∃ g1 s', g' = rs g1 c R.2.1 s' ∧ Kp g0 g1 ∧ (R.2.1.1 = 0 → DrC g1 R.1)
set_option maxHeartbeats 4000000 in
set_option maxRecDepth 100000 in
theorem l_rd {K : KT} {ad : Nat → Nat} {g0 : St} {n : Nat} {c : CT} {R : CR} (hT0 : TxC g0 n c) (hK : Cx K RX7 cX7_read 9 ad) (hm : K.2.2.1.2.maxLocals = 3) (hnn : Nn K 0 0)
    (hR : Rt K 0 0 TT ad (some .int) (Qi ad (fun v g' => RQ g0 c R v g'))) :
    ∀ m i, i + m = 400 → ∀ (g : St) (A : DR) (F : FP) (s : Nat), s ≤ n → F.1 ≤ 4 → Kp g0 g → (F.1 = 0 → DrC g A ∧ rdS c m A F s = R) → (¬ F.1 = 0 → R.2.1 = F) → Wp K 0 0 TT ad (rs g c F s) 38 [(0, .ref 3), (2, .int (nI i))] [] := by
  intro m
  induction m with
  | zero =>
    intro i hi g A F s hs hF hkp hA9 hRF
    have e : i = 400 := by omega
    subst e
    refine r_iload_n (i := 2) hK dX7_read_38 rfl rfl ?_
    refine r_sipush (v := 400) hK dX7_read_39 (by decide) ?_
    refine r_icmp_ge (tgt := 138) hK dX7_read_42 (by decide) (fun _ => ?_) (fun h => absurd (by decide) h)
    refine r_aload_n (i := 0) hK dX7_read_138 rfl rfl ?_
    refine r_getI hK flX7_29 to_3 rfl dX7_read_139 ?_
    refine r_top (y := nI F.1) rs_2 ?_
    refine q_iret hK hR dX7_read_142 ?_
    by_cases hz : F.1 = 0
    · obtain ⟨hA, hw⟩ := hA9 hz
      subst hw
      exact ⟨rfl, g, s, rfl, hkp, fun _ => hA⟩
    · exact ⟨by rw [hRF hz], g, s, by rw [hRF hz], hkp, fun z => absurd (by rw [← hRF hz]; exact z) hz⟩
  | succ m ih =>
    intro i hi g A F s hs hF hkp hA9 hRF
    have hT := TxC_kp hT0 hkp
    have h38 : ∀ (R1 : CR) (g' : St), QC g n c R1 g' → clS c A F s = R1 → R1.2.1.1 ≤ 4 → F.1 = 0 → tL c s ≠ 0 → Wp K 0 0 TT ad g' 38 [(0, .ref 3), (2, .int (nI (i + 1)))] [] := by
      intro R1 g' h1 hc hk4 hz ht
      obtain ⟨g1, s', hs', hk, e, hq⟩ := h1
      rw [e]
      have hw : rdS c m R1.1 R1.2.1 R1.2.2 = R := by rw [← (hA9 hz).2, rdS_s, if_pos ⟨hz, ht⟩, hc]
      refine ih (i + 1) (by omega) g1 R1.1 R1.2.1 s' hs' hk4 (hkp.tr hk) (fun hz1 => ⟨(hq hz1).2, ?_⟩) (fun hn => ?_)
      · rw [(hq hz1).1]; exact hw
      · rw [← hw, rdS_n hn]
    refine r_iload_n (i := 2) hK dX7_read_38 rfl rfl ?_
    refine r_sipush (v := 400) hK dX7_read_39 (by decide) ?_
    refine r_icmp_ge (tgt := 138) hK dX7_read_42 (by decide) (fun h => absurd h (nI_ge (show i < 400 by omega) (by decide))) (fun _ => ?_)
    refine r_aload_n (i := 0) hK dX7_read_45 rfl rfl ?_
    refine r_getI hK flX7_29 to_3 rfl dX7_read_46 ?_
    refine r_top (y := nI F.1) rs_2 ?_
    refine r_if_ne (tgt := 138) hK dX7_read_49 (by decide) (fun h49 => ?_) (fun h49 => ?_)
    · refine r_aload_n (i := 0) hK dX7_read_138 rfl rfl ?_
      refine r_getI hK flX7_29 to_3 rfl dX7_read_139 ?_
      refine r_top (y := nI F.1) rs_2 ?_
      refine q_iret hK hR dX7_read_142 ?_
      first
        | (have hz : ¬ F.1 = 0 := (fun z => h49 (by rw [z]; rfl)); exact ⟨by rw [hRF hz], g, s, by rw [hRF hz], hkp, fun z => absurd (by rw [← hRF hz]; exact z) hz⟩)
        | (rw [rdS_s, if_neg (fun z => absurd h56 (nI_nle (Nat.pos_of_ne_zero z.2) (by omega)))] at hw; subst hw; exact ⟨rfl, g, s, rfl, hkp, fun _ => hA⟩)
    · refine r_aload_n (i := 0) hK dX7_read_52 rfl rfl ?_
      have hF0 : F.1 = 0 := nI_inj (by omega) (by decide) h49
      obtain ⟨hA, hw⟩ := hA9 hF0
      obtain ⟨hwo, hpo, x8, hW, x10, hP⟩ := id hA
      have hnp := hwo.2.1
      have hw14 := hwo.1
      have htl := tL_lt hT.1 hs
      refine r_getI hK flX7_35 to_3 rfl dX7_read_53 ?_
      refine r_top (y := nI (tL c s)) rs_5 ?_
      refine r_if_le (tgt := 138) hK dX7_read_56 (by decide) (fun h56 => ?_) (fun h56 => ?_)
      · refine r_aload_n (i := 0) hK dX7_read_138 rfl rfl ?_
        refine r_getI hK flX7_29 to_3 rfl dX7_read_139 ?_
        refine r_top (y := nI F.1) rs_2 ?_
        refine q_iret hK hR dX7_read_142 ?_
        first
          | (have hz : ¬ F.1 = 0 := (fun z => h49 (by rw [z]; rfl)); exact ⟨by rw [hRF hz], g, s, by rw [hRF hz], hkp, fun z => absurd (by rw [← hRF hz]; exact z) hz⟩)
          | (rw [rdS_s, if_neg (fun z => absurd h56 (nI_nle (Nat.pos_of_ne_zero z.2) (by omega)))] at hw; subst hw; exact ⟨rfl, g, s, rfl, hkp, fun _ => hA⟩)
      · refine r_aload_n (i := 0) hK dX7_read_59 rfl rfl ?_
        have ht0 : tL c s ≠ 0 := fun z => h56 (by rw [z]; decide)
        have h00 : A.1 = 0 → A.2.1.1 = 0 ∧ A.2.2.1.1 = 0 := fun hz => ⟨Nat.eq_zero_of_not_pos (fun q => by have := (hwo.2.2 0 q).1; omega), Nat.eq_zero_of_not_pos (fun q => by have := (hpo.2 0 q).1; omega)⟩
        refine r_str41 hK hm dX7_read_60 ?_
        refine r_ci1 hK hnn (c_isWord (k := 0) hT hs (by decide)) moX7_isWord mlX7_43 to_3 rfl rfl dX7_read_62 (Nat.le_of_ble_eq_true rfl) (Nat.le_of_ble_eq_true rfl) (eqI ?_)
        refine r_if_eq (tgt := 75) hK dX7_read_65 (by decide) (fun h65 => ?_) (fun h65 => ?_)
        · refine r_aload_n (i := 0) hK dX7_read_75 rfl rfl ?_
          refine r_getA hK flX7_12 to_3 rfl dX7_read_76 ?_
          refine r_getI hK flX7_50 to_4 rfl dX7_read_79 ?_
          refine r_top (y := nI A.1) ((congrFun (rs_n (by decide)) _).trans x8) ?_
          refine r_if_le (tgt := 101) hK dX7_read_82 (by decide) (fun h82 => ?_) (fun h82 => ?_)
          · refine r_aload_n (i := 0) hK dX7_read_101 rfl rfl ?_
            refine r_getA hK flX7_12 to_3 rfl dX7_read_102 ?_
            refine r_getI hK flX7_50 to_4 rfl dX7_read_105 ?_
            refine r_top (y := nI A.1) ((congrFun (rs_n (by decide)) _).trans x8) ?_
            refine r_if_le (tgt := 127) hK dX7_read_108 (by decide) (fun _ => ?_) (fun h => absurd h82 h)
            refine r_aload_n (i := 0) hK dX7_read_127 rfl rfl ?_
            refine r_iconst (v := 1) hK dX7_read_128 (by decide) ?_
            refine r_cv1 hK hnn (c_blame hF rfl (by decide)) moX7_blame mlX7_62 to_3 rfl rfl dX7_read_129 (Nat.le_of_ble_eq_true rfl) (Nat.le_of_ble_eq_true rfl) (eqV ?_)
            refine r_iincN (i := 2) hK hm dX7_read_132 rfl (by decide) ?_
            refine r_goto (tgt := 38) hK dX7_read_135 (by decide) ?_
            first
              | (refine r_loc ?_ (h38 _ _ q69 (show clS c A F s = clP c A F s from by unfold clS; rw [if_pos (B1_n.mp h65)]) (clP_ok hF) hF0 ht0); rfl)
              | (refine r_loc ?_ (h38 _ _ q95 (show clS c A F s = clW c A F s from by unfold clS; rw [if_neg (by rw [B1_0.mp h65]; decide), if_pos ⟨hp82, B1_n.mp h91⟩]) (clW_ok hF) hF0 ht0); rfl)
              | (refine r_loc ?_ (h38 _ _ q121 (show clS c A F s = clQ c A F s from by unfold clS; rw [if_neg (by rw [B1_0.mp h65]; decide), if_neg (fun z => absurd z.2 (by rw [B1_0.mp h91]; decide)), if_pos ⟨hp82, B1_n.mp h117⟩]) (clQ_ok hT.1 hs hw14 hF) hF0 ht0); rfl)
              | (refine r_loc ?_ (h38 _ _ (⟨g, s, hs, Kp.rf, rfl, fun z => absurd z (bl_n (by decide))⟩ : QC g n c (A, bl F 1 s, s) _) (show clS c A F s = (A, bl F 1 s, s) from by unfold clS; rw [if_neg (by rw [B1_0.mp h65]; decide), if_neg (fun z => absurd z.2 (by rw [B1_0.mp h91]; decide)), if_neg (fun z => absurd z.2 (by rw [B1_0.mp h117]; decide))]) (bl_ok hF (by decide)) hF0 ht0); rfl)
              | (refine r_loc ?_ (h38 _ _ (⟨g, s, hs, Kp.rf, rfl, fun z => absurd z (bl_n (by decide))⟩ : QC g n c (A, bl F 1 s, s) _) (show clS c A F s = (A, bl F 1 s, s) from by unfold clS; rw [if_neg (by rw [B1_0.mp h65]; decide), if_neg (fun z => absurd h82 (nI_nle z.1 (by omega))), if_neg (fun z => absurd h82 (nI_nle z.1 (by omega)))]) (bl_ok hF (by decide)) hF0 ht0); rfl)
          · refine r_aload_n (i := 0) hK dX7_read_85 rfl rfl ?_
            have hp82 : 0 < A.1 := Nat.pos_of_ne_zero (fun z => h82 (by rw [z]; decide))
            refine r_str52 hK hm dX7_read_86 ?_
            refine r_ci1 hK hnn (c_isWord (k := 1) hT hs (by decide)) moX7_isWord mlX7_43 to_3 rfl rfl dX7_read_88 (Nat.le_of_ble_eq_true rfl) (Nat.le_of_ble_eq_true rfl) (eqI ?_)
            refine r_if_eq (tgt := 101) hK dX7_read_91 (by decide) (fun h91 => ?_) (fun h91 => ?_)
            · refine r_aload_n (i := 0) hK dX7_read_101 rfl rfl ?_
              refine r_getA hK flX7_12 to_3 rfl dX7_read_102 ?_
              refine r_getI hK flX7_50 to_4 rfl dX7_read_105 ?_
              refine r_top (y := nI A.1) ((congrFun (rs_n (by decide)) _).trans x8) ?_
              refine r_if_le (tgt := 127) hK dX7_read_108 (by decide) (fun h => absurd h h82) (fun _ => ?_)
              refine r_aload_n (i := 0) hK dX7_read_111 rfl rfl ?_
              refine r_str57 hK hm dX7_read_112 ?_
              refine r_ci1 hK hnn (c_isWord (k := 2) hT hs (by decide)) moX7_isWord mlX7_43 to_3 rfl rfl dX7_read_114 (Nat.le_of_ble_eq_true rfl) (Nat.le_of_ble_eq_true rfl) (eqI ?_)
              refine r_if_eq (tgt := 127) hK dX7_read_117 (by decide) (fun h117 => ?_) (fun h117 => ?_)
              · refine r_aload_n (i := 0) hK dX7_read_127 rfl rfl ?_
                refine r_iconst (v := 1) hK dX7_read_128 (by decide) ?_
                refine r_cv1 hK hnn (c_blame hF rfl (by decide)) moX7_blame mlX7_62 to_3 rfl rfl dX7_read_129 (Nat.le_of_ble_eq_true rfl) (Nat.le_of_ble_eq_true rfl) (eqV ?_)
                refine r_iincN (i := 2) hK hm dX7_read_132 rfl (by decide) ?_
                refine r_goto (tgt := 38) hK dX7_read_135 (by decide) ?_
                first
                  | (refine r_loc ?_ (h38 _ _ q69 (show clS c A F s = clP c A F s from by unfold clS; rw [if_pos (B1_n.mp h65)]) (clP_ok hF) hF0 ht0); rfl)
                  | (refine r_loc ?_ (h38 _ _ q95 (show clS c A F s = clW c A F s from by unfold clS; rw [if_neg (by rw [B1_0.mp h65]; decide), if_pos ⟨hp82, B1_n.mp h91⟩]) (clW_ok hF) hF0 ht0); rfl)
                  | (refine r_loc ?_ (h38 _ _ q121 (show clS c A F s = clQ c A F s from by unfold clS; rw [if_neg (by rw [B1_0.mp h65]; decide), if_neg (fun z => absurd z.2 (by rw [B1_0.mp h91]; decide)), if_pos ⟨hp82, B1_n.mp h117⟩]) (clQ_ok hT.1 hs hw14 hF) hF0 ht0); rfl)
                  | (refine r_loc ?_ (h38 _ _ (⟨g, s, hs, Kp.rf, rfl, fun z => absurd z (bl_n (by decide))⟩ : QC g n c (A, bl F 1 s, s) _) (show clS c A F s = (A, bl F 1 s, s) from by unfold clS; rw [if_neg (by rw [B1_0.mp h65]; decide), if_neg (fun z => absurd z.2 (by rw [B1_0.mp h91]; decide)), if_neg (fun z => absurd z.2 (by rw [B1_0.mp h117]; decide))]) (bl_ok hF (by decide)) hF0 ht0); rfl)
                  | (refine r_loc ?_ (h38 _ _ (⟨g, s, hs, Kp.rf, rfl, fun z => absurd z (bl_n (by decide))⟩ : QC g n c (A, bl F 1 s, s) _) (show clS c A F s = (A, bl F 1 s, s) from by unfold clS; rw [if_neg (by rw [B1_0.mp h65]; decide), if_neg (fun z => absurd h82 (nI_nle z.1 (by omega))), if_neg (fun z => absurd h82 (nI_nle z.1 (by omega)))]) (bl_ok hF (by decide)) hF0 ht0); rfl)
              · refine r_aload_n (i := 0) hK dX7_read_120 rfl rfl ?_
                refine r_cv0 hK hnn (c_readPerson hT hs hF0 hA hp82) moX7_readPerson mlX7_59 to_3 rfl rfl dX7_read_121 (Nat.le_of_ble_eq_true rfl) (Nat.le_of_ble_eq_true rfl) (fun g121 q121 => ?_)
                refine r_goto (tgt := 132) hK dX7_read_124 (by decide) ?_
                refine r_iincN (i := 2) hK hm dX7_read_132 rfl (by decide) ?_
                refine r_goto (tgt := 38) hK dX7_read_135 (by decide) ?_
                first
                  | (refine r_loc ?_ (h38 _ _ q69 (show clS c A F s = clP c A F s from by unfold clS; rw [if_pos (B1_n.mp h65)]) (clP_ok hF) hF0 ht0); rfl)
                  | (refine r_loc ?_ (h38 _ _ q95 (show clS c A F s = clW c A F s from by unfold clS; rw [if_neg (by rw [B1_0.mp h65]; decide), if_pos ⟨hp82, B1_n.mp h91⟩]) (clW_ok hF) hF0 ht0); rfl)
                  | (refine r_loc ?_ (h38 _ _ q121 (show clS c A F s = clQ c A F s from by unfold clS; rw [if_neg (by rw [B1_0.mp h65]; decide), if_neg (fun z => absurd z.2 (by rw [B1_0.mp h91]; decide)), if_pos ⟨hp82, B1_n.mp h117⟩]) (clQ_ok hT.1 hs hw14 hF) hF0 ht0); rfl)
                  | (refine r_loc ?_ (h38 _ _ (⟨g, s, hs, Kp.rf, rfl, fun z => absurd z (bl_n (by decide))⟩ : QC g n c (A, bl F 1 s, s) _) (show clS c A F s = (A, bl F 1 s, s) from by unfold clS; rw [if_neg (by rw [B1_0.mp h65]; decide), if_neg (fun z => absurd z.2 (by rw [B1_0.mp h91]; decide)), if_neg (fun z => absurd z.2 (by rw [B1_0.mp h117]; decide))]) (bl_ok hF (by decide)) hF0 ht0); rfl)
                  | (refine r_loc ?_ (h38 _ _ (⟨g, s, hs, Kp.rf, rfl, fun z => absurd z (bl_n (by decide))⟩ : QC g n c (A, bl F 1 s, s) _) (show clS c A F s = (A, bl F 1 s, s) from by unfold clS; rw [if_neg (by rw [B1_0.mp h65]; decide), if_neg (fun z => absurd h82 (nI_nle z.1 (by omega))), if_neg (fun z => absurd h82 (nI_nle z.1 (by omega)))]) (bl_ok hF (by decide)) hF0 ht0); rfl)
            · refine r_aload_n (i := 0) hK dX7_read_94 rfl rfl ?_
              refine r_cv0 hK hnn (c_readWay hT hs hF0 hA hp82) moX7_readWay mlX7_54 to_3 rfl rfl dX7_read_95 (Nat.le_of_ble_eq_true rfl) (Nat.le_of_ble_eq_true rfl) (fun g95 q95 => ?_)
              refine r_goto (tgt := 132) hK dX7_read_98 (by decide) ?_
              refine r_iincN (i := 2) hK hm dX7_read_132 rfl (by decide) ?_
              refine r_goto (tgt := 38) hK dX7_read_135 (by decide) ?_
              first
                | (refine r_loc ?_ (h38 _ _ q69 (show clS c A F s = clP c A F s from by unfold clS; rw [if_pos (B1_n.mp h65)]) (clP_ok hF) hF0 ht0); rfl)
                | (refine r_loc ?_ (h38 _ _ q95 (show clS c A F s = clW c A F s from by unfold clS; rw [if_neg (by rw [B1_0.mp h65]; decide), if_pos ⟨hp82, B1_n.mp h91⟩]) (clW_ok hF) hF0 ht0); rfl)
                | (refine r_loc ?_ (h38 _ _ q121 (show clS c A F s = clQ c A F s from by unfold clS; rw [if_neg (by rw [B1_0.mp h65]; decide), if_neg (fun z => absurd z.2 (by rw [B1_0.mp h91]; decide)), if_pos ⟨hp82, B1_n.mp h117⟩]) (clQ_ok hT.1 hs hw14 hF) hF0 ht0); rfl)
                | (refine r_loc ?_ (h38 _ _ (⟨g, s, hs, Kp.rf, rfl, fun z => absurd z (bl_n (by decide))⟩ : QC g n c (A, bl F 1 s, s) _) (show clS c A F s = (A, bl F 1 s, s) from by unfold clS; rw [if_neg (by rw [B1_0.mp h65]; decide), if_neg (fun z => absurd z.2 (by rw [B1_0.mp h91]; decide)), if_neg (fun z => absurd z.2 (by rw [B1_0.mp h117]; decide))]) (bl_ok hF (by decide)) hF0 ht0); rfl)
                | (refine r_loc ?_ (h38 _ _ (⟨g, s, hs, Kp.rf, rfl, fun z => absurd z (bl_n (by decide))⟩ : QC g n c (A, bl F 1 s, s) _) (show clS c A F s = (A, bl F 1 s, s) from by unfold clS; rw [if_neg (by rw [B1_0.mp h65]; decide), if_neg (fun z => absurd h82 (nI_nle z.1 (by omega))), if_neg (fun z => absurd h82 (nI_nle z.1 (by omega)))]) (bl_ok hF (by decide)) hF0 ht0); rfl)
        · refine r_aload_n (i := 0) hK dX7_read_68 rfl rfl ?_
          refine r_cv0 hK hnn (c_readPlaces hT hs hF0 hA h00) moX7_readPlaces mlX7_47 to_3 rfl rfl dX7_read_69 (Nat.le_of_ble_eq_true rfl) (Nat.le_of_ble_eq_true rfl) (fun g69 q69 => ?_)
          refine r_goto (tgt := 132) hK dX7_read_72 (by decide) ?_
          refine r_iincN (i := 2) hK hm dX7_read_132 rfl (by decide) ?_
          refine r_goto (tgt := 38) hK dX7_read_135 (by decide) ?_
          first
            | (refine r_loc ?_ (h38 _ _ q69 (show clS c A F s = clP c A F s from by unfold clS; rw [if_pos (B1_n.mp h65)]) (clP_ok hF) hF0 ht0); rfl)
            | (refine r_loc ?_ (h38 _ _ q95 (show clS c A F s = clW c A F s from by unfold clS; rw [if_neg (by rw [B1_0.mp h65]; decide), if_pos ⟨hp82, B1_n.mp h91⟩]) (clW_ok hF) hF0 ht0); rfl)
            | (refine r_loc ?_ (h38 _ _ q121 (show clS c A F s = clQ c A F s from by unfold clS; rw [if_neg (by rw [B1_0.mp h65]; decide), if_neg (fun z => absurd z.2 (by rw [B1_0.mp h91]; decide)), if_pos ⟨hp82, B1_n.mp h117⟩]) (clQ_ok hT.1 hs hw14 hF) hF0 ht0); rfl)
            | (refine r_loc ?_ (h38 _ _ (⟨g, s, hs, Kp.rf, rfl, fun z => absurd z (bl_n (by decide))⟩ : QC g n c (A, bl F 1 s, s) _) (show clS c A F s = (A, bl F 1 s, s) from by unfold clS; rw [if_neg (by rw [B1_0.mp h65]; decide), if_neg (fun z => absurd z.2 (by rw [B1_0.mp h91]; decide)), if_neg (fun z => absurd z.2 (by rw [B1_0.mp h117]; decide))]) (bl_ok hF (by decide)) hF0 ht0); rfl)
            | (refine r_loc ?_ (h38 _ _ (⟨g, s, hs, Kp.rf, rfl, fun z => absurd z (bl_n (by decide))⟩ : QC g n c (A, bl F 1 s, s) _) (show clS c A F s = (A, bl F 1 s, s) from by unfold clS; rw [if_neg (by rw [B1_0.mp h65]; decide), if_neg (fun z => absurd h82 (nI_nle z.1 (by omega))), if_neg (fun z => absurd h82 (nI_nle z.1 (by omega)))]) (bl_ok hF (by decide)) hF0 ht0); rfl)
def f0 : Nat → Nat := fun _ => 0
def A0 : DR := (0, (0, f0, f0, f0), (0, f0, f0, f0), f0, f0)
def rdR (c : CT) : CR := rdS c 400 A0 (0, 0) (sk c 0)
theorem tk_45 {g : St} {c : CT} {s : Nat} {x y : Int32} : tk (upI (upI g 3 4 x) 3 5 y) c s = tk g c s := by
  unfold tk rd
  rw [upI_upR, upI_s, upR_upR, upR_s]
  rw [show (upI g 3 4 x) = upR g 3 (upd (g.1 3) 4 x) from upI_upR, upR_upR]
  congr 1
  funext k
  by_cases k4 : k = 4
  · simp only [k4, if_true]
  · by_cases k5 : k = 5
    · subst k5; rfl
    · by_cases k6 : k = 6
      · subst k6; rfl
      · by_cases k7 : k = 7
        · subst k7; rfl
        · by_cases k8 : k = 8
          · subst k8; rfl
          · simp only [k4, k5, k6, k7, k8, if_false]
            rw [upd_e k5, upd_e k4]
theorem tk_00 {g : St} {c : CT} {s : Nat} {x y : Int32} : tk (upI (upI (upI (upI g 3 2 0) 3 3 (-1)) 3 4 x) 3 5 y) c s = rs g c (0, 0) s := by
  rw [tk_45]
  rfl
theorem DrC_0 {g : St} : DrC (upI (upI (upI g 4 8 0) 4 9 0) 4 10 0) A0 := by
  refine ⟨⟨Nat.zero_le _, Nat.zero_le _, fun w hw => absurd hw (Nat.not_lt_zero _)⟩, ⟨Nat.zero_le _, fun w hw => absurd hw (Nat.not_lt_zero _)⟩, ?_, ⟨?_, fun w hw => absurd hw (Nat.not_lt_zero _)⟩, ?_, fun w hw => absurd hw (Nat.not_lt_zero _)⟩
  · rw [upd_n2 (by decide), upd_n2 (by decide), upI_s, upd_s]; rfl
  · rw [upd_n2 (by decide), upI_s, upd_s]; rfl
  · rw [upI_s, upd_s]; rfl
set_option maxHeartbeats 4000000 in
set_option maxRecDepth 100000 in
theorem c_read {ad : Nat → Nat} {g : St} {n : Nat} {c : CT} (hT : TxC (upI g 3 1 1) n c) : Ci 9 mX7_read [.ref 3, .ref 1] ad g (fun v g' => RQ (upI g 3 1 1) c (rdR c) v g') := by
  have hT2 : TxC (upI (upI (upI (upI g 3 1 1) 4 8 0) 4 9 0) 4 10 0) n c := TxC_kp hT (((Kp.rf.up (by decide) (by decide)).up (by decide) (by decide)).up (by decide) (by decide))
  have hT3 : TxC (upI (upI (upI (upI (upI (upI (upI (upI g 3 1 1) 4 8 0) 4 9 0) 4 10 0) 3 2 0) 3 3 (-1)) 3 4 0) 3 5 0) n c := TxC_of hT2 (by rw [upI_n (by decide), upI_n (by decide), upI_n (by decide), upI_n (by decide)]) (by rw [upI_n (by decide), upI_n (by decide), upI_n (by decide), upI_n (by decide)]) (by rw [upd_n2 (by decide), upd_n2 (by decide), upd_n2 (by decide), upd_n2 (by decide)])
  refine Cm.mk rfl (Nat.le_of_ble_eq_true rfl) (fun K hK hR hm hnn => ?_)
  refine r_aload_n (i := 0) hK dX7_read_0 rfl rfl ?_
  refine r_aload_n (i := 1) hK dX7_read_1 rfl rfl ?_
  refine r_putO hK flX7_22 ft7_1 to_3 rfl dX7_read_2 ?_
  refine r_aload_n (i := 0) hK dX7_read_5 rfl rfl ?_
  refine r_getA hK flX7_12 to_3 rfl dX7_read_6 ?_
  refine r_cv0 hK hnn c_empty moX4_empty mlX7_26 to_4 rfl rfl dX7_read_9 (Nat.le_of_ble_eq_true rfl) (Nat.le_of_ble_eq_true rfl) (eqV ?_)
  refine r_aload_n (i := 0) hK dX7_read_12 rfl rfl ?_
  refine r_iconst (v := 0) hK dX7_read_13 (by decide) ?_
  refine r_putI hK flX7_29 ft7_2 to_3 rfl dX7_read_14 ?_
  refine r_aload_n (i := 0) hK dX7_read_17 rfl rfl ?_
  refine r_iconst (v := (-1)) hK dX7_read_18 (by decide) ?_
  refine r_putI hK flX7_18 ft7_3 to_3 rfl dX7_read_19 ?_
  refine r_aload_n (i := 0) hK dX7_read_22 rfl rfl ?_
  refine r_iconst (v := 0) hK dX7_read_23 (by decide) ?_
  refine r_putI hK flX7_32 ft7_4 to_3 rfl dX7_read_24 ?_
  refine r_aload_n (i := 0) hK dX7_read_27 rfl rfl ?_
  refine r_iconst (v := 0) hK dX7_read_28 (by decide) ?_
  refine r_putI hK flX7_35 ft7_5 to_3 rfl dX7_read_29 ?_
  refine r_aload_n (i := 0) hK dX7_read_32 rfl rfl ?_
  refine r_cv0 hK hnn (c_stepG (q := 0) hT3 (Nat.zero_le _) (by rw [upd_n2 (by decide), upI_s, upd_s, upI_s, upd_s]; rfl)) moX7_step mlX7_38 to_3 rfl rfl dX7_read_33 (Nat.le_of_ble_eq_true rfl) (Nat.le_of_ble_eq_true rfl) (eqV ?_)
  refine r_g tk_00 ?_
  refine r_iconst (v := 0) hK dX7_read_36 (by decide) ?_
  refine r_istore_n (i := 2) hK hm dX7_read_37 rfl (by decide) ?_
  refine r_loc ?_ (l_rd hT hK hm hnn hR 400 0 (by omega) _ A0 (0, 0) (sk c 0) (sk_le hT.1 (Nat.zero_le _)).2 (Nat.zero_le _) (((Kp.rf.up (by decide) (by decide)).up (by decide) (by decide)).up (by decide) (by decide)) (fun _ => ⟨DrC_0, rfl⟩) (fun h => absurd rfl h))
  rfl
