/-! THE MODEL: soonest, the guides -/
abbrev kM (X : LN) (t : Nat) : Nat → Nat := kP X.2.2.1 (vX X t false) FR t
theorem vX_ok {X : LN} (hok : wOk X.1 X.2.1) (hpo : pOk X.1 X.2.2.1 X.2.2.2.1 X.2.2.2.2.1) (t : Nat) : vOk X.1 X.2.2.1 (vX X t false) := VV_ok hok hpo _ _ _
theorem ZC_0 {g : St} {K : Nat → Nat} {P : PD} {V : VT} {np a : Nat} (h : ZC g K P V np 0) (ha : a < np) : g.1 114 a = nI (K a) := by
  obtain ⟨z, h1, -, -, h4⟩ := h 0 (Nat.le_refl 0) (by omega) a ha
  rw [show 10 * 0 + a = a by omega] at h1
  rw [h1, h4 cdS_0]

set_option maxHeartbeats 4000000 in
set_option maxRecDepth 100000 in
theorem c_mSoonOf {ad : Nat → Nat} {g : St} {X : LN} (hX : MC g X) {a t : Nat} {x y : Int32} (hx : x = nI a) (ha : a < X.1) (hy : y = nI t) (ht : t < X.1) : Ci 6 mX10_soonestOf [.ref 91, .int x, .int y] ad g (fun v g' => FM g g' ∧ MG g' (vX X t false) X.2.2.1.1 ∧ ZC g' (kM X t) X.2.2.1 (vX X t false) X.1 0 ∧ v = (if kM X t a < FR then nI (kM X t a / 16) else -1)) := by
  subst hx; subst hy
  obtain ⟨hok, hpo, hlaw, x1, hW, hPs, x4⟩ := id hX
  have h10 := hok.2.1
  have h6 := hpo.1
  have h14 := hok.1
  have hle : kM X t a ≤ 1000000 := kP_le a
  refine Cm.mk rfl (Nat.le_of_ble_eq_true rfl) (fun K hK hR hm hnn => ?_)
  refine r_aload_n (i := 0) hK dX10_soonestOf_0 rfl rfl ?_
  refine r_iload_n (i := 2) hK dX10_soonestOf_1 rfl rfl ?_
  refine r_iconst (v := 0) hK dX10_soonestOf_2 (by decide) ?_
  refine r_cv2 hK hnn (c_mFindEnds (own := false) hX rfl ht rfl) moX10_findEnds mlX10_295 to_91 rfl rfl dX10_soonestOf_3 (Nat.le_of_ble_eq_true rfl) (Nat.le_of_ble_eq_true rfl) (fun g3 q3 => ?_)
  obtain ⟨hfr, hG⟩ := q3
  refine r_aload_n (i := 0) hK dX10_soonestOf_6 rfl rfl ?_
  refine r_iload_n (i := 2) hK dX10_soonestOf_7 rfl rfl ?_
  refine r_cv1 hK hnn (c_mFindSoon (Kf := kM X t) (MC_of hX hfr) (vX_ok hok hpo t) hG ht rfl rfl) moX10_findSoon mlX10_302 to_91 rfl rfl dX10_soonestOf_8 (Nat.le_of_ble_eq_true rfl) (Nat.le_of_ble_eq_true rfl) (fun g8 q8 => ?_)
  obtain ⟨hfz, hZ⟩ := q8
  have hfr3 := hfr.tr hfz.fm
  have hG3 := MG_fz hG hfz
  refine r_aload_n (i := 0) hK dX10_soonestOf_11 rfl rfl ?_
  refine r_getA hK flX10_80 to_91 rfl dX10_soonestOf_12 ?_
  refine r_iload_n (i := 1) hK dX10_soonestOf_15 rfl rfl ?_
  refine r_ialN hK to_114 rfl (by omega) (by decide) (ZC_0 hZ ha) dX10_soonestOf_16 ?_
  refine r_ldc hK ckX10_248 dX10_soonestOf_17 ?_
  refine r_icmp_lt (tgt := 26) hK dX10_soonestOf_19 (by decide) (fun h19 => ?_) (fun h19 => ?_)
  · refine r_aload_n (i := 0) hK dX10_soonestOf_26 rfl rfl ?_
    refine r_getA hK flX10_80 to_91 rfl dX10_soonestOf_27 ?_
    refine r_iload_n (i := 1) hK dX10_soonestOf_30 rfl rfl ?_
    refine r_ialN hK to_114 rfl (by omega) (by decide) (ZC_0 hZ ha) dX10_soonestOf_31 ?_
    refine r_bipush (v := 16) hK dX10_soonestOf_32 (by decide) ?_
    refine r_idiv hK dX10_soonestOf_34 (by decide) ?_
    refine r_top (y := nI (kM X t a / 16)) (pk_div (a := kM X t a) (d := 16) (by omega) (by decide) (by decide)) ?_
    refine q_iret hK hR dX10_soonestOf_35 ?_
    refine ⟨hfr3, hG3, hZ, ?_⟩
    first
      | (rw [if_neg (show ¬ kM X t a < FR from nlt_I h19 (by decide))]; done)
      | (rw [if_pos (show kM X t a < FR from lt_of_I h19 (by omega))]; done)
  · refine r_iconst (v := (-1)) hK dX10_soonestOf_22 (by decide) ?_
    refine r_goto (tgt := 35) hK dX10_soonestOf_23 (by decide) ?_
    refine q_iret hK hR dX10_soonestOf_35 ?_
    refine ⟨hfr3, hG3, hZ, ?_⟩
    first
      | (rw [if_neg (show ¬ kM X t a < FR from nlt_I h19 (by decide))]; done)
      | (rw [if_pos (show kM X t a < FR from lt_of_I h19 (by omega))]; done)
theorem kX_kM {X : LN} (hok : wOk X.1 X.2.1) (hpo : pOk X.1 X.2.2.1 X.2.2.2.1 X.2.2.2.2.1) (t : Nat) {a : Nat} (ha : a < 10) : (kX X t a < FC ↔ kM X t a < FR) ∧ (kM X t a < FR → kX X t a = kM X t a) := by
  rcases kP_two (vX_ok hok hpo t) t ha with ⟨h1, h2⟩ | ⟨h1, h2⟩
  · have h3 : kX X t a = kM X t a := h2
    have h4 : kM X t a < 1000000 := h1
    refine ⟨⟨fun _ => h1, fun _ => ?_⟩, fun _ => h2⟩
    rw [h3]
    show kM X t a < 1000000000
    omega
  · have h3 : kX X t a = 1000000000 := h2
    have h4 : kM X t a = 1000000 := h1
    refine ⟨⟨fun z => ?_, fun z => ?_⟩, fun z => ?_⟩
    · have : kX X t a < 1000000000 := z
      omega
    · have : kM X t a < 1000000 := z
      omega
    · have : kM X t a < 1000000 := z
      omega
set_option maxHeartbeats 4000000 in
set_option maxRecDepth 100000 in
theorem c_mSoonest {ad : Nat → Nat} {g : St} {X : LN} (hX : MC g X) {a t : Int32} : Ci 7 mX10_soonest [.ref 91, .int a, .int t] ad g (fun v g' => v = aSoon X a t ∧ FM g g') := by
  obtain ⟨hok, hpo, hlaw, x1, hW, hPs, x4⟩ := id hX
  have h10 := hok.2.1
  have h6 := hpo.1
  have h14 := hok.1
  refine Cm.mk rfl (Nat.le_of_ble_eq_true rfl) (fun K hK hR hm hnn => ?_)
  refine r_aload_n (i := 0) hK dX10_soonest_0 rfl rfl ?_
  refine r_iload_n (i := 1) hK dX10_soonest_1 rfl rfl ?_
  refine r_ci1 hK hnn (c_misPlace x1 (by omega)) moX10_isPlace mlX10_256 to_91 rfl rfl dX10_soonest_2 (Nat.le_of_ble_eq_true rfl) (Nat.le_of_ble_eq_true rfl) (eqI ?_)
  refine r_if_eq (tgt := 25) hK dX10_soonest_5 (by decide) (fun h5 => ?_) (fun h5 => ?_)
  · refine r_ldc hK ckX10_242 dX10_soonest_25 ?_
    refine q_iret hK hR dX10_soonest_27 ?_
    first
      | (refine ⟨?_, hfr⟩; unfold aSoon; rw [if_pos hbb]; obtain ⟨k1, k2⟩ := kX_kM hok hpo (nC t) (a := nC a) (Nat.lt_of_lt_of_le ha1 h10); by_cases hl : kM X (nC t) (nC a) < FR; (rw [if_pos (k1.mpr hl), k2 hl]; exact if_pos hl); (rw [if_neg (fun z => hl (k1.mp z))]; exact if_neg hl))
      | (refine ⟨?_, FM.rf⟩; unfold aSoon; rw [if_neg (by rw [B1_0.mp h5]; simp)]; done)
      | (refine ⟨?_, FM.rf⟩; unfold aSoon; rw [if_neg (by rw [B1_0.mp h13]; simp)]; done)
  · refine r_aload_n (i := 0) hK dX10_soonest_8 rfl rfl ?_
    refine r_iload_n (i := 2) hK dX10_soonest_9 rfl rfl ?_
    refine r_ci1 hK hnn (c_misPlace x1 (by omega)) moX10_isPlace mlX10_256 to_91 rfl rfl dX10_soonest_10 (Nat.le_of_ble_eq_true rfl) (Nat.le_of_ble_eq_true rfl) (eqI ?_)
    refine r_if_eq (tgt := 25) hK dX10_soonest_13 (by decide) (fun h13 => ?_) (fun h13 => ?_)
    · refine r_ldc hK ckX10_242 dX10_soonest_25 ?_
      refine q_iret hK hR dX10_soonest_27 ?_
      first
        | (refine ⟨?_, hfr⟩; unfold aSoon; rw [if_pos hbb]; obtain ⟨k1, k2⟩ := kX_kM hok hpo (nC t) (a := nC a) (Nat.lt_of_lt_of_le ha1 h10); by_cases hl : kM X (nC t) (nC a) < FR; (rw [if_pos (k1.mpr hl), k2 hl]; exact if_pos hl); (rw [if_neg (fun z => hl (k1.mp z))]; exact if_neg hl))
        | (refine ⟨?_, FM.rf⟩; unfold aSoon; rw [if_neg (by rw [B1_0.mp h5]; simp)]; done)
        | (refine ⟨?_, FM.rf⟩; unfold aSoon; rw [if_neg (by rw [B1_0.mp h13]; simp)]; done)
    · refine r_aload_n (i := 0) hK dX10_soonest_16 rfl rfl ?_
      have hb1 := B1_n.mp h5
      have hb2 := B1_n.mp h13
      have hbb : (isB a X.1 && isB t X.1) = true := by rw [hb1, hb2]; rfl
      obtain ⟨ha1, ha2⟩ := isB_cl (by omega) hb1
      obtain ⟨ht1, ht2⟩ := isB_cl (by omega) hb2
      refine r_iload_n (i := 1) hK dX10_soonest_17 rfl rfl ?_
      refine r_iload_n (i := 2) hK dX10_soonest_18 rfl rfl ?_
      refine r_ci2 hK hnn (c_mSoonOf hX ha2 ha1 ht2 ht1) moX10_soonestOf mlX10_306 to_91 rfl rfl dX10_soonest_19 (Nat.le_of_ble_eq_true rfl) (Nat.le_of_ble_eq_true rfl) (fun v19 g19 q19 => ?_)
      obtain ⟨hfr, hG, hZ, rfl⟩ := q19
      refine r_goto (tgt := 27) hK dX10_soonest_22 (by decide) ?_
      refine q_iret hK hR dX10_soonest_27 ?_
      first
        | (refine ⟨?_, hfr⟩; unfold aSoon; rw [if_pos hbb]; obtain ⟨k1, k2⟩ := kX_kM hok hpo (nC t) (a := nC a) (Nat.lt_of_lt_of_le ha1 h10); by_cases hl : kM X (nC t) (nC a) < FR; (rw [if_pos (k1.mpr hl), k2 hl]; exact if_pos hl); (rw [if_neg (fun z => hl (k1.mp z))]; exact if_neg hl))
        | (refine ⟨?_, FM.rf⟩; unfold aSoon; rw [if_neg (by rw [B1_0.mp h5]; simp)]; done)
        | (refine ⟨?_, FM.rf⟩; unfold aSoon; rw [if_neg (by rw [B1_0.mp h13]; simp)]; done)
set_option maxHeartbeats 4000000 in
set_option maxRecDepth 100000 in
theorem lm_gw {K : KT} {ad : Nat → Nat} {g : St} {X : LN} (hX : MC g X) {V : VT} (hV : vOk X.1 X.2.2.1 V) (hG : MG g V X.2.2.1.1) {t : Nat} {Kf : Nat → Nat} (hKf : Kf = kP X.2.2.1 V FR t) (hZ : ZC g Kf X.2.2.1 V X.1 0) {set here q : Nat} {x3 x8 : Int32} (hset : set < 64) (hh : here < X.1) (hht : here ≠ t) (hcd : cdS X.2.2.1 V Kf set here) (hl : Kf here < 1000000) (hq : q = gdN X.2.2.1 V Kf here) (hK : Cx K RX10 cX10_guide 7 ad) (hm : K.2.2.1.2.maxLocals = 9) (hnn : Nn K 0 0)
    (h164 : Wp K 0 0 TT ad g 164 [(0, .ref 91), (3, .int x3), (5, .int (nI here)), (6, .int (nI set)), (8, .int x8), (7, .int (nI q))] []) :
    ∀ m w, w + m = q → Wp K 0 0 TT ad g 93 [(0, .ref 91), (3, .int x3), (5, .int (nI here)), (6, .int (nI set)), (8, .int x8), (7, .int (nI w))] [] := by
  obtain ⟨hok, hpo, hlaw, x1, hW, hPs, x4⟩ := id hX
  have h10 := hok.2.1
  have h6 := hpo.1
  have hhm : ∀ p, p < X.2.2.1.1 → X.2.2.1.2.1 p < 10 := fun p hp => by have := (hpo.2 p hp).1; omega
  have hgd := gdN_is hV (F := FR) (t := t) hht (by rw [← hKf]; exact hl)
  rw [← hKf, ← hq] at hgd
  obtain ⟨hq1, hq2, hq3, hq4⟩ := hgd
  have hzh : g.1 114 (10 * set + here) = nI (Kf here) := by
    obtain ⟨z, h1, -, -, h4⟩ := hZ set (Nat.zero_le _) hset here hh
    rw [h1, h4 hcd]
  intro m
  induction m with
  | zero =>
    intro w hwm
    have e : w = q := by omega
    have hw : w < X.2.2.1.1 := by omega
    have hti : Kf (V.1 w) + (16 * V.2 w + 1) = Kf here := by rw [e]; exact hq4
    have hfree := cdS_free hcd hw (by rw [e]; exact hq2)
    have hldb : ldB X.2.2.1 V here set w = true := ldB_iff.mpr ⟨by rw [e]; exact hq2, by rw [e]; exact hq3, hfree⟩
    rw [← e] at h164
    refine r_aload_n (i := 0) hK dX10_guide_93 rfl rfl ?_
    refine r_iload (i := 7) hK dX10_guide_94 rfl ?_
    refine r_iload (i := 6) hK dX10_guide_96 rfl ?_
    refine r_iload (i := 5) hK dX10_guide_98 rfl ?_
    refine r_ci3 hK hnn (c_mLeads hPs h6 hhm hG rfl hw rfl (by omega) rfl (by omega)) moX10_leads mlX10_299 to_91 rfl rfl dX10_guide_100 (Nat.le_of_ble_eq_true rfl) (Nat.le_of_ble_eq_true rfl) (eqI ?_)
    refine r_if_eq (tgt := 158) hK dX10_guide_103 (by decide) (fun h => absurd h (B1_n.mpr hldb)) (fun _ => ?_)
    refine r_aload_n (i := 0) hK dX10_guide_106 rfl rfl ?_
    obtain ⟨hb1, hv10, hb3⟩ := ldB_iff.mp hldb
    have hor6 := bit6 hset (show w < 6 by omega)
    have hvn := (hV.2.2 w hw).2.1 hv10
    have hvv := (hV.2.2 w hw).2.2
    obtain ⟨z, hz1, hz2, hz3, hz4⟩ := hZ (set ||| 1 <<< w) (Nat.zero_le _) hor6 (V.1 w) hvn
    have hfx := kP_fix hV (F := FR) (t := t) hw hv10
    rw [← hKf, hb1] at hfx
    refine r_getA hK flX10_80 to_91 rfl dX10_guide_107 ?_
    refine r_bipush (v := 10) hK dX10_guide_110 (by decide) ?_
    refine r_iload (i := 6) hK dX10_guide_112 rfl ?_
    refine r_iconst (v := 1) hK dX10_guide_114 (by decide) ?_
    refine r_iload (i := 7) hK dX10_guide_115 rfl ?_
    refine r_ishl hK dX10_guide_117 ?_
    refine r_ior hK dX10_guide_118 ?_
    refine r_top (y := nI (set ||| 1 <<< w)) (setbit (by omega)) ?_
    refine r_imul hK dX10_guide_119 ?_
    refine r_top (y := nI (10 * (set ||| 1 <<< w))) (pk_mul 10 _) ?_
    refine r_aload_n (i := 0) hK dX10_guide_120 rfl rfl ?_
    refine r_getA hK flX10_74 to_91 rfl dX10_guide_121 ?_
    refine r_iload (i := 7) hK dX10_guide_124 rfl ?_
    refine r_ialN hK to_112 rfl (by omega) (by decide) ((hG w hw).1.trans (enI_in hv10)) dX10_guide_126 ?_
    refine r_iadd hK dX10_guide_127 ?_
    refine r_top (y := nI (10 * (set ||| 1 <<< w) + V.1 w)) (nI_add _ _) ?_
    refine r_ialN hK to_114 rfl (by omega) (by decide) hz1 dX10_guide_128 ?_
    refine r_bipush (v := 16) hK dX10_guide_129 (by decide) ?_
    refine r_aload_n (i := 0) hK dX10_guide_131 rfl rfl ?_
    refine r_getA hK flX10_77 to_91 rfl dX10_guide_132 ?_
    refine r_iload (i := 7) hK dX10_guide_135 rfl ?_
    refine r_ialN hK to_113 rfl (by omega) (by decide) (hG w hw).2 dX10_guide_137 ?_
    refine r_imul hK dX10_guide_138 ?_
    refine r_iadd hK dX10_guide_139 ?_
    refine r_iconst (v := 1) hK dX10_guide_140 (by decide) ?_
    refine r_iadd hK dX10_guide_141 ?_
    refine r_top (y := nI (z + (16 * V.2 w + 1))) (mkey _ _) ?_
    refine r_aload_n (i := 0) hK dX10_guide_142 rfl rfl ?_
    refine r_getA hK flX10_80 to_91 rfl dX10_guide_143 ?_
    refine r_bipush (v := 10) hK dX10_guide_146 (by decide) ?_
    refine r_iload (i := 6) hK dX10_guide_148 rfl ?_
    refine r_imul hK dX10_guide_150 ?_
    refine r_top (y := nI (10 * set)) (pk_mul 10 _) ?_
    refine r_iload (i := 5) hK dX10_guide_151 rfl ?_
    refine r_iadd hK dX10_guide_153 ?_
    refine r_top (y := nI (10 * set + here)) (nI_add _ _) ?_
    refine r_ialN hK to_114 rfl (by omega) (by decide) hzh dX10_guide_154 ?_
    refine r_icmp_eq (tgt := 164) hK dX10_guide_155 (by decide) (fun _ => ?_) (fun h => absurd (congrArg nI (show z + (16 * V.2 w + 1) = Kf here by rw [hz4 (cdS_step hcd hb1 (by omega))]; exact hti)) h)
    refine r_loc ?_ h164
    rfl
  | succ m ih =>
    intro w hwm
    have hw : w < X.2.2.1.1 := by omega
    have hno : (X.2.2.1.2.1 w = here ∧ V.1 w < 10 ∧ set.testBit w = false) → ¬ Kf (V.1 w) + (16 * V.2 w + 1) = Kf here := fun h1 h2 => by
      have := fdF_bef (p := fun p => decide (X.2.2.1.2.1 p = here) && (decide (V.1 p < 10) && decide (Kf (V.1 p) + (16 * V.2 p + 1) = Kf here))) X.2.2.1.1 0 w (Nat.zero_le _) (by have : q = gdN X.2.2.1 V Kf here := hq; unfold gdN at this; omega)
      rw [decide_eq_true h1.1, decide_eq_true h1.2.1, decide_eq_true h2] at this
      exact absurd this (by decide)
    refine r_aload_n (i := 0) hK dX10_guide_93 rfl rfl ?_
    refine r_iload (i := 7) hK dX10_guide_94 rfl ?_
    refine r_iload (i := 6) hK dX10_guide_96 rfl ?_
    refine r_iload (i := 5) hK dX10_guide_98 rfl ?_
    refine r_ci3 hK hnn (c_mLeads hPs h6 hhm hG rfl hw rfl (by omega) rfl (by omega)) moX10_leads mlX10_299 to_91 rfl rfl dX10_guide_100 (Nat.le_of_ble_eq_true rfl) (Nat.le_of_ble_eq_true rfl) (eqI ?_)
    refine r_if_eq (tgt := 158) hK dX10_guide_103 (by decide) (fun h103 => ?_) (fun h103 => ?_)
    · refine r_iincN (i := 7) hK hm dX10_guide_158 rfl (by decide) ?_
      refine r_goto (tgt := 93) hK dX10_guide_161 (by decide) ?_
      refine r_loc ?_ (ih (w + 1) (by omega))
      rfl
    · refine r_aload_n (i := 0) hK dX10_guide_106 rfl rfl ?_
      obtain ⟨hb1, hv10, hb3⟩ := ldB_iff.mp (B1_n.mp h103)
      have hor6 := bit6 hset (show w < 6 by omega)
      have hvn := (hV.2.2 w hw).2.1 hv10
      have hvv := (hV.2.2 w hw).2.2
      obtain ⟨z, hz1, hz2, hz3, hz4⟩ := hZ (set ||| 1 <<< w) (Nat.zero_le _) hor6 (V.1 w) hvn
      have hfx := kP_fix hV (F := FR) (t := t) hw hv10
      rw [← hKf, hb1] at hfx
      refine r_getA hK flX10_80 to_91 rfl dX10_guide_107 ?_
      refine r_bipush (v := 10) hK dX10_guide_110 (by decide) ?_
      refine r_iload (i := 6) hK dX10_guide_112 rfl ?_
      refine r_iconst (v := 1) hK dX10_guide_114 (by decide) ?_
      refine r_iload (i := 7) hK dX10_guide_115 rfl ?_
      refine r_ishl hK dX10_guide_117 ?_
      refine r_ior hK dX10_guide_118 ?_
      refine r_top (y := nI (set ||| 1 <<< w)) (setbit (by omega)) ?_
      refine r_imul hK dX10_guide_119 ?_
      refine r_top (y := nI (10 * (set ||| 1 <<< w))) (pk_mul 10 _) ?_
      refine r_aload_n (i := 0) hK dX10_guide_120 rfl rfl ?_
      refine r_getA hK flX10_74 to_91 rfl dX10_guide_121 ?_
      refine r_iload (i := 7) hK dX10_guide_124 rfl ?_
      refine r_ialN hK to_112 rfl (by omega) (by decide) ((hG w hw).1.trans (enI_in hv10)) dX10_guide_126 ?_
      refine r_iadd hK dX10_guide_127 ?_
      refine r_top (y := nI (10 * (set ||| 1 <<< w) + V.1 w)) (nI_add _ _) ?_
      refine r_ialN hK to_114 rfl (by omega) (by decide) hz1 dX10_guide_128 ?_
      refine r_bipush (v := 16) hK dX10_guide_129 (by decide) ?_
      refine r_aload_n (i := 0) hK dX10_guide_131 rfl rfl ?_
      refine r_getA hK flX10_77 to_91 rfl dX10_guide_132 ?_
      refine r_iload (i := 7) hK dX10_guide_135 rfl ?_
      refine r_ialN hK to_113 rfl (by omega) (by decide) (hG w hw).2 dX10_guide_137 ?_
      refine r_imul hK dX10_guide_138 ?_
      refine r_iadd hK dX10_guide_139 ?_
      refine r_iconst (v := 1) hK dX10_guide_140 (by decide) ?_
      refine r_iadd hK dX10_guide_141 ?_
      refine r_top (y := nI (z + (16 * V.2 w + 1))) (mkey _ _) ?_
      refine r_aload_n (i := 0) hK dX10_guide_142 rfl rfl ?_
      refine r_getA hK flX10_80 to_91 rfl dX10_guide_143 ?_
      refine r_bipush (v := 10) hK dX10_guide_146 (by decide) ?_
      refine r_iload (i := 6) hK dX10_guide_148 rfl ?_
      refine r_imul hK dX10_guide_150 ?_
      refine r_top (y := nI (10 * set)) (pk_mul 10 _) ?_
      refine r_iload (i := 5) hK dX10_guide_151 rfl ?_
      refine r_iadd hK dX10_guide_153 ?_
      refine r_top (y := nI (10 * set + here)) (nI_add _ _) ?_
      refine r_ialN hK to_114 rfl (by omega) (by decide) hzh dX10_guide_154 ?_
      refine r_icmp_eq (tgt := 164) hK dX10_guide_155 (by decide) (fun h155 => ?_) (fun h155 => ?_)
      · exfalso
        have e9 : z + (16 * V.2 w + 1) = Kf here := nI_inj (by omega) (by omega) h155
        exact hno (ldB_iff.mp (B1_n.mp h103)) (by omega)
      · refine r_iincN (i := 7) hK hm dX10_guide_158 rfl (by decide) ?_
        refine r_goto (tgt := 93) hK dX10_guide_161 (by decide) ?_
        refine r_loc ?_ (ih (w + 1) (by omega))
        rfl
set_option maxHeartbeats 4000000 in
set_option maxRecDepth 100000 in
theorem lm_gk {K : KT} {ad : Nat → Nat} {g : St} {X : LN} (hX : MC g X) {V : VT} (hV : vOk X.1 X.2.2.1 V) (hG : MG g V X.2.2.1.1) {t : Nat} {Kf : Nat → Nat} (hKf : Kf = kP X.2.2.1 V FR t) (hZ : ZC g Kf X.2.2.1 V X.1 0) {a i n : Nat} (ha : a < X.1) (hl : Kf a < 1000000) (hn : ∀ k, k < n → gdA X.2.2.1 V Kf a k ≠ t) (hn2 : ∀ k, k ≤ n → gdA X.2.2.1 V Kf a k < X.1 ∧ Kf (gdA X.2.2.1 V Kf a k) + k ≤ Kf a) (hi : i < n) (hi6 : n ≤ 6) {x7 : Int32} (hK : Cx K RX10 cX10_guide 7 ad) (hm : K.2.2.1.2.maxLocals = 9) (hnn : Nn K 0 0)
    (h188 : Wp K 0 0 TT ad g 188 [(7, .int (nI (gdN X.2.2.1 V Kf (gdA X.2.2.1 V Kf a i))))] []) :
    ∀ m k, k + m = i → ∀ set, set < 64 → cdS X.2.2.1 V Kf set (gdA X.2.2.1 V Kf a k) → Wp K 0 0 TT ad g 84 [(0, .ref 91), (3, .int (nI i)), (5, .int (nI (gdA X.2.2.1 V Kf a k))), (6, .int (nI set)), (8, .int (nI k))] [] := by
  obtain ⟨hok, hpo, hlaw, x1, hW, hPs, x4⟩ := id hX
  have h10 := hok.2.1
  have h6 := hpo.1
  have hhm : ∀ p, p < X.2.2.1.1 → X.2.2.1.2.1 p < 10 := fun p hp => by have := (hpo.2 p hp).1; omega
  have core : ∀ k set, k ≤ i → set < 64 → cdS X.2.2.1 V Kf set (gdA X.2.2.1 V Kf a k) → (∀ set2, set2 < 64 → cdS X.2.2.1 V Kf set2 (gdA X.2.2.1 V Kf a (k + 1)) → Wp K 0 0 TT ad g 84 [(0, .ref 91), (3, .int (nI i)), (5, .int (nI (gdA X.2.2.1 V Kf a (k + 1)))), (6, .int (nI set2)), (7, .int (nI (gdN X.2.2.1 V Kf (gdA X.2.2.1 V Kf a k)))), (8, .int (nI (k + 1)))] []) → Wp K 0 0 TT ad g 84 [(0, .ref 91), (3, .int (nI i)), (5, .int (nI (gdA X.2.2.1 V Kf a k))), (6, .int (nI set)), (8, .int (nI k))] [] := by
    intro k set hki hset hcd hnext
    have hht := hn k (by omega)
    obtain ⟨hhn, hhk⟩ := hn2 k (by omega)
    have hhl : Kf (gdA X.2.2.1 V Kf a k) < 1000000 := by omega
    have hgd := gdN_is hV (F := FR) (t := t) hht (by rw [← hKf]; exact hhl)
    rw [← hKf] at hgd
    have hgs : gdA X.2.2.1 V Kf a (k + 1) = V.1 (gdN X.2.2.1 V Kf (gdA X.2.2.1 V Kf a k)) := rfl
    obtain ⟨here, hhe⟩ : ∃ h, h = gdA X.2.2.1 V Kf a k := ⟨_, rfl⟩
    rw [← hhe] at hgd hgs hht hhn hhk hhl hcd hnext ⊢
    obtain ⟨q, hq⟩ : ∃ q, q = gdN X.2.2.1 V Kf here := ⟨_, rfl⟩
    rw [← hq] at hgd hgs hnext
    obtain ⟨hq1, hq2, hq3, hq4⟩ := hgd
    have hor6 := bit6 hset (show q < 6 by omega)
    have hcd2 : cdS X.2.2.1 V Kf (set ||| 1 <<< q) (V.1 q) := cdS_step hcd hq2 (by omega)
    have ih2 := hnext (set ||| 1 <<< q) hor6 (by rw [hgs]; exact hcd2)
    rw [hgs] at ih2
    have hvq := (hV.2.2 q hq1).2.1 hq3
    have h164 : Wp K 0 0 TT ad g 164 [(0, .ref 91), (3, .int (nI i)), (5, .int (nI here)), (6, .int (nI set)), (8, .int (nI k)), (7, .int (nI q))] [] := by
      refine r_iload (i := 6) hK dX10_guide_164 rfl ?_
      refine r_iconst (v := 1) hK dX10_guide_166 (by decide) ?_
      refine r_iload (i := 7) hK dX10_guide_167 rfl ?_
      refine r_ishl hK dX10_guide_169 ?_
      refine r_ior hK dX10_guide_170 ?_
      refine r_top (y := nI (set ||| 1 <<< q)) (setbit (by omega)) ?_
      refine r_istore (i := 6) hK hm dX10_guide_171 (by decide) ?_
      refine r_aload_n (i := 0) hK dX10_guide_173 rfl rfl ?_
      refine r_getA hK flX10_74 to_91 rfl dX10_guide_174 ?_
      refine r_iload (i := 7) hK dX10_guide_177 rfl ?_
      refine r_ialN hK to_112 rfl (by omega) (by decide) ((hG q hq1).1.trans (enI_in hq3)) dX10_guide_179 ?_
      refine r_istore (i := 5) hK hm dX10_guide_180 (by decide) ?_
      refine r_iincN (i := 8) hK hm dX10_guide_182 rfl (by decide) ?_
      refine r_goto (tgt := 84) hK dX10_guide_185 (by decide) ?_
      refine r_loc ?_ ih2
      rfl
    refine r_iload (i := 8) hK dX10_guide_84 rfl ?_
    refine r_iload_n (i := 3) hK dX10_guide_86 rfl rfl ?_
    refine r_icmp_gt (tgt := 188) hK dX10_guide_87 (by decide) (fun h => absurd h (nI_nlt (show k ≤ i by omega) (by omega))) (fun _ => ?_)
    refine r_iconst (v := 0) hK dX10_guide_90 (by decide) ?_
    refine r_istore (i := 7) hK hm dX10_guide_91 (by decide) ?_
    refine r_loc ?_ (lm_gw (x3 := nI i) (x8 := nI k) hX hV hG hKf hZ hset hhn hht hcd hhl hq hK hm hnn h164 q 0 (by omega))
    rfl
  intro m
  induction m with
  | zero =>
    intro k hkm set hset hcd
    have e : k = i := by omega
    subst e
    refine core k set (Nat.le_refl _) hset hcd (fun set2 hs2 hc2 => ?_)
    refine r_iload (i := 8) hK dX10_guide_84 rfl ?_
    refine r_iload_n (i := 3) hK dX10_guide_86 rfl rfl ?_
    refine r_icmp_gt (tgt := 188) hK dX10_guide_87 (by decide) (fun _ => ?_) (fun h => absurd (nI_lt (Nat.lt_succ_self _) (by omega)) h)
    refine r_loc ?_ h188
    rfl
  | succ m ih =>
    intro k hkm set hset hcd
    refine core k set (by omega) hset hcd (fun set2 hs2 hc2 => ?_)
    refine r_loc ?_ (ih (k + 1) (by omega) set2 hs2 hc2)
    rfl
theorem isB_m1 {x : Int32} {n : Nat} (h : isB x n = true) : ¬ x = -1 := fun z => by
  have := (isB_pr h).1
  rw [z] at this
  exact this (by decide)
theorem gu_isB {x : Int32} {n : Nat} (hn : n < 2 ^ 31) (h : ¬ x < 0 ∧ x.toNatClampNeg < n) : isB x n = true := by
  obtain ⟨j, hj, rfl⟩ := nI_of h.1
  rw [nI_clamp hj] at h
  exact pr_isB ⟨nI_pos hj, nI_lt h.2 hn⟩
/-- the guides don't change with the far number -/
theorem gd_one {X : LN} (hok : wOk X.1 X.2.1) (hpo : pOk X.1 X.2.2.1 X.2.2.2.1 X.2.2.2.2.1) {t here : Nat} (hh : here < 10) (hl : kM X t here < FR) : gdN X.2.2.1 (vX X t false) (kM X t) here = gdN X.2.2.1 (vX X t false) (kX X t) here := by
  unfold gdN
  refine fdF_cg _ _ (fun p h1 h2 => ?_)
  have hV := vX_ok hok hpo t
  have k0 := kX_kM hok hpo t hh
  by_cases hv : (vX X t false).1 p < 10
  · have k1 := kX_kM hok hpo t hv
    have e : (kM X t ((vX X t false).1 p) + (16 * (vX X t false).2 p + 1) = kM X t here) ↔ (kX X t ((vX X t false).1 p) + (16 * (vX X t false).2 p + 1) = kX X t here) := by
      rw [k0.2 hl]
      by_cases z : kM X t ((vX X t false).1 p) < FR
      · rw [k1.2 z]
      · have z1 : ¬ kX X t ((vX X t false).1 p) < FC := fun q => z (k1.1.mp q)
        have z2 : kM X t here < 1000000 := hl
        have z3 : ¬ kM X t ((vX X t false).1 p) < 1000000 := z
        have z4 : ¬ kX X t ((vX X t false).1 p) < 1000000000 := z1
        constructor
        · intro q; omega
        · intro q; omega
    rw [decide_eq_decide.mpr e]
  · rw [decide_eq_false hv]
    rfl
theorem gd_kk {X : LN} (hok : wOk X.1 X.2.1) (hpo : pOk X.1 X.2.2.1 X.2.2.2.1 X.2.2.2.2.1) {t a n : Nat} (ha : a < X.1) (hl : kM X t a < FR) (i : Nat) (hi : i < n) (hn : ∀ k, k < n → gdA X.2.2.1 (vX X t false) (kM X t) a k ≠ t) (hn2 : ∀ k, k ≤ n → gdA X.2.2.1 (vX X t false) (kM X t) a k < X.1 ∧ kM X t (gdA X.2.2.1 (vX X t false) (kM X t) a k) + k ≤ kM X t a) : nI (gdN X.2.2.1 (vX X t false) (kM X t) (gdA X.2.2.1 (vX X t false) (kM X t) a i)) = nI (gdN X.2.2.1 (vX X t false) (kX X t) (gdA X.2.2.1 (vX X t false) (kX X t) a i)) := by
  have h10 := hok.2.1
  have hl2 : kM X t a < 1000000 := hl
  have hA : ∀ k, k ≤ n → gdA X.2.2.1 (vX X t false) (kM X t) a k = gdA X.2.2.1 (vX X t false) (kX X t) a k := by
    intro k
    induction k with
    | zero => intro _; rfl
    | succ k ih =>
      intro hk
      obtain ⟨q1, q2⟩ := hn2 k (by omega)
      show (vX X t false).1 (gdN _ _ _ (gdA _ _ _ _ _)) = (vX X t false).1 (gdN _ _ _ (gdA _ _ _ _ _))
      rw [← ih (by omega), gd_one hok hpo (by omega) (show kM X t _ < 1000000 by omega)]
  obtain ⟨q1, q2⟩ := hn2 i (by omega)
  rw [← hA i (by omega), gd_one hok hpo (by omega) (show kM X t _ < 1000000 by omega)]
set_option maxHeartbeats 4000000 in
set_option maxRecDepth 100000 in
theorem c_mGuide {ad : Nat → Nat} {g : St} {X : LN} (hX : MC g X) {a t i : Int32} : Ci 7 mX10_guide [.ref 91, .int a, .int t, .int i] ad g (fun v g' => v = aGui X a t i ∧ FM g g') := by
  obtain ⟨hok, hpo, hlaw, x1, hW, hPs, x4⟩ := id hX
  have h10 := hok.2.1
  have h6 := hpo.1
  have h14 := hok.1
  refine Cm.mk rfl (Nat.le_of_ble_eq_true rfl) (fun K hK hR hm hnn => ?_)
  refine r_aload_n (i := 0) hK dX10_guide_0 rfl rfl ?_
  refine r_iload_n (i := 1) hK dX10_guide_1 rfl rfl ?_
  refine r_ci1 hK hnn (c_misPlace x1 (by omega)) moX10_isPlace mlX10_256 to_91 rfl rfl dX10_guide_2 (Nat.le_of_ble_eq_true rfl) (Nat.le_of_ble_eq_true rfl) (eqI ?_)
  refine r_if_eq (tgt := 16) hK dX10_guide_5 (by decide) (fun h5 => ?_) (fun h5 => ?_)
  · refine r_ldc hK ckX10_242 dX10_guide_16 ?_
    refine q_iret hK hR dX10_guide_18 ?_
    refine ⟨?_, FM.rf⟩
    unfold aGui
    first
      | (rw [if_neg (by rw [B1_0.mp h5]; simp)]; done)
      | (rw [if_neg (by rw [B1_0.mp h13]; simp)]; done)
  · refine r_aload_n (i := 0) hK dX10_guide_8 rfl rfl ?_
    refine r_iload_n (i := 2) hK dX10_guide_9 rfl rfl ?_
    refine r_ci1 hK hnn (c_misPlace x1 (by omega)) moX10_isPlace mlX10_256 to_91 rfl rfl dX10_guide_10 (Nat.le_of_ble_eq_true rfl) (Nat.le_of_ble_eq_true rfl) (eqI ?_)
    refine r_if_ne (tgt := 19) hK dX10_guide_13 (by decide) (fun h13 => ?_) (fun h13 => ?_)
    · refine r_aload_n (i := 0) hK dX10_guide_19 rfl rfl ?_
      have hb1 := B1_n.mp h5
      have hb2 := B1_n.mp h13
      have hbb : (isB a X.1 && isB t X.1) = true := by rw [hb1, hb2]; rfl
      obtain ⟨ha1, ha2⟩ := isB_cl (by omega) hb1
      obtain ⟨ht1, ht2⟩ := isB_cl (by omega) hb2
      refine r_iload_n (i := 1) hK dX10_guide_20 rfl rfl ?_
      refine r_iload_n (i := 2) hK dX10_guide_21 rfl rfl ?_
      refine r_ci2 hK hnn (c_mSoonOf hX ha2 ha1 ht2 ht1) moX10_soonestOf mlX10_306 to_91 rfl rfl dX10_guide_22 (Nat.le_of_ble_eq_true rfl) (Nat.le_of_ble_eq_true rfl) (fun v22 g22 q22 => ?_)
      obtain ⟨hfr, hG, hZ, hv⟩ := q22
      obtain ⟨k1, k2⟩ := kX_kM hok hpo (nC t) (a := nC a) (Nat.lt_of_lt_of_le ha1 h10)
      refine r_if_ge (tgt := 30) hK dX10_guide_25 (by decide) (fun h25 => ?_) (fun h25 => ?_)
      · refine r_aload_n (i := 0) hK dX10_guide_30 rfl rfl ?_
        have hl : kM X (nC t) (nC a) < FR := by
          by_cases z : kM X (nC t) (nC a) < FR
          · exact z
          · rw [hv, if_neg z] at h25; exact absurd h25 (by decide)
        have hlm : kM X (nC t) (nC a) < 1000000 := hl
        refine r_getA hK flX10_80 to_91 rfl dX10_guide_31 ?_
        refine r_iload_n (i := 1) hK dX10_guide_34 rfl rfl ?_
        refine r_ialN hK to_114 ha2 (by omega) (by decide) (ZC_0 hZ ha1) dX10_guide_35 ?_
        refine r_bipush (v := 16) hK dX10_guide_36 (by decide) ?_
        refine r_irem hK dX10_guide_38 (by decide) ?_
        refine r_top (y := nI ((kM X (nC t) (nC a)) % 16)) (pk_rem (a := (kM X (nC t) (nC a))) (d := 16) (Nat.lt_trans hlm (by decide)) (by decide) (by decide)) ?_
        refine r_istore (i := 4) hK hm dX10_guide_39 (by decide) ?_
        refine r_iload_n (i := 3) hK dX10_guide_41 rfl rfl ?_
        refine r_iconst (v := (-1)) hK dX10_guide_42 (by decide) ?_
        refine r_icmp_eq (tgt := 60) hK dX10_guide_43 (by decide) (fun h43 => ?_) (fun h43 => ?_)
        · refine r_iload_n (i := 3) hK dX10_guide_60 rfl rfl ?_
          refine r_iconst (v := (-1)) hK dX10_guide_61 (by decide) ?_
          refine r_icmp_ne (tgt := 70) hK dX10_guide_62 (by decide) (fun h62 => ?_) (fun h62 => ?_)
          · refine r_iconst (v := (-1)) hK dX10_guide_70 (by decide) ?_
            refine q_iret hK hR dX10_guide_71 ?_
            refine ⟨?_, hfr⟩
            unfold aGui
            rw [if_pos hbb, if_pos (k1.mpr hl), k2 hl]
            first
              | (rw [if_pos h43]; done)
              | (rw [if_pos h62]; done)
              | exact absurd h43 h62
              | (rw [if_neg h43, if_neg (fun z => absurd (B1_0.mp h57) (by rw [gu_isB (by omega) z]; decide))]; done)
          · refine r_iload (i := 4) hK dX10_guide_65 rfl ?_
            refine r_goto (tgt := 71) hK dX10_guide_67 (by decide) ?_
            refine q_iret hK hR dX10_guide_71 ?_
            refine ⟨?_, hfr⟩
            unfold aGui
            rw [if_pos hbb, if_pos (k1.mpr hl), k2 hl]
            first
              | (rw [if_pos h43]; done)
              | (rw [if_pos h62]; done)
              | exact absurd h43 h62
              | (rw [if_neg h43, if_neg (fun z => absurd (B1_0.mp h57) (by rw [gu_isB (by omega) z]; decide))]; done)
        · refine r_iload_n (i := 3) hK dX10_guide_46 rfl rfl ?_
          refine r_i2l hK dX10_guide_47 ?_
          refine r_lconst (v := 0) hK dX10_guide_48 (by decide) ?_
          refine r_iload (i := 4) hK dX10_guide_49 rfl ?_
          refine r_iconst (v := 1) hK dX10_guide_51 (by decide) ?_
          refine r_isub hK dX10_guide_52 ?_
          refine r_i2l hK dX10_guide_53 ?_
          refine r_si3 hK hnn c_mIn moX10_in mlX10_124 dX10_guide_54 (Nat.le_of_ble_eq_true rfl) (Nat.le_of_ble_eq_true rfl) (eqI ?_)
          refine r_top (y := B1 (isB i ((kM X (nC t) (nC a)) % 16))) (congrArg B1 ((inL_b (lI := 0) (hI := nI ((kM X (nC t) (nC a)) % 16) - 1) rfl rfl).trans (bI_B (Nat.lt_of_lt_of_le (Nat.mod_lt _ (by decide)) (by decide))))) ?_
          refine r_if_ne (tgt := 72) hK dX10_guide_57 (by decide) (fun h57 => ?_) (fun h57 => ?_)
          · refine r_iload_n (i := 1) hK dX10_guide_72 rfl rfl ?_
            obtain ⟨hi1, hi2⟩ := isB_cl (by omega) (B1_n.mp h57)
            obtain ⟨n, hn6, hnt, hnn9, hnn2, hnm⟩ := gd_go (vX_ok hok hpo (nC t)) (F := FR) (t := nC t) ha1 hl
            have hin : i.toNatClampNeg < n := by rw [← hnm]; exact hi1
            have h188 : Wp K 0 0 TT ad g22 188 [(7, .int (nI (gdN X.2.2.1 (vX X (nC t) false) (kM X (nC t)) (gdA X.2.2.1 (vX X (nC t) false) (kM X (nC t)) (nC a) (nC i)))))] [] := by
              refine r_iload (i := 7) hK dX10_guide_188 rfl ?_
              refine q_iret hK hR dX10_guide_190 ?_
              refine ⟨?_, hfr⟩
              unfold aGui
              rw [if_pos hbb, if_pos (k1.mpr hl), k2 hl, if_neg (isB_m1 (B1_n.mp h57)), if_pos ⟨(isB_pr (B1_n.mp h57)).1, hi1⟩]
              exact gd_kk hok hpo ha1 hl (nC i) hin hnn9 hnn2
            refine r_istore (i := 5) hK hm dX10_guide_73 (by decide) ?_
            refine r_iconst (v := 0) hK dX10_guide_75 (by decide) ?_
            refine r_istore (i := 6) hK hm dX10_guide_76 (by decide) ?_
            refine r_iconst (v := (-1)) hK dX10_guide_78 (by decide) ?_
            refine r_istore (i := 7) hK hm dX10_guide_79 (by decide) ?_
            refine r_iconst (v := 0) hK dX10_guide_81 (by decide) ?_
            refine r_istore (i := 8) hK hm dX10_guide_82 (by decide) ?_
            refine r_loc ?_ (lm_gk (MC_of hX hfr) (vX_ok hok hpo (nC t)) hG rfl hZ ha1 hlm hnn9 hnn2 hin hn6 (x7 := -1) hK hm hnn h188 (nC i) 0 (Nat.zero_add _) 0 (by omega) cdS_0)
            simp only [List.map_cons, List.map_nil]
            rw [← hi2]
            exact congrArg (fun z => [some (Value.ref 91), some (.int i), some (.int z), some (.int 0), some (.int 0)]) ha2
          · refine r_iload_n (i := 3) hK dX10_guide_60 rfl rfl ?_
            refine r_iconst (v := (-1)) hK dX10_guide_61 (by decide) ?_
            refine r_icmp_ne (tgt := 70) hK dX10_guide_62 (by decide) (fun h62 => ?_) (fun h62 => ?_)
            · refine r_iconst (v := (-1)) hK dX10_guide_70 (by decide) ?_
              refine q_iret hK hR dX10_guide_71 ?_
              refine ⟨?_, hfr⟩
              unfold aGui
              rw [if_pos hbb, if_pos (k1.mpr hl), k2 hl]
              first
                | (rw [if_pos h43]; done)
                | (rw [if_pos h62]; done)
                | exact absurd h43 h62
                | (rw [if_neg h43, if_neg (fun z => absurd (B1_0.mp h57) (by rw [gu_isB (by omega) z]; decide))]; done)
            · refine r_iload (i := 4) hK dX10_guide_65 rfl ?_
              refine r_goto (tgt := 71) hK dX10_guide_67 (by decide) ?_
              refine q_iret hK hR dX10_guide_71 ?_
              refine ⟨?_, hfr⟩
              unfold aGui
              rw [if_pos hbb, if_pos (k1.mpr hl), k2 hl]
              first
                | (rw [if_pos h43]; done)
                | (rw [if_pos h62]; done)
                | exact absurd h43 h62
                | (rw [if_neg h43, if_neg (fun z => absurd (B1_0.mp h57) (by rw [gu_isB (by omega) z]; decide))]; done)
      · refine r_iconst (v := (-1)) hK dX10_guide_28 (by decide) ?_
        refine q_iret hK hR dX10_guide_29 ?_
        refine ⟨?_, hfr⟩
        unfold aGui
        have hl : ¬ kM X (nC t) (nC a) < FR := fun z => h25 (by rw [hv, if_pos z]; exact nI_pos' (Nat.lt_of_le_of_lt (Nat.div_le_self _ _) (Nat.lt_trans z (by decide))))
        rw [if_pos hbb, if_neg (fun z => hl (k1.mp z))]
    · refine r_ldc hK ckX10_242 dX10_guide_16 ?_
      refine q_iret hK hR dX10_guide_18 ?_
      refine ⟨?_, FM.rf⟩
      unfold aGui
      first
        | (rw [if_neg (by rw [B1_0.mp h5]; simp)]; done)
        | (rw [if_neg (by rw [B1_0.mp h13]; simp)]; done)
