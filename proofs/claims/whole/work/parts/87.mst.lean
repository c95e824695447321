/-! THE MODEL: draw, and how a stranger goes -/
/-- a question that draws: the seed after it -/
def FW (g : St) (s : Nat) (g' : St) : Prop := (∀ j, (j ≤ 90 ∨ (92 ≤ j ∧ j ≤ 108) ∨ 119 ≤ j) → g'.1 j = g.1 j) ∧ (∀ k, mScr k = false → k ≠ 12 → g'.1 91 k = g.1 91 k) ∧ (∀ j, j ≠ 118 → g'.2 j = g.2 j) ∧ g'.1 91 12 = nI s
theorem FW_rf {g : St} {s : Nat} (h : g.1 91 12 = nI s) : FW g s g := ⟨fun _ _ => rfl, fun _ _ _ => rfl, fun _ _ => rfl, h⟩
theorem FW.tr {g g' g2 : St} {s : Nat} (h : FW g s g') (h2 : FM g' g2) : FW g s g2 := ⟨fun j hj => (h2.1 j hj).trans (h.1 j hj), fun k hk h12 => (h2.2.1 k hk).trans (h.2.1 k hk h12), fun j hj => (h2.2.2 j hj).trans (h.2.2.1 j hj), (h2.2.1 12 rfl).trans h.2.2.2⟩
theorem FW.trw {g g' g2 : St} {s s2 : Nat} (h : FW g s g') (h2 : FW g' s2 g2) : FW g s2 g2 := ⟨fun j hj => (h2.1 j hj).trans (h.1 j hj), fun k hk h12 => (h2.2.1 k hk h12).trans (h.2.1 k hk h12), fun j hj => (h2.2.2.1 j hj).trans (h.2.2.1 j hj), h2.2.2.2⟩
theorem FW_up {g : St} {s : Nat} : FW g s (upI g 91 12 (nI s)) := ⟨fun j hj => upI_n (by omega), fun k _ h12 => upd_n2 h12, fun _ _ => rfl, by rw [upI_s, upd_s]⟩
theorem MC_fw {g g' : St} {X : LN} {s : Nat} (h : MC g X) (hf : FW g s g') : MC g' X := by
  obtain ⟨h1, h2, h3, h4, h5, h6, h7⟩ := h
  refine ⟨h1, h2, h3, by rw [hf.2.1 0 rfl (by decide)]; exact h4, ?_, ?_, by rw [hf.2.1 11 rfl (by decide)]; exact h7⟩
  · unfold MWC at *
    rw [hf.2.1 1 rfl (by decide), hf.1 92 (by omega), hf.1 93 (by omega), hf.1 94 (by omega)]; exact h5
  · unfold MPC at *
    rw [hf.2.1 5 rfl (by decide), hf.1 95 (by omega), hf.1 96 (by omega), hf.1 97 (by omega), hf.1 98 (by omega), hf.1 99 (by omega)]; exact h6
/-- the seed alone has changed -/
def FU (g : St) (s : Nat) (g' : St) : Prop := (∀ j, j ≠ 91 → g'.1 j = g.1 j) ∧ (∀ k, k ≠ 12 → g'.1 91 k = g.1 91 k) ∧ (∀ j, g'.2 j = g.2 j) ∧ g'.1 91 12 = nI s
theorem FU.fw {g g' : St} {s : Nat} (h : FU g s g') : FW g s g' := ⟨fun j hj => h.1 j (by omega), fun k _ h12 => h.2.1 k h12, fun j _ => h.2.2.1 j, h.2.2.2⟩
theorem FU_rf {g : St} {s : Nat} (h : g.1 91 12 = nI s) : FU g s g := ⟨fun _ _ => rfl, fun _ _ => rfl, fun _ => rfl, h⟩
theorem FU.up {g g' : St} {s s2 : Nat} (h : FU g s g') : FU g s2 (upI g' 91 12 (nI s2)) := ⟨fun j hj => (upI_n hj).trans (h.1 j hj), fun k hk => (upd_n2 hk).trans (h.2.1 k hk), h.2.2.1, by rw [upI_s, upd_s]⟩
theorem MG_fu {g g' : St} {V : VT} {n s : Nat} (h : MG g V n) (hf : FU g s g') : MG g' V n := by
  intro q hq
  rw [hf.1 112 (by decide), hf.1 113 (by decide)]; exact h q hq
theorem cn_le {b : Nat → Bool} : ∀ (m p : Nat), sp_cn b p ≤ sp_cn b (p + m)
  | 0, _ => Nat.le_refl _
  | m + 1, p => by rw [← Nat.add_assoc, sp_cn_succ]; exact Nat.le_trans (cn_le m p) (Nat.le_add_right _ _)

set_option maxHeartbeats 4000000 in
set_option maxRecDepth 100000 in
theorem c_mDraw {ad : Nat → Nat} {g : St} {s n : Nat} {x : Int32} (hsd : g.1 91 12 = nI s) (hs : s < 2147483648) (hx : x = nI n) (h1 : 1 ≤ n) (hn : n < 2 ^ 31) : Ci 1 mX10_draw [.ref 91, .int x] ad g (fun v g' => v = nI (sdN s / 65536 % n) ∧ g' = upI g 91 12 (nI (sdN s))) := by
  subst hx
  have hlt := sdN_lt (s := s)
  refine Cm.mk rfl (Nat.le_of_ble_eq_true rfl) (fun K hK hR hm hnn => ?_)
  refine r_aload_n (i := 0) hK dX10_draw_0 rfl rfl ?_
  refine r_aload_n (i := 0) hK dX10_draw_1 rfl rfl ?_
  refine r_getI hK flX10_355 to_91 rfl dX10_draw_2 ?_
  refine r_top (y := nI s) hsd ?_
  refine r_i2l hK dX10_draw_5 ?_
  refine r_topL (y := lN s) (nI_l hs) ?_
  refine r_ldc2 hK ckX10_358 dX10_draw_6 ?_
  refine r_lmul hK dX10_draw_9 ?_
  refine r_topL (y := lN (s * 1103515245)) (lN_mul _ _) ?_
  refine r_ldc2 hK ckX10_360 dX10_draw_10 ?_
  refine r_ladd hK dX10_draw_13 ?_
  refine r_topL (y := lN (s * 1103515245 + 12345)) (lN_add _ _) ?_
  refine r_ldc2 hK ckX10_362 dX10_draw_14 ?_
  refine r_lrem hK dX10_draw_17 (by decide) ?_
  refine r_topL (y := lN (sdN s)) (pk_lRem (a := s * 1103515245 + 12345) (b := 2147483648) (by omega) (by decide) (by decide)) ?_
  refine r_l2i hK dX10_draw_18 ?_
  refine r_top (y := nI (sdN s)) (lN_i _) ?_
  refine r_putI hK flX10_355 ft10_12 to_91 rfl dX10_draw_19 ?_
  refine r_aload_n (i := 0) hK dX10_draw_22 rfl rfl ?_
  refine r_getI hK flX10_355 to_91 rfl dX10_draw_23 ?_
  refine r_top (y := nI (sdN s)) (by rw [upI_s, upd_s]) ?_
  refine r_ldcw hK ckX10_364 dX10_draw_26 ?_
  refine r_idiv hK dX10_draw_29 (by decide) ?_
  refine r_top (y := nI (sdN s / 65536)) (by rw [show (65536 : Int32) = nI 65536 from rfl, pk_div hlt (by decide) (by decide)]) ?_
  refine r_iload_n (i := 1) hK dX10_draw_30 rfl rfl ?_
  refine r_irem hK dX10_draw_31 (nI_ne0 (by omega) hn) ?_
  refine q_iret hK hR dX10_draw_32 ?_
  refine ⟨?_, rfl⟩
  rw [pk_rem (Nat.lt_of_le_of_lt (Nat.div_le_self _ _) sdN_lt) (by omega) hn]
set_option maxHeartbeats 4000000 in
set_option maxRecDepth 100000 in
theorem lm_who {K : KT} {ad : Nat → Nat} {g : St} {X : LN} (hPs : MPC g X.2.2.1 X.2.2.2.1 X.2.2.2.2.1) (h6 : X.2.2.1.1 ≤ 6) (hhm : ∀ p, p < X.2.2.1.1 → X.2.2.1.2.1 p < 10) {V : VT} (hG : MG g V X.2.2.1.1) {set here : Nat} {x2 x4 : Int32} (hs : set < 2 ^ 31) (hh : here < 2 ^ 31) {b : Nat → Bool} (hb : ∀ p, b p = ldB X.2.2.1 V here set p) {i q : Nat} (hq : q < X.2.2.1.1) (hbq : b q = true) (hcq : sp_cn b q = i) (hi : i ≤ 6) (hK : Cx K RX10 cX10_strangerBy 6 ad) (hm : K.2.2.1.2.maxLocals = 8) (hnn : Nn K 0 0)
    (h103 : Wp K 0 0 TT ad g 103 [(0, .ref 91), (1, .int (nI here)), (2, .int x2), (3, .int (nI set)), (4, .int x4), (7, .int (nI q))] []) :
    ∀ m p, p + m = q → Wp K 0 0 TT ad g 60 [(0, .ref 91), (1, .int (nI here)), (2, .int x2), (3, .int (nI set)), (4, .int x4), (6, .int (nI (i - sp_cn b p))), (7, .int (nI p))] [] := by
  intro m
  induction m with
  | zero =>
    intro p hpm
    have e : p = q := by omega
    subst e
    have hp := hq
    refine r_aload_n (i := 0) hK dX10_strangerBy_60 rfl rfl ?_
    refine r_iload (i := 7) hK dX10_strangerBy_61 rfl ?_
    refine r_iload_n (i := 3) hK dX10_strangerBy_63 rfl rfl ?_
    refine r_iload_n (i := 1) hK dX10_strangerBy_64 rfl rfl ?_
    refine r_ci3 hK hnn (c_mLeads hPs h6 hhm hG rfl hp rfl hs rfl hh) moX10_leads mlX10_299 to_91 rfl rfl dX10_strangerBy_65 (Nat.le_of_ble_eq_true rfl) (Nat.le_of_ble_eq_true rfl) (eqI ?_)
    refine r_if_eq (tgt := 76) hK dX10_strangerBy_68 (by decide) (fun h => absurd h (by rw [← hb, hbq]; decide)) (fun _ => ?_)
    refine r_iload (i := 6) hK dX10_strangerBy_71 rfl ?_
    refine r_if_le (tgt := 103) hK dX10_strangerBy_73 (by decide) (fun _ => ?_) (fun h => absurd (by rw [hcq, Nat.sub_self]; decide) h)
    refine r_loc ?_ h103
    rfl
  | succ m ih =>
    intro p hpm
    have hp : p < X.2.2.1.1 := by omega
    have hl0 := cn_le (b := b) m (p + 1)
    rw [show p + 1 + m = q by omega, hcq, sp_cn_succ, hb] at hl0
    have hl1 : ldB X.2.2.1 V here set p = true → 1 ≤ i - sp_cn b p := fun z => by rw [if_pos z] at hl0; omega
    have hle : ldB X.2.2.1 V here set p = true → ¬ nI (i - sp_cn b p) ≤ 0 := fun z => by
      have := hl1 z
      rw [Int32.le_iff_toInt_le, nI_toInt (by omega)]
      have e : (0 : Int32).toInt = 0 := by decide
      omega
    refine r_aload_n (i := 0) hK dX10_strangerBy_60 rfl rfl ?_
    refine r_iload (i := 7) hK dX10_strangerBy_61 rfl ?_
    refine r_iload_n (i := 3) hK dX10_strangerBy_63 rfl rfl ?_
    refine r_iload_n (i := 1) hK dX10_strangerBy_64 rfl rfl ?_
    refine r_ci3 hK hnn (c_mLeads hPs h6 hhm hG rfl hp rfl hs rfl hh) moX10_leads mlX10_299 to_91 rfl rfl dX10_strangerBy_65 (Nat.le_of_ble_eq_true rfl) (Nat.le_of_ble_eq_true rfl) (eqI ?_)
    refine r_if_eq (tgt := 76) hK dX10_strangerBy_68 (by decide) (fun h68 => ?_) (fun h68 => ?_)
    · refine r_iload (i := 6) hK dX10_strangerBy_76 rfl ?_
      refine r_aload_n (i := 0) hK dX10_strangerBy_78 rfl rfl ?_
      refine r_iload (i := 7) hK dX10_strangerBy_79 rfl ?_
      refine r_iload_n (i := 3) hK dX10_strangerBy_81 rfl rfl ?_
      refine r_iload_n (i := 1) hK dX10_strangerBy_82 rfl rfl ?_
      refine r_ci3 hK hnn (c_mLeads hPs h6 hhm hG rfl hp rfl hs rfl hh) moX10_leads mlX10_299 to_91 rfl rfl dX10_strangerBy_83 (Nat.le_of_ble_eq_true rfl) (Nat.le_of_ble_eq_true rfl) (eqI ?_)
      refine r_if_eq (tgt := 93) hK dX10_strangerBy_86 (by decide) (fun _ => ?_) (fun h => absurd h68 h)
      refine r_iconst (v := 0) hK dX10_strangerBy_93 (by decide) ?_
      refine r_isub hK dX10_strangerBy_94 ?_
      refine r_top (y := nI (i - sp_cn b (p + 1))) ?_ ?_
      · rw [sp_cn_succ, hb]
        first
          | (rw [if_neg (show ¬ ldB X.2.2.1 V here set p = true by rw [B1_0.mp h68]; decide)]; exact Int32.sub_zero _)
          | (rw [if_pos (B1_n.mp h68), ← Nat.sub_sub]; exact pk_sub (a := i - sp_cn b p) (b := 1) (hl1 (B1_n.mp h68)))
      refine r_istore (i := 6) hK hm dX10_strangerBy_95 (by decide) ?_
      refine r_iincN (i := 7) hK hm dX10_strangerBy_97 rfl (by decide) ?_
      refine r_goto (tgt := 60) hK dX10_strangerBy_100 (by decide) ?_
      refine r_loc ?_ (ih (p + 1) (by omega))
      rfl
    · refine r_iload (i := 6) hK dX10_strangerBy_71 rfl ?_
      refine r_if_le (tgt := 103) hK dX10_strangerBy_73 (by decide) (fun h => absurd h (hle (B1_n.mp h68))) (fun _ => ?_)
      refine r_iload (i := 6) hK dX10_strangerBy_76 rfl ?_
      refine r_aload_n (i := 0) hK dX10_strangerBy_78 rfl rfl ?_
      refine r_iload (i := 7) hK dX10_strangerBy_79 rfl ?_
      refine r_iload_n (i := 3) hK dX10_strangerBy_81 rfl rfl ?_
      refine r_iload_n (i := 1) hK dX10_strangerBy_82 rfl rfl ?_
      refine r_ci3 hK hnn (c_mLeads hPs h6 hhm hG rfl hp rfl hs rfl hh) moX10_leads mlX10_299 to_91 rfl rfl dX10_strangerBy_83 (Nat.le_of_ble_eq_true rfl) (Nat.le_of_ble_eq_true rfl) (eqI ?_)
      refine r_if_eq (tgt := 93) hK dX10_strangerBy_86 (by decide) (fun h => absurd h h68) (fun _ => ?_)
      refine r_iconst (v := 1) hK dX10_strangerBy_89 (by decide) ?_
      refine r_goto (tgt := 94) hK dX10_strangerBy_90 (by decide) ?_
      refine r_isub hK dX10_strangerBy_94 ?_
      refine r_top (y := nI (i - sp_cn b (p + 1))) ?_ ?_
      · rw [sp_cn_succ, hb]
        first
          | (rw [if_neg (show ¬ ldB X.2.2.1 V here set p = true by rw [B1_0.mp h68]; decide)]; exact Int32.sub_zero _)
          | (rw [if_pos (B1_n.mp h68), ← Nat.sub_sub]; exact pk_sub (a := i - sp_cn b p) (b := 1) (hl1 (B1_n.mp h68)))
      refine r_istore (i := 6) hK hm dX10_strangerBy_95 (by decide) ?_
      refine r_iincN (i := 7) hK hm dX10_strangerBy_97 rfl (by decide) ?_
      refine r_goto (tgt := 60) hK dX10_strangerBy_100 (by decide) ?_
      refine r_loc ?_ (ih (p + 1) (by omega))
      rfl
set_option maxHeartbeats 4000000 in
set_option maxRecDepth 100000 in
theorem lm_st {K : KT} {ad : Nat → Nat} {g : St} {X : LN} (hX : MC g X) {V : VT} (hV : vOk X.1 X.2.2.1 V) (hG : MG g V X.2.2.1.1) {t : Nat} (ht : t < X.1) (hK : Cx K RX10 cX10_strangerBy 6 ad) (hm : K.2.2.1.2.maxLocals = 8) (hnn : Nn K 0 0) {R : LSt}
    {Qx : Int32 → St → Prop} (hR : Rt K 0 0 TT ad (some .int) (Qi ad Qx)) (hq : ∀ v g', v = (if R.2.1 = t then nI R.2.2.1 else -1) ∧ FU g R.2.2.2.2 g' → Qx v g') :
    ∀ n (S : LSt), frS X.2.2.1 S.1 ≤ n → S.1 < 64 → S.2.1 < X.1 → S.2.2.2.2 < 2147483648 → ldF X.2.2.1 V t true n S = R → ∀ g1 : St, FU g S.2.2.2.2 g1 → Wp K 0 0 TT ad g1 29 [(0, .ref 91), (1, .int (nI S.2.1)), (2, .int (nI t)), (3, .int (nI S.1)), (4, .int (nI S.2.2.1))] [] := by
  obtain ⟨hok, hpo, hlaw, x1, hW, hPs, x4⟩ := id hX
  have h10 := hok.2.1
  have h6 := hpo.1
  have hhm : ∀ p, p < X.2.2.1.1 → X.2.2.1.2.1 p < 10 := fun p hp => by have := (hpo.2 p hp).1; omega
  intro n
  induction n with
  | zero =>
    intro S hfr hs hh hsd hw g1 hf
    have hG1 := MG_fu hG hf
    have hPs1 := (MC_fw hX hf.fw).2.2.2.2.2.1
    by_cases hst : S.2.1 = t
    ·
      have hw2 : S = R := by exact hw
      subst hw2
      refine r_iload_n (i := 1) hK dX10_strangerBy_29 rfl rfl ?_
      refine r_iload_n (i := 2) hK dX10_strangerBy_30 rfl rfl ?_
      refine r_icmp_eq (tgt := 133) hK dX10_strangerBy_31 (by decide) (fun _ => ?_) (fun h => absurd (by rw [hst]) h)
      refine r_iload (i := 4) hK dX10_strangerBy_133 rfl ?_
      refine q_iret hK hR dX10_strangerBy_135 (hq _ _ ⟨(if_pos hst).symm, hf⟩)
    · have hM : ldM X.2.2.1 V S = 0 := cn_fd.mpr (fun z => by
        have hb := fdF_at (p := ldB X.2.2.1 V S.2.1 S.1) X.2.2.1.1 0 (by omega)
        have := frS_lt (P := X.2.2.1) (set := S.1) z (ldB_iff.mp hb).2.2
        omega)
      have hw2 : S = R := hw
      subst hw2
      refine r_iload_n (i := 1) hK dX10_strangerBy_29 rfl rfl ?_
      refine r_iload_n (i := 2) hK dX10_strangerBy_30 rfl rfl ?_
      refine r_icmp_eq (tgt := 133) hK dX10_strangerBy_31 (by decide) (fun h => absurd h (fun z => hst (nI_inj (by omega) (by omega) z))) (fun _ => ?_)
      refine r_aload_n (i := 0) hK dX10_strangerBy_34 rfl rfl ?_
      refine r_iload_n (i := 3) hK dX10_strangerBy_35 rfl rfl ?_
      refine r_iload_n (i := 1) hK dX10_strangerBy_36 rfl rfl ?_
      refine r_ci2 hK hnn (c_mCount hPs1 h6 hhm hG1 rfl (by omega) rfl (by omega)) moX10_countLeads mlX10_320 to_91 rfl rfl dX10_strangerBy_37 (Nat.le_of_ble_eq_true rfl) (Nat.le_of_ble_eq_true rfl) (eqI ?_)
      refine r_top (y := nI (ldM X.2.2.1 V S)) rfl ?_
      refine r_istore (i := 5) hK hm dX10_strangerBy_40 (by decide) ?_
      refine r_iload (i := 5) hK dX10_strangerBy_42 rfl ?_
      refine r_if_ne (tgt := 49) hK dX10_strangerBy_44 (by decide) (fun h => absurd (by rw [hM]; rfl) h) (fun _ => ?_)
      refine r_iconst (v := (-1)) hK dX10_strangerBy_47 (by decide) ?_
      refine q_iret hK hR dX10_strangerBy_48 ?_
      exact hq _ _ ⟨(if_neg hst).symm, hf⟩
  | succ n ih =>
    intro S hfr hs hh hsd hw g1 hf
    have hG1 := MG_fu hG hf
    have hPs1 := (MC_fw hX hf.fw).2.2.2.2.2.1
    by_cases hst : S.2.1 = t
    ·
      have hw2 : S = R := by rw [← hw, ldF_succ, if_pos hst]
      subst hw2
      refine r_iload_n (i := 1) hK dX10_strangerBy_29 rfl rfl ?_
      refine r_iload_n (i := 2) hK dX10_strangerBy_30 rfl rfl ?_
      refine r_icmp_eq (tgt := 133) hK dX10_strangerBy_31 (by decide) (fun _ => ?_) (fun h => absurd (by rw [hst]) h)
      refine r_iload (i := 4) hK dX10_strangerBy_133 rfl ?_
      refine q_iret hK hR dX10_strangerBy_135 (hq _ _ ⟨(if_pos hst).symm, hf⟩)
    · by_cases hM : ldM X.2.2.1 V S = 0
      · have hw2 : S = R := by rw [← hw, ldF_succ, if_neg hst, if_pos hM]
        subst hw2
        refine r_iload_n (i := 1) hK dX10_strangerBy_29 rfl rfl ?_
        refine r_iload_n (i := 2) hK dX10_strangerBy_30 rfl rfl ?_
        refine r_icmp_eq (tgt := 133) hK dX10_strangerBy_31 (by decide) (fun h => absurd h (fun z => hst (nI_inj (by omega) (by omega) z))) (fun _ => ?_)
        refine r_aload_n (i := 0) hK dX10_strangerBy_34 rfl rfl ?_
        refine r_iload_n (i := 3) hK dX10_strangerBy_35 rfl rfl ?_
        refine r_iload_n (i := 1) hK dX10_strangerBy_36 rfl rfl ?_
        refine r_ci2 hK hnn (c_mCount hPs1 h6 hhm hG1 rfl (by omega) rfl (by omega)) moX10_countLeads mlX10_320 to_91 rfl rfl dX10_strangerBy_37 (Nat.le_of_ble_eq_true rfl) (Nat.le_of_ble_eq_true rfl) (eqI ?_)
        refine r_top (y := nI (ldM X.2.2.1 V S)) rfl ?_
        refine r_istore (i := 5) hK hm dX10_strangerBy_40 (by decide) ?_
        refine r_iload (i := 5) hK dX10_strangerBy_42 rfl ?_
        refine r_if_ne (tgt := 49) hK dX10_strangerBy_44 (by decide) (fun h => absurd (by rw [hM]; rfl) h) (fun _ => ?_)
        refine r_iconst (v := (-1)) hK dX10_strangerBy_47 (by decide) ?_
        refine q_iret hK hR dX10_strangerBy_48 ?_
        exact hq _ _ ⟨(if_neg hst).symm, hf⟩
      · have hw3 : ldF X.2.2.1 V t true n (ldS X.2.2.1 V true S) = R := by rw [← hw, ldF_succ, if_neg hst, if_neg hM]
        obtain ⟨hp9, hb1, hv9, hb3⟩ := ldP_is (dr := true) hM
        have hM6 : ldM X.2.2.1 V S ≤ X.2.2.1.1 := sp_cn_le _ _
        unfold ldS at hw3
        rw [ldP_D] at hw3 hp9 hb1 hv9 hb3
        rw [if_pos rfl] at hw3
        obtain ⟨s9, hs9⟩ : ∃ s, s = sdN S.2.2.2.2 := ⟨_, rfl⟩
        have hs9l : s9 < 2147483648 := by rw [hs9]; exact sdN_lt
        rw [← hs9] at hw3 hp9 hb1 hv9 hb3
        obtain ⟨i, hi9⟩ : ∃ i, i = s9 / 65536 % ldM X.2.2.1 V S := ⟨_, rfl⟩
        have him : i < ldM X.2.2.1 V S := by rw [hi9]; exact Nat.mod_lt _ (by omega)
        rw [← hi9] at hw3 hp9 hb1 hv9 hb3
        obtain ⟨-, hbp, hcp⟩ := ldI_is (b := ldB X.2.2.1 V S.2.1 S.1) (n := X.2.2.1.1) (i := i) him
        obtain ⟨p, hpe⟩ : ∃ p, p = ldI (ldB X.2.2.1 V S.2.1 S.1) X.2.2.1.1 i := ⟨_, rfl⟩
        rw [← hpe] at hw3 hp9 hb1 hv9 hb3 hbp hcp
        have hp := hp9
        have hv10 : V.1 p < 10 := hv9
        have hf9 := frS_lt (P := X.2.2.1) (set := S.1) hp hb3
        have hf2 : FU g s9 (upI g1 91 12 (nI s9)) := hf.up
        have hG2 := MG_fu hG hf2
        have hPs2 := (MC_fw hX hf2.fw).2.2.2.2.2.1
        have ih2 := ih (S.1 ||| 1 <<< p, V.1 p, S.2.2.1 + V.2 p, S.2.2.2.1 + 1, s9) (by show frS _ (S.1 ||| 1 <<< p) ≤ n; omega) (bit6 hs (by omega)) ((hV.2.2 p hp).2.1 hv10) hs9l hw3
        have h103 : Wp K 0 0 TT ad (upI g1 91 12 (nI s9)) 103 [(0, .ref 91), (1, .int (nI S.2.1)), (2, .int (nI t)), (3, .int (nI S.1)), (4, .int (nI S.2.2.1)), (7, .int (nI p))] [] := by
          refine r_iload_n (i := 3) hK dX10_strangerBy_103 rfl rfl ?_
          refine r_iconst (v := 1) hK dX10_strangerBy_104 (by decide) ?_
          refine r_iload (i := 7) hK dX10_strangerBy_105 rfl ?_
          refine r_ishl hK dX10_strangerBy_107 ?_
          refine r_ior hK dX10_strangerBy_108 ?_
          refine r_top (y := nI (S.1 ||| 1 <<< p)) (setbit (by omega)) ?_
          refine r_istore_n (i := 3) hK hm dX10_strangerBy_109 rfl (by decide) ?_
          refine r_iload (i := 4) hK dX10_strangerBy_110 rfl ?_
          refine r_aload_n (i := 0) hK dX10_strangerBy_112 rfl rfl ?_
          refine r_getA hK flX10_77 to_91 rfl dX10_strangerBy_113 ?_
          refine r_iload (i := 7) hK dX10_strangerBy_116 rfl ?_
          refine r_ialN hK to_113 rfl (by omega) (by decide) (hG2 p hp).2 dX10_strangerBy_118 ?_
          refine r_iadd hK dX10_strangerBy_119 ?_
          refine r_top (y := nI (S.2.2.1 + V.2 p)) (nI_add _ _) ?_
          refine r_istore (i := 4) hK hm dX10_strangerBy_120 (by decide) ?_
          refine r_aload_n (i := 0) hK dX10_strangerBy_122 rfl rfl ?_
          refine r_getA hK flX10_74 to_91 rfl dX10_strangerBy_123 ?_
          refine r_iload (i := 7) hK dX10_strangerBy_126 rfl ?_
          refine r_ialN hK to_112 rfl (by omega) (by decide) ((hG2 p hp).1.trans (enI_in hv10)) dX10_strangerBy_128 ?_
          refine r_istore_n (i := 1) hK hm dX10_strangerBy_129 rfl (by decide) ?_
          refine r_goto (tgt := 29) hK dX10_strangerBy_130 (by decide) ?_
          refine r_loc ?_ (ih2 _ hf2)
          rfl
        refine r_iload_n (i := 1) hK dX10_strangerBy_29 rfl rfl ?_
        refine r_iload_n (i := 2) hK dX10_strangerBy_30 rfl rfl ?_
        refine r_icmp_eq (tgt := 133) hK dX10_strangerBy_31 (by decide) (fun h => absurd h (fun z => hst (nI_inj (by omega) (by omega) z))) (fun _ => ?_)
        refine r_aload_n (i := 0) hK dX10_strangerBy_34 rfl rfl ?_
        refine r_iload_n (i := 3) hK dX10_strangerBy_35 rfl rfl ?_
        refine r_iload_n (i := 1) hK dX10_strangerBy_36 rfl rfl ?_
        refine r_ci2 hK hnn (c_mCount hPs1 h6 hhm hG1 rfl (by omega) rfl (by omega)) moX10_countLeads mlX10_320 to_91 rfl rfl dX10_strangerBy_37 (Nat.le_of_ble_eq_true rfl) (Nat.le_of_ble_eq_true rfl) (eqI ?_)
        refine r_top (y := nI (ldM X.2.2.1 V S)) rfl ?_
        refine r_istore (i := 5) hK hm dX10_strangerBy_40 (by decide) ?_
        refine r_iload (i := 5) hK dX10_strangerBy_42 rfl ?_
        refine r_if_ne (tgt := 49) hK dX10_strangerBy_44 (by decide) (fun _ => ?_) (fun h => absurd h (nI_ne0 (by omega) (by omega)))
        refine r_aload_n (i := 0) hK dX10_strangerBy_49 rfl rfl ?_
        refine r_iload (i := 5) hK dX10_strangerBy_50 rfl ?_
        refine r_ci1 hK hnn (c_mDraw hf.2.2.2 hsd rfl (by omega) (by omega)) moX10_draw mlX10_365 to_91 rfl rfl dX10_strangerBy_52 (Nat.le_of_ble_eq_true rfl) (Nat.le_of_ble_eq_true rfl) (eqI ?_)
        rw [← hs9, ← hi9]
        refine r_istore (i := 6) hK hm dX10_strangerBy_55 (by decide) ?_
        refine r_iconst (v := 0) hK dX10_strangerBy_57 (by decide) ?_
        refine r_istore (i := 7) hK hm dX10_strangerBy_58 (by decide) ?_
        have hwho := lm_who (x2 := nI t) (x4 := nI S.2.2.1) hPs2 h6 hhm hG2 (set := S.1) (here := S.2.1) (by omega) (by omega) (b := ldB X.2.2.1 V S.2.1 S.1) (fun p => rfl) hp hbp hcp (by omega) hK hm hnn h103 p 0 (by omega)
        refine r_loc ?_ hwho
        rfl
