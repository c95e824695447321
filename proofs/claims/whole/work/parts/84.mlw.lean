/-! THE MODEL: learnt, walked -/
def FL (g g' : St) : Prop := (∀ j, (j ≤ 90 ∨ (92 ≤ j ∧ j ≤ 108) ∨ 119 ≤ j) → g'.1 j = g.1 j) ∧ (∀ k, mScr k = false → k ≠ 45 → k ≠ 46 → g'.1 91 k = g.1 91 k) ∧ ∀ j, j ≠ 118 → g'.2 j = g.2 j
theorem FM.fl2 {g g' : St} (h : FM g g') : FL g g' := ⟨h.1, fun k hk _ _ => h.2.1 k hk, h.2.2⟩
theorem FL.tr {g g' g2 : St} (h : FL g g') (h2 : FL g' g2) : FL g g2 := ⟨fun j hj => (h2.1 j hj).trans (h.1 j hj), fun k hk h45 h46 => (h2.2.1 k hk h45 h46).trans (h.2.1 k hk h45 h46), fun j hj => (h2.2.2 j hj).trans (h.2.2 j hj)⟩
theorem FL_45 {g : St} {x : Int32} : FL g (upI g 91 45 x) := ⟨fun j hj => upI_n (by omega), fun k _ h45 _ => upd_n2 h45, fun _ _ => rfl⟩
theorem FL_46 {g : St} {x : Int32} : FL g (upI g 91 46 x) := ⟨fun j hj => upI_n (by omega), fun k _ _ h46 => upd_n2 h46, fun _ _ => rfl⟩
theorem MC_fl {g g' : St} {X : LN} (h : MC g X) (hf : FL g g') : MC g' X := by
  obtain ⟨h1, h2, h3, h4, h5, h6, h7⟩ := h
  refine ⟨h1, h2, h3, by rw [hf.2.1 0 rfl (by decide) (by decide)]; exact h4, ?_, ?_, by rw [hf.2.1 11 rfl (by decide) (by decide)]; exact h7⟩
  · unfold MWC at *
    rw [hf.2.1 1 rfl (by decide) (by decide), hf.1 92 (by omega), hf.1 93 (by omega), hf.1 94 (by omega)]; exact h5
  · unfold MPC at *
    rw [hf.2.1 5 rfl (by decide) (by decide), hf.1 95 (by omega), hf.1 96 (by omega), hf.1 97 (by omega), hf.1 98 (by omega), hf.1 99 (by omega)]; exact h6
theorem two_iB {X : LN} {a t d j k : Nat} {v : Int32} (h : v = B1 (inT (lnM (lnM X j) k).2.2.1 (vX (lnM (lnM X j) k) t false) a t d)) : v = B1 (twoB X a t d j k) := by
  have e : (lnM (lnM X j) k).2.2.1 = X.2.2.1 := rfl
  rw [e] at h
  rw [h, two_iT]
theorem one_iB {X : LN} {a t d k : Nat} (hc : cbL X k = true) {v : Int32} (h : v = B1 (inT (lnM X k).2.2.1 (vX (lnM X k) t false) a t d)) : v = B1 (oneB X a t d k) := by
  have e : (lnM X k).2.2.1 = X.2.2.1 := rfl
  rw [e] at h
  rw [h, one_iT hc]
def LQ (g : St) (X : LN) (a t d : Nat) (v : Int32) (g' : St) : Prop := FL g g' ∧ ((inT X.2.2.1 (vX X t false) a t d = true ∧ v = 0 ∧ g'.1 91 45 = -1 ∧ g'.1 91 46 = -1) ∨ (¬ inT X.2.2.1 (vX X t false) a t d = true ∧ fo1 X a t d < 84 ∧ v = 1 ∧ g'.1 91 45 = nI (fo1 X a t d) ∧ g'.1 91 46 = -1) ∨ (¬ inT X.2.2.1 (vX X t false) a t d = true ∧ ¬ fo1 X a t d < 84 ∧ fo2 X a t d < 84 ∧ v = 2 ∧ g'.1 91 45 = nI (fo2 X a t d) ∧ g'.1 91 46 = nI (iN X a t d (fo2 X a t d))) ∨ (¬ inT X.2.2.1 (vX X t false) a t d = true ∧ ¬ fo1 X a t d < 84 ∧ ¬ fo2 X a t d < 84 ∧ v = -1 ∧ g'.1 91 45 = -1 ∧ g'.1 91 46 = -1))

set_option maxHeartbeats 4000000 in
set_option maxRecDepth 100000 in
theorem lm_l2 {K : KT} {ad : Nat → Nat} {g : St} {X : LN} (hX : MC g X) {a t d : Nat} (ha : a < X.1) (ht : t < X.1) (hd : d ≤ 999) (h45 : g.1 91 45 = -1) (h46 : g.1 91 46 = -1) (hK : Cx K RX10 cX10_findLearnt 8 ad) (hm : K.2.2.1.2.maxLocals = 9) (hnn : Nn K 0 0)
    {Qx : Int32 → St → Prop} (hR : Rt K 0 0 TT ad (some .int) (Qi ad Qx)) (hq : ∀ v g', FL g g' ∧ (fo2 X a t d < 84 ∧ v = 2 ∧ g'.1 91 45 = nI (fo2 X a t d) ∧ g'.1 91 46 = nI (iN X a t d (fo2 X a t d)) ∨ ¬ fo2 X a t d < 84 ∧ v = -1 ∧ g'.1 91 45 = -1 ∧ g'.1 91 46 = -1) → Qx v g') :
    ∀ m i, i + m = 7056 → fdF (flB X a t d) m i = fdF (flB X a t d) 7056 0 → ∀ g1, FM g g1 → Wp K 0 0 TT ad g1 90 [(0, .ref 91), (1, .int (nI a)), (2, .int (nI t)), (3, .int (nI d)), (4, .int 84), (5, .int (nI i))] [] := by
  obtain ⟨hok, hpo, hlaw, x1, hW, hPs, x4⟩ := id hX
  have h10 := hok.2.1
  have h6 := hpo.1
  have h14 := hok.1
  intro m
  induction m with
  | zero =>
    intro i him hfd g1 hfr
    have e : i = 7056 := by omega
    subst e
    refine r_iload (i := 5) hK dX10_findLearnt_90 rfl ?_
    refine r_iload (i := 4) hK dX10_findLearnt_92 rfl ?_
    refine r_iload (i := 4) hK dX10_findLearnt_94 rfl ?_
    refine r_imul hK dX10_findLearnt_96 ?_
    refine r_icmp_ge (tgt := 201) hK dX10_findLearnt_97 (by decide) (fun _ => ?_) (fun h => absurd (by decide) h)
    refine r_iconst (v := (-1)) hK dX10_findLearnt_201 (by decide) ?_
    refine q_iret hK hR dX10_findLearnt_202 ?_
    refine hq _ _ ⟨hfr.fl2, Or.inr ⟨fun z => ?_, rfl, (hfr.2.1 45 rfl).trans h45, (hfr.2.1 46 rfl).trans h46⟩⟩
    obtain ⟨f1, f2, f3⟩ := flF_1 z
    have : flF X a t d = 7056 := by unfold flF; rw [← hfd]; rfl
    omega
  | succ m ih =>
    intro i him hfd g1 hfr
    have hi : i < 7056 := by omega
    have hX1 := MC_of hX hfr
    refine r_iload (i := 5) hK dX10_findLearnt_90 rfl ?_
    refine r_iload (i := 4) hK dX10_findLearnt_92 rfl ?_
    refine r_iload (i := 4) hK dX10_findLearnt_94 rfl ?_
    refine r_imul hK dX10_findLearnt_96 ?_
    refine r_top (y := nI 7056) (by decide) ?_
    refine r_icmp_ge (tgt := 201) hK dX10_findLearnt_97 (by decide) (fun h => absurd h (nI_ge hi (by decide))) (fun _ => ?_)
    refine r_iload (i := 5) hK dX10_findLearnt_100 rfl ?_
    refine r_iload (i := 4) hK dX10_findLearnt_102 rfl ?_
    refine r_idiv hK dX10_findLearnt_104 (by decide) ?_
    refine r_top (y := nI (i / 84)) (pk_div (a := i) (d := 84) (by omega) (by decide) (by decide)) ?_
    refine r_istore (i := 6) hK hm dX10_findLearnt_105 (by decide) ?_
    refine r_iload (i := 5) hK dX10_findLearnt_107 rfl ?_
    refine r_iload (i := 4) hK dX10_findLearnt_109 rfl ?_
    refine r_irem hK dX10_findLearnt_111 (by decide) ?_
    refine r_top (y := nI (i % 84)) (pk_rem (a := i) (d := 84) (by omega) (by decide) (by decide)) ?_
    refine r_istore (i := 7) hK hm dX10_findLearnt_112 (by decide) ?_
    refine r_iload (i := 6) hK dX10_findLearnt_114 rfl ?_
    refine r_iload (i := 7) hK dX10_findLearnt_116 rfl ?_
    refine r_icmp_ge (tgt := 195) hK dX10_findLearnt_118 (by decide) (fun h118 => ?_) (fun h118 => ?_)
    · refine r_iincN (i := 5) hK hm dX10_findLearnt_195 rfl (by decide) ?_
      refine r_goto (tgt := 90) hK dX10_findLearnt_198 (by decide) ?_
      first
        | (have hz : ¬ flB X a t d i = true := (by unfold flB; rw [decide_eq_false (nge_of h118 (by omega))]; simp); refine r_loc ?_ (ih (i + 1) (by omega) (by rw [← hfd, fdF_succ, if_neg hz]) g1 hfr); rfl)
        | (have hz : ¬ flB X a t d i = true := (by unfold flB t2; rw [B1_0.mp h127]; simp); refine r_loc ?_ (ih (i + 1) (by omega) (by rw [← hfd, fdF_succ, if_neg hz]) g1 hfr); rfl)
        | (have hz : ¬ flB X a t d i = true := (by unfold flB t2; rw [B1_0.mp h136]; simp); refine r_loc ?_ (ih (i + 1) (by omega) (by rw [← hfd, fdF_succ, if_neg hz]) g1 hfr); rfl)
        | (have hz : ¬ flB X a t d i = true := (by unfold flB t2; rw [B1_0.mp h178]; simp); refine r_loc ?_ (ih (i + 1) (by omega) (by rw [← hfd, fdF_succ, if_neg hz]) _ (hfr.tr hf9)); rfl)
    · refine r_aload_n (i := 0) hK dX10_findLearnt_121 rfl rfl ?_
      have hj : i / 84 < 84 := by omega
      have hk : i % 84 < 84 := by omega
      refine r_iload (i := 6) hK dX10_findLearnt_122 rfl ?_
      refine r_ci1 hK hnn (c_mIsOpen hX1 rfl hj) moX10_isOpen mlX10_334 to_91 rfl rfl dX10_findLearnt_124 (Nat.le_of_ble_eq_true rfl) (Nat.le_of_ble_eq_true rfl) (eqI ?_)
      refine r_if_eq (tgt := 195) hK dX10_findLearnt_127 (by decide) (fun h127 => ?_) (fun h127 => ?_)
      · refine r_iincN (i := 5) hK hm dX10_findLearnt_195 rfl (by decide) ?_
        refine r_goto (tgt := 90) hK dX10_findLearnt_198 (by decide) ?_
        first
          | (have hz : ¬ flB X a t d i = true := (by unfold flB; rw [decide_eq_false (nge_of h118 (by omega))]; simp); refine r_loc ?_ (ih (i + 1) (by omega) (by rw [← hfd, fdF_succ, if_neg hz]) g1 hfr); rfl)
          | (have hz : ¬ flB X a t d i = true := (by unfold flB t2; rw [B1_0.mp h127]; simp); refine r_loc ?_ (ih (i + 1) (by omega) (by rw [← hfd, fdF_succ, if_neg hz]) g1 hfr); rfl)
          | (have hz : ¬ flB X a t d i = true := (by unfold flB t2; rw [B1_0.mp h136]; simp); refine r_loc ?_ (ih (i + 1) (by omega) (by rw [← hfd, fdF_succ, if_neg hz]) g1 hfr); rfl)
          | (have hz : ¬ flB X a t d i = true := (by unfold flB t2; rw [B1_0.mp h178]; simp); refine r_loc ?_ (ih (i + 1) (by omega) (by rw [← hfd, fdF_succ, if_neg hz]) _ (hfr.tr hf9)); rfl)
      · refine r_aload_n (i := 0) hK dX10_findLearnt_130 rfl rfl ?_
        refine r_iload (i := 7) hK dX10_findLearnt_131 rfl ?_
        refine r_ci1 hK hnn (c_mIsOpen hX1 rfl hk) moX10_isOpen mlX10_334 to_91 rfl rfl dX10_findLearnt_133 (Nat.le_of_ble_eq_true rfl) (Nat.le_of_ble_eq_true rfl) (eqI ?_)
        refine r_if_eq (tgt := 195) hK dX10_findLearnt_136 (by decide) (fun h136 => ?_) (fun h136 => ?_)
        · refine r_iincN (i := 5) hK hm dX10_findLearnt_195 rfl (by decide) ?_
          refine r_goto (tgt := 90) hK dX10_findLearnt_198 (by decide) ?_
          first
            | (have hz : ¬ flB X a t d i = true := (by unfold flB; rw [decide_eq_false (nge_of h118 (by omega))]; simp); refine r_loc ?_ (ih (i + 1) (by omega) (by rw [← hfd, fdF_succ, if_neg hz]) g1 hfr); rfl)
            | (have hz : ¬ flB X a t d i = true := (by unfold flB t2; rw [B1_0.mp h127]; simp); refine r_loc ?_ (ih (i + 1) (by omega) (by rw [← hfd, fdF_succ, if_neg hz]) g1 hfr); rfl)
            | (have hz : ¬ flB X a t d i = true := (by unfold flB t2; rw [B1_0.mp h136]; simp); refine r_loc ?_ (ih (i + 1) (by omega) (by rw [← hfd, fdF_succ, if_neg hz]) g1 hfr); rfl)
            | (have hz : ¬ flB X a t d i = true := (by unfold flB t2; rw [B1_0.mp h178]; simp); refine r_loc ?_ (ih (i + 1) (by omega) (by rw [← hfd, fdF_succ, if_neg hz]) _ (hfr.tr hf9)); rfl)
        · refine r_aload_n (i := 0) hK dX10_findLearnt_139 rfl rfl ?_
          obtain ⟨hpj, hbj⟩ := cb_p (B1_n.mp h127)
          obtain ⟨hpk, hbk⟩ := cb_p (B1_n.mp h136)
          refine r_iload (i := 6) hK dX10_findLearnt_140 rfl ?_
          refine r_iconst (v := 1) hK dX10_findLearnt_142 (by decide) ?_
          refine r_cv2 hK hnn (c_mTeach1 hX1 rfl hj hpj) moX10_teach mlX10_337 to_91 rfl rfl dX10_findLearnt_143 (Nat.le_of_ble_eq_true rfl) (Nat.le_of_ble_eq_true rfl) (eqV ?_)
          obtain ⟨X2, eX2⟩ : ∃ Z : LN, Z = lnM X (i / 84) := ⟨_, rfl⟩
          have hX2 : MC (upI g1 99 (i / 84 / 14) (nI (kL X (i / 84)))) X2 := by rw [eX2]; exact MC_lnK hX1 rfl (kL_lt hpo hpj)
          have hpk2 : i % 84 / 14 < X2.2.2.1.1 := by rw [eX2]; exact hpk
          refine r_aload_n (i := 0) hK dX10_findLearnt_146 rfl rfl ?_
          refine r_iload (i := 7) hK dX10_findLearnt_147 rfl ?_
          refine r_iconst (v := 1) hK dX10_findLearnt_149 (by decide) ?_
          refine r_cv2 hK hnn (c_mTeach1 hX2 rfl hk hpk2) moX10_teach mlX10_337 to_91 rfl rfl dX10_findLearnt_150 (Nat.le_of_ble_eq_true rfl) (Nat.le_of_ble_eq_true rfl) (eqV ?_)
          obtain ⟨X3, eX3⟩ : ∃ Z : LN, Z = lnM X2 (i % 84) := ⟨_, rfl⟩
          have hX3 : MC (upI (upI g1 99 (i / 84 / 14) (nI (kL X (i / 84)))) 99 (i % 84 / 14) (nI (kL X2 (i % 84)))) X3 := by rw [eX3]; exact MC_lnK hX2 rfl (kL_lt hX2.2.1 hpk2)
          have e3 : X3 = lnM (lnM X (i / 84)) (i % 84) := by rw [eX3, eX2]
          have ha3 : a < X3.1 := by rw [e3]; exact ha
          have ht3 : t < X3.1 := by rw [e3]; exact ht
          have hpj3 : i / 84 / 14 < X3.2.2.1.1 := by rw [e3]; exact hpj
          have hpk3 : i % 84 / 14 < X3.2.2.1.1 := by rw [e3]; exact hpk
          refine r_aload_n (i := 0) hK dX10_findLearnt_153 rfl rfl ?_
          refine r_iload_n (i := 1) hK dX10_findLearnt_154 rfl rfl ?_
          refine r_iload_n (i := 2) hK dX10_findLearnt_155 rfl rfl ?_
          refine r_iload_n (i := 3) hK dX10_findLearnt_156 rfl rfl ?_
          refine r_ci3 hK hnn (c_mIsSoon hX3 rfl ha3 rfl ht3 rfl hd) moX10_isSoon mlX10_331 to_91 rfl rfl dX10_findLearnt_157 (Nat.le_of_ble_eq_true rfl) (Nat.le_of_ble_eq_true rfl) (fun v157 g157 q157 => ?_)
          obtain ⟨hX7, hf7⟩ := q157
          have hX4 := MC_of hX3 hf7
          have hX8 : v157 = B1 (twoB X a t d (i / 84) (i % 84)) := two_iB (by rw [← e3]; exact hX7)
          refine r_top (y := B1 (twoB X a t d (i / 84) (i % 84))) hX8 ?_
          refine r_istore (i := 8) hK hm dX10_findLearnt_160 (by decide) ?_
          refine r_aload_n (i := 0) hK dX10_findLearnt_162 rfl rfl ?_
          refine r_iload (i := 6) hK dX10_findLearnt_163 rfl ?_
          refine r_iconst (v := 0) hK dX10_findLearnt_165 (by decide) ?_
          refine r_cv2 hK hnn (c_mTeach0 (X := X3) hX4 rfl hj hpj3) moX10_teach mlX10_337 to_91 rfl rfl dX10_findLearnt_166 (Nat.le_of_ble_eq_true rfl) (Nat.le_of_ble_eq_true rfl) (eqV ?_)
          obtain ⟨s1, hs1⟩ : ∃ s, s = clrN (X3.2.2.2.2.1 (i / 84 / 14)) (i / 84 % 14) := ⟨_, rfl⟩
          refine r_g (g' := upI g157 99 (i / 84 / 14) (nI s1)) (by rw [hs1]) ?_
          have hs14 : s1 < 2 ^ 14 := by rw [hs1]; exact clr_lt.resolve_right (by omega)
          obtain ⟨X5, eX5⟩ : ∃ Z : LN, Z = lnK X3 (i / 84 / 14) s1 := ⟨_, rfl⟩
          have hX5 : MC (upI g157 99 (i / 84 / 14) (nI s1)) X5 := by rw [eX5]; exact MC_lnK hX4 rfl hs14
          have hpk5 : i % 84 / 14 < X5.2.2.1.1 := by rw [eX5]; exact hpk3
          refine r_aload_n (i := 0) hK dX10_findLearnt_169 rfl rfl ?_
          refine r_iload (i := 7) hK dX10_findLearnt_170 rfl ?_
          refine r_iconst (v := 0) hK dX10_findLearnt_172 (by decide) ?_
          refine r_cv2 hK hnn (c_mTeach0 (X := X5) hX5 rfl hk hpk5) moX10_teach mlX10_337 to_91 rfl rfl dX10_findLearnt_173 (Nat.le_of_ble_eq_true rfl) (Nat.le_of_ble_eq_true rfl) (eqV ?_)
          obtain ⟨s2, hs2⟩ : ∃ s, s = clrN (X5.2.2.2.2.1 (i % 84 / 14)) (i % 84 % 14) := ⟨_, rfl⟩
          refine r_g (g' := upI (upI g157 99 (i / 84 / 14) (nI s1)) 99 (i % 84 / 14) (nI s2)) (by rw [hs2]) ?_
          have hf9 : FM g1 (upI (upI g157 99 (i / 84 / 14) (nI s1)) 99 (i % 84 / 14) (nI s2)) := tch_2 hX1 hj hk (lt_of_ge h118 (by omega)) (B1_n.mp h127) (B1_n.mp h136) (by rw [← eX2]; exact hf7) (by rw [← e3]; exact hs1) (by rw [← e3, ← eX5]; exact hs2)
          refine r_iload (i := 8) hK dX10_findLearnt_176 rfl ?_
          refine r_if_eq (tgt := 195) hK dX10_findLearnt_178 (by decide) (fun h178 => ?_) (fun h178 => ?_)
          · refine r_iincN (i := 5) hK hm dX10_findLearnt_195 rfl (by decide) ?_
            refine r_goto (tgt := 90) hK dX10_findLearnt_198 (by decide) ?_
            first
              | (have hz : ¬ flB X a t d i = true := (by unfold flB; rw [decide_eq_false (nge_of h118 (by omega))]; simp); refine r_loc ?_ (ih (i + 1) (by omega) (by rw [← hfd, fdF_succ, if_neg hz]) g1 hfr); rfl)
              | (have hz : ¬ flB X a t d i = true := (by unfold flB t2; rw [B1_0.mp h127]; simp); refine r_loc ?_ (ih (i + 1) (by omega) (by rw [← hfd, fdF_succ, if_neg hz]) g1 hfr); rfl)
              | (have hz : ¬ flB X a t d i = true := (by unfold flB t2; rw [B1_0.mp h136]; simp); refine r_loc ?_ (ih (i + 1) (by omega) (by rw [← hfd, fdF_succ, if_neg hz]) g1 hfr); rfl)
              | (have hz : ¬ flB X a t d i = true := (by unfold flB t2; rw [B1_0.mp h178]; simp); refine r_loc ?_ (ih (i + 1) (by omega) (by rw [← hfd, fdF_succ, if_neg hz]) _ (hfr.tr hf9)); rfl)
          · refine r_aload_n (i := 0) hK dX10_findLearnt_181 rfl rfl ?_
            refine r_iload (i := 6) hK dX10_findLearnt_182 rfl ?_
            refine r_putI hK flX10_325 ft10_45 to_91 rfl dX10_findLearnt_184 ?_
            refine r_aload_n (i := 0) hK dX10_findLearnt_187 rfl rfl ?_
            refine r_iload (i := 7) hK dX10_findLearnt_188 rfl ?_
            refine r_putI hK flX10_328 ft10_46 to_91 rfl dX10_findLearnt_190 ?_
            refine r_iconst (v := 2) hK dX10_findLearnt_193 (by decide) ?_
            refine q_iret hK hR dX10_findLearnt_194 ?_
            have hz : flB X a t d i = true := by unfold flB t2; rw [decide_eq_true (lt_of_ge h118 (by omega)), B1_n.mp h127, B1_n.mp h136, B1_n.mp h178]; rfl
            have hfi : flF X a t d = i := by unfold flF; rw [← hfd, fdF_succ, if_pos hz]
            have hlt : fo2 X a t d < 84 := Classical.byContradiction (fun q => flF_0 q (by rw [hfi]; exact hi))
            obtain ⟨f1, f2, f3⟩ := flF_1 hlt
            rw [hfi] at f3
            have e1 : i / 84 = fo2 X a t d := by omega
            have e2 : i % 84 = iN X a t d (fo2 X a t d) := by omega
            refine hq _ _ ⟨((hfr.tr hf9).fl2.tr FL_45).tr FL_46, Or.inl ⟨hlt, rfl, ?_, ?_⟩⟩
            · rw [upd_n2 (by decide), upI_s, upd_s, e1]
            · rw [upI_s, upd_s, e2]
set_option maxHeartbeats 4000000 in
set_option maxRecDepth 100000 in
theorem lm_l1 {K : KT} {ad : Nat → Nat} {g : St} {X : LN} (hX : MC g X) {a t d : Nat} (ha : a < X.1) (ht : t < X.1) (hd : d ≤ 999) (h45 : g.1 91 45 = -1) (h46 : g.1 91 46 = -1) (hK : Cx K RX10 cX10_findLearnt 8 ad) (hm : K.2.2.1.2.maxLocals = 9) (hnn : Nn K 0 0)
    {Qx : Int32 → St → Prop} (hR : Rt K 0 0 TT ad (some .int) (Qi ad Qx)) (hq : ∀ v g', FL g g' ∧ ((fo1 X a t d < 84 ∧ v = 1 ∧ g'.1 91 45 = nI (fo1 X a t d) ∧ g'.1 91 46 = -1 ∨ ¬ fo1 X a t d < 84 ∧ (fo2 X a t d < 84 ∧ v = 2 ∧ g'.1 91 45 = nI (fo2 X a t d) ∧ g'.1 91 46 = nI (iN X a t d (fo2 X a t d)) ∨ ¬ fo2 X a t d < 84 ∧ v = -1 ∧ g'.1 91 45 = -1 ∧ g'.1 91 46 = -1))) → Qx v g') :
    ∀ m k, k + m = 84 → fdF (oneB X a t d) m k = fdF (oneB X a t d) 84 0 → ∀ g1, FM g g1 → Wp K 0 0 TT ad g1 29 [(0, .ref 91), (1, .int (nI a)), (2, .int (nI t)), (3, .int (nI d)), (4, .int 84), (5, .int (nI k))] [] := by
  obtain ⟨hok, hpo, hlaw, x1, hW, hPs, x4⟩ := id hX
  have h10 := hok.2.1
  have h6 := hpo.1
  have h14 := hok.1
  intro m
  induction m with
  | zero =>
    intro k hkm hfd g1 hfr
    have e : k = 84 := by omega
    subst e
    have hn : ¬ fo1 X a t d < 84 := by unfold fo1; rw [← hfd]; exact Nat.lt_irrefl 84
    refine r_iload (i := 5) hK dX10_findLearnt_29 rfl ?_
    refine r_iload (i := 4) hK dX10_findLearnt_31 rfl ?_
    refine r_icmp_ge (tgt := 87) hK dX10_findLearnt_33 (by decide) (fun _ => ?_) (fun h => absurd (by decide) h)
    refine r_iconst (v := 0) hK dX10_findLearnt_87 (by decide) ?_
    refine r_istore (i := 5) hK hm dX10_findLearnt_88 (by decide) ?_
    refine r_loc ?_ (lm_l2 hX ha ht hd h45 h46 hK hm hnn hR (fun v g' h => hq v g' ⟨h.1, Or.inr ⟨hn, h.2⟩⟩) 7056 0 (by omega) rfl g1 hfr)
    rfl
  | succ m ih =>
    intro k hkm hfd g1 hfr
    have hk : k < 84 := by omega
    have hX1 := MC_of hX hfr
    refine r_iload (i := 5) hK dX10_findLearnt_29 rfl ?_
    refine r_iload (i := 4) hK dX10_findLearnt_31 rfl ?_
    refine r_icmp_ge (tgt := 87) hK dX10_findLearnt_33 (by decide) (fun h => absurd h (nI_ge hk (by decide))) (fun _ => ?_)
    refine r_aload_n (i := 0) hK dX10_findLearnt_36 rfl rfl ?_
    refine r_iload (i := 5) hK dX10_findLearnt_37 rfl ?_
    refine r_ci1 hK hnn (c_mIsOpen hX1 rfl hk) moX10_isOpen mlX10_334 to_91 rfl rfl dX10_findLearnt_39 (Nat.le_of_ble_eq_true rfl) (Nat.le_of_ble_eq_true rfl) (eqI ?_)
    refine r_if_eq (tgt := 81) hK dX10_findLearnt_42 (by decide) (fun h42 => ?_) (fun h42 => ?_)
    · refine r_iincN (i := 5) hK hm dX10_findLearnt_81 rfl (by decide) ?_
      refine r_goto (tgt := 29) hK dX10_findLearnt_84 (by decide) ?_
      first
        | (have hz : ¬ oneB X a t d k = true := (by unfold oneB; rw [B1_0.mp h42]; simp); refine r_loc ?_ (ih (k + 1) (by omega) (by rw [← hfd, fdF_succ, if_neg hz]) g1 hfr); rfl)
        | (have hz : ¬ oneB X a t d k = true := (by rw [B1_0.mp h70]; decide); refine r_loc ?_ (ih (k + 1) (by omega) (by rw [← hfd, fdF_succ, if_neg hz]) _ (hfr.tr hf9)); rfl)
    · refine r_aload_n (i := 0) hK dX10_findLearnt_45 rfl rfl ?_
      obtain ⟨hpk, hbk⟩ := cb_p (B1_n.mp h42)
      refine r_iload (i := 5) hK dX10_findLearnt_46 rfl ?_
      refine r_iconst (v := 1) hK dX10_findLearnt_48 (by decide) ?_
      refine r_cv2 hK hnn (c_mTeach1 hX1 rfl hk hpk) moX10_teach mlX10_337 to_91 rfl rfl dX10_findLearnt_49 (Nat.le_of_ble_eq_true rfl) (Nat.le_of_ble_eq_true rfl) (eqV ?_)
      have hX2 : MC (upI g1 99 (k / 14) (nI (kL X k))) (lnM X k) := MC_lnK hX1 rfl (kL_lt hpo hpk)
      refine r_aload_n (i := 0) hK dX10_findLearnt_52 rfl rfl ?_
      refine r_iload_n (i := 1) hK dX10_findLearnt_53 rfl rfl ?_
      refine r_iload_n (i := 2) hK dX10_findLearnt_54 rfl rfl ?_
      refine r_iload_n (i := 3) hK dX10_findLearnt_55 rfl rfl ?_
      refine r_ci3 hK hnn (c_mIsSoon hX2 rfl ha rfl ht rfl hd) moX10_isSoon mlX10_331 to_91 rfl rfl dX10_findLearnt_56 (Nat.le_of_ble_eq_true rfl) (Nat.le_of_ble_eq_true rfl) (fun v56 g56 q56 => ?_)
      obtain ⟨hX7, hf6⟩ := q56
      have hX3 := MC_of hX2 hf6
      refine r_top (y := B1 (oneB X a t d k)) (one_iB (B1_n.mp h42) hX7) ?_
      refine r_istore (i := 6) hK hm dX10_findLearnt_59 (by decide) ?_
      refine r_aload_n (i := 0) hK dX10_findLearnt_61 rfl rfl ?_
      refine r_iload (i := 5) hK dX10_findLearnt_62 rfl ?_
      refine r_iconst (v := 0) hK dX10_findLearnt_64 (by decide) ?_
      refine r_cv2 hK hnn (c_mTeach0 hX3 rfl hk hpk) moX10_teach mlX10_337 to_91 rfl rfl dX10_findLearnt_65 (Nat.le_of_ble_eq_true rfl) (Nat.le_of_ble_eq_true rfl) (eqV ?_)
      refine r_g (g' := upI g56 99 (k / 14) (nI (clrN (kL X k) (k % 14)))) (by rw [show (lnM X k).2.2.2.2.1 (k / 14) = kL X k from up_s]) ?_
      have hf9 : FM g1 (upI g56 99 (k / 14) (nI (clrN (kL X k) (k % 14)))) := tch_1 hX1 (B1_n.mp h42) hf6
      refine r_iload (i := 6) hK dX10_findLearnt_68 rfl ?_
      refine r_if_eq (tgt := 81) hK dX10_findLearnt_70 (by decide) (fun h70 => ?_) (fun h70 => ?_)
      · refine r_iincN (i := 5) hK hm dX10_findLearnt_81 rfl (by decide) ?_
        refine r_goto (tgt := 29) hK dX10_findLearnt_84 (by decide) ?_
        first
          | (have hz : ¬ oneB X a t d k = true := (by unfold oneB; rw [B1_0.mp h42]; simp); refine r_loc ?_ (ih (k + 1) (by omega) (by rw [← hfd, fdF_succ, if_neg hz]) g1 hfr); rfl)
          | (have hz : ¬ oneB X a t d k = true := (by rw [B1_0.mp h70]; decide); refine r_loc ?_ (ih (k + 1) (by omega) (by rw [← hfd, fdF_succ, if_neg hz]) _ (hfr.tr hf9)); rfl)
      · refine r_aload_n (i := 0) hK dX10_findLearnt_73 rfl rfl ?_
        refine r_iload (i := 5) hK dX10_findLearnt_74 rfl ?_
        refine r_putI hK flX10_325 ft10_45 to_91 rfl dX10_findLearnt_76 ?_
        refine r_iconst (v := 1) hK dX10_findLearnt_79 (by decide) ?_
        refine q_iret hK hR dX10_findLearnt_80 ?_
        have hfo : fo1 X a t d = k := by unfold fo1; rw [← hfd, fdF_succ, if_pos (B1_n.mp h70)]
        refine hq _ _ ⟨(hfr.tr hf9).fl2.tr FL_45, Or.inl ⟨by rw [hfo]; exact hk, rfl, ?_, ?_⟩⟩
        · rw [upI_s, upd_s, hfo]
        · rw [upd_n2 (by decide)]; exact ((hfr.tr hf9).2.1 46 rfl).trans h46
set_option maxHeartbeats 4000000 in
set_option maxRecDepth 100000 in
theorem c_mFindLearnt {ad : Nat → Nat} {g : St} {X : LN} (hX : MC g X) {a t d : Nat} {x y z : Int32} (hx : x = nI a) (ha : a < X.1) (hy : y = nI t) (ht : t < X.1) (hz : z = nI d) (hd : d ≤ 999) : Ci 8 mX10_findLearnt [.ref 91, .int x, .int y, .int z] ad g (fun v g' => LQ g X a t d v g') := by
  refine Cm.mk rfl (Nat.le_of_ble_eq_true rfl) (fun K hK hR hm hnn => ?_)
  refine r_aload_n (i := 0) hK dX10_findLearnt_0 rfl rfl ?_
  refine r_iconst (v := (-1)) hK dX10_findLearnt_1 (by decide) ?_
  refine r_putI hK flX10_325 ft10_45 to_91 rfl dX10_findLearnt_2 ?_
  refine r_aload_n (i := 0) hK dX10_findLearnt_5 rfl rfl ?_
  refine r_iconst (v := (-1)) hK dX10_findLearnt_6 (by decide) ?_
  refine r_putI hK flX10_328 ft10_46 to_91 rfl dX10_findLearnt_7 ?_
  refine r_aload_n (i := 0) hK dX10_findLearnt_10 rfl rfl ?_
  refine r_iload_n (i := 1) hK dX10_findLearnt_11 rfl rfl ?_
  refine r_iload_n (i := 2) hK dX10_findLearnt_12 rfl rfl ?_
  refine r_iload_n (i := 3) hK dX10_findLearnt_13 rfl rfl ?_
  refine r_ci3 hK hnn (c_mIsSoon (MC_fl hX (FL_45.tr FL_46)) hx ha hy ht hz hd) moX10_isSoon mlX10_331 to_91 rfl rfl dX10_findLearnt_14 (Nat.le_of_ble_eq_true rfl) (Nat.le_of_ble_eq_true rfl) (fun v14 g14 q14 => ?_)
  obtain ⟨rfl, hf1⟩ := q14
  have hflb : FL g (upI (upI g 91 45 (-1)) 91 46 (-1)) := FL_45.tr FL_46
  have h45 : g14.1 91 45 = -1 := (hf1.2.1 45 rfl).trans ((upd_n2 (by decide)).trans ((congrFun upI_s _).trans upd_s))
  have h46 : g14.1 91 46 = -1 := (hf1.2.1 46 rfl).trans ((congrFun upI_s _).trans upd_s)
  refine r_if_eq (tgt := 22) hK dX10_findLearnt_17 (by decide) (fun h17 => ?_) (fun h17 => ?_)
  · refine r_bipush (v := 84) hK dX10_findLearnt_22 (by decide) ?_
    refine r_istore (i := 4) hK hm dX10_findLearnt_24 (by decide) ?_
    refine r_iconst (v := 0) hK dX10_findLearnt_26 (by decide) ?_
    refine r_istore (i := 5) hK hm dX10_findLearnt_27 (by decide) ?_
    have hni : ¬ inT X.2.2.1 (vX X t false) a t d = true := by rw [B1_0.mp h17]; decide
    refine r_loc ?_ (lm_l1 (MC_of (MC_fl hX hflb) hf1) ha ht hd h45 h46 hK hm hnn hR (fun v g' h => ⟨(hflb.tr hf1.fl2).tr h.1, ?_⟩) 84 0 (by omega) rfl g14 FM.rf)
    · simp only [List.map_cons, List.map_nil]
      rw [← hx, ← hy, ← hz]
      rfl
    · rcases h.2 with h1 | ⟨h1, h2 | h2⟩
      · exact Or.inr (Or.inl ⟨hni, h1⟩)
      · exact Or.inr (Or.inr (Or.inl ⟨hni, h1, h2⟩))
      · exact Or.inr (Or.inr (Or.inr ⟨hni, h1, h2⟩))
  · refine r_iconst (v := 0) hK dX10_findLearnt_20 (by decide) ?_
    refine q_iret hK hR dX10_findLearnt_21 ?_
    exact ⟨hflb.tr hf1.fl2, Or.inl ⟨B1_n.mp h17, rfl, h45, h46⟩⟩
theorem lnC_no {X : LN} (hok : wOk X.1 X.2.1) (hpo : pOk X.1 X.2.2.1 X.2.2.2.1 X.2.2.2.2.1) {a t d : Nat} (ha : a < X.1) (hd : d ≤ 999) (h : farV X a t = -1 ∨ nI d < farV X a t) : lnC X a t d = -1 := by
  have hV0 := vX_ok hok hpo t
  have hW0 := WVk_vX (X := X) t
  have up : ∀ (V : VT) (p s : Nat), p < X.2.2.1.1 → s < 2 ^ 14 → vOk X.1 X.2.2.1 V → WVk X t V → vOk X.1 X.2.2.1 (upV V p (lE X t p s) (lM X t p s)) ∧ WVk X t (upV V p (lE X t p s) (lM X t p s)) := by
    intro V p s hp hs hV hW
    refine ⟨upV_ok hok hpo hV hp, fun q hq hv => ?_⟩
    by_cases e : q = p
    · subst e
      have e1 : (upV V q (lE X t q s) (lM X t q s)).1 q = lE X t q s := if_pos rfl
      have e2 : (upV V q (lE X t q s) (lM X t q s)).2 q = lM X t q s := if_pos rfl
      rw [e1] at hv ⊢
      rw [e2]
      refine ⟨knb s, lS X t q s, sdF_le, ?_, rfl⟩
      unfold lE vcE at hv ⊢
      split
      · rename_i z; rw [if_pos z] at hv; omega
      · rfl
    · have e1 : (upV V p (lE X t p s) (lM X t p s)).1 q = V.1 q := if_neg e
      have e2 : (upV V p (lE X t p s) (lM X t p s)).2 q = V.2 q := if_neg e
      rw [e1] at hv ⊢
      rw [e2]
      exact hW q hq hv
  have h0 : ¬ inT X.2.2.1 (vX X t false) a t d = true := fun z => inT_far hok hV0 hW0 ha hd z h
  have h1 : ∀ k, k < 84 → oneB X a t d k = false := fun k hk => by
    unfold oneB
    by_cases hc : cbL X k = true
    · obtain ⟨hp, -⟩ := cb_p hc
      obtain ⟨u1, u2⟩ := up _ _ (kL X k) hp (kL_lt hpo hp) hV0 hW0
      rw [hc, Bool.true_and, ← Bool.not_eq_true]
      exact fun z => inT_far hok u1 u2 ha hd z h
    · rw [Bool.not_eq_true] at hc; rw [hc]; rfl
  have h2 : ∀ j k, j < 84 → k < 84 → t2 X a t d j k = false := fun j k hj hk => by
    unfold t2
    by_cases hc : cbL X j = true
    · by_cases hc2 : cbL X k = true
      · obtain ⟨hp, -⟩ := cb_p hc
        obtain ⟨hq, -⟩ := cb_p hc2
        rw [hc, hc2, Bool.true_and, Bool.true_and, ← Bool.not_eq_true]
        unfold twoB
        by_cases e : j / 14 = k / 14
        · rw [if_pos e]
          obtain ⟨u1, u2⟩ := up _ _ (kL X j ||| 1 <<< (k % 14)) hp (Nat.or_lt_two_pow (kL_lt hpo hp) (by rw [Nat.one_shiftLeft]; exact Nat.pow_lt_pow_right (by decide) (by omega))) hV0 hW0
          exact fun z => inT_far hok u1 u2 ha hd z h
        · rw [if_neg e]
          obtain ⟨u1, u2⟩ := up _ _ (kL X j) hp (kL_lt hpo hp) hV0 hW0
          obtain ⟨w1, w2⟩ := up _ _ (kL X k) hq (kL_lt hpo hq) u1 u2
          exact fun z => inT_far hok w1 w2 ha hd z h
      · rw [Bool.not_eq_true] at hc2; rw [hc2, Bool.false_and, Bool.and_false]
    · rw [Bool.not_eq_true] at hc; rw [hc]; rfl
  have h3 : ¬ fo1 X a t d < 84 := fun z => by
    have e := fdF_at (p := oneB X a t d) 84 0 (by unfold fo1 at z; omega)
    exact absurd ((h1 _ z).symm.trans e) (by decide)
  have h4 : ¬ fo2 X a t d < 84 := fun z => by
    obtain ⟨f1, f2, f3⟩ := flF_1 z
    have hb := fdF_le (t2 X a t d (fo2 X a t d)) (83 - fo2 X a t d) (fo2 X a t d + 1)
    have e := fdF_at (p := t2 X a t d (fo2 X a t d)) (83 - fo2 X a t d) (fo2 X a t d + 1) (by unfold iN at f1; omega)
    exact absurd ((h2 _ _ z f1).symm.trans e) (by decide)
  unfold lnC
  rw [if_neg h0, if_neg h3, if_neg h4]
theorem lnA_m {f s : Nat} {x : Int32} : lnA (-1) f s x = -1 := by
  unfold lnA
  rw [if_neg (show ¬ (1 : Int32) ≤ -1 by decide), if_neg (show ¬ (2 : Int32) ≤ -1 by decide)]
  simp [show ¬ (1 : Int32) ≤ -1 by decide, show ¬ (2 : Int32) ≤ -1 by decide]
