/-! LESSONS, areBothInTime -/
abbrev unl (g : St) (p : Nat) : St := gE g 68 (upd (g.1 69) p (g.1 74 p)) (upd (g.1 70) p (g.1 75 p))
theorem unl_n {g : St} {p j : Nat} (h1 : j ≠ 69) (h2 : j ≠ 70) : (unl g p).1 j = g.1 j := gE_n (by omega) (by omega)
theorem unl_69 {g : St} {p : Nat} : (unl g p).1 69 = upd (g.1 69) p (g.1 74 p) := gE_1
theorem unl_70 {g : St} {p : Nat} : (unl g p).1 70 = upd (g.1 70) p (g.1 75 p) := gE_2
theorem enI_inj {e f : Nat} (he : e ≤ 10) (hf : f ≤ 10) (h : enI e = enI f) : e = f := by
  by_cases h1 : e < 10
  · by_cases h2 : f < 10
    · rw [enI_in h1, enI_in h2] at h; exact nI_inj (by omega) (by omega) h
    · rw [enI_m1.mpr h2] at h; exact absurd h1 (enI_m1.mp h)
  · rw [enI_m1.mpr h1] at h; have := enI_m1.mp h.symm; omega
theorem vcE_le {D : WD} {kn : Nat → Bool} {t a s np : Nat} (h10 : np ≤ 10) (h2 : rP D kn t a s < np) : vcE D kn t a s ≤ 10 := by
  unfold vcE
  split
  · exact Nat.le_refl _
  · omega
theorem lE_b {X : LN} (hok : wOk X.1 X.2.1) (hpo : pOk X.1 X.2.2.1 X.2.2.2.1 X.2.2.2.2.1) {t p kn : Nat} (hp : p < X.2.2.1.1) : lE X t p kn ≤ 10 ∧ lM X t p kn ≤ 891 := by
  have hb := (rt_b hok (knb kn) t (hpo.2 p hp).1).2 _ (sdF_le (ha := X.2.2.2.1 p) (er := X.2.2.1.2.2.1 p))
  exact ⟨vcE_le hok.2.1 hb.1, hb.2⟩
theorem vX_b {X : LN} (hok : wOk X.1 X.2.1) (hpo : pOk X.1 X.2.2.1 X.2.2.2.1 X.2.2.2.2.1) {t p : Nat} (hp : p < X.2.2.1.1) : (vX X t false).1 p ≤ 10 ∧ (vX X t false).2 p ≤ 891 := by
  have hb := (rt_b hok (knb (X.2.2.2.2.1 p)) t (hpo.2 p hp).1).2 _ (sdF_le (ha := X.2.2.2.1 p) (er := X.2.2.1.2.2.1 p))
  exact ⟨vcE_le hok.2.1 hb.1, hb.2⟩
theorem cgN_up {g : St} {X : LN} {a t d k : Nat} (hl : LsC g X a t d) (hT : TbC g X t 84) (hk : k < 84) (hc : cbL X k = true) (h : cgN g k = true) : upV (vX X t false) (k / 14) (lE X t (k / 14) (kL X k)) (lM X t (k / 14) (kL X k)) = vX X t false := by
  obtain ⟨⟨hok, hpo, -⟩, -, -, h74⟩ := hl
  have hp : k / 14 < X.2.2.1.1 := by unfold cbL at hc; simp only [Bool.and_eq_true, decide_eq_true_eq] at hc; exact hc.1
  unfold cgN at h
  simp only [Bool.and_eq_true, decide_eq_true_eq] at h
  obtain ⟨e1, e2⟩ := hT k hk hc
  obtain ⟨f1, f2⟩ := h74 _ hp
  rw [e1, e2, f1, f2] at h
  obtain ⟨b1, b2⟩ := lE_b (t := t) (kn := kL X k) hok hpo hp
  obtain ⟨b3, b4⟩ := vX_b (t := t) hok hpo hp
  exact upV_same (enI_inj b3 b1 h.1.symm) (nI_inj (by omega) (by omega) h.2.symm)
theorem LsC_bk {g g9 : St} {X : LN} {a t d p q : Nat} {V' : VT} (hl : LsC g X a t d) (hp : p < X.2.2.1.1) (hq : q < X.2.2.1.1) (hs : GsC g9 68 X.1 X.2.2.1 V') (hV : ∀ r, r ≠ p → r ≠ q → V'.1 r = (vX X t false).1 r ∧ V'.2 r = (vX X t false).2 r) (hf : ∀ j, (j ≤ 21 ∨ j = 67 ∨ j = 74 ∨ j = 75) → g9.1 j = g.1 j) : LsC (unl (unl g9 p) q) X a t d := by
  obtain ⟨hX, hgs, ⟨h6, h7, h8⟩, h74⟩ := hl
  obtain ⟨-, s1, s2, s3⟩ := hs
  have n : ∀ j, (j ≤ 21 ∨ j = 67 ∨ j = 74 ∨ j = 75) → (unl (unl g9 p) q).1 j = g.1 j := fun j hj => by
    rw [unl_n (by omega) (by omega), unl_n (by omega) (by omega)]; exact hf j hj
  refine ⟨LC_lo hX (fun j hj => n j (Or.inl hj)), ⟨hgs.1, ?_, ?_, ?_⟩, ⟨by rw [n 67 (by omega)]; exact h6, by rw [n 67 (by omega)]; exact h7, by rw [n 67 (by omega)]; exact h8⟩, fun r hr => by rw [n 74 (by omega), n 75 (by omega)]; exact h74 r hr⟩
  · rw [n 13 (by omega)]; exact hgs.2.1
  · intro r hr
    rw [n 17 (by omega)]; exact hgs.2.2.1 r hr
  · intro r hr
    show (unl (unl g9 p) q).1 69 r = _ ∧ (unl (unl g9 p) q).1 70 r = _
    rw [unl_69, unl_70, unl_69, unl_70, unl_n (j := 74) (by decide) (by decide), unl_n (j := 75) (by decide) (by decide), hf 74 (by omega), hf 75 (by omega)]
    obtain ⟨e1, e2⟩ := s3 r hr
    have e1' : g9.1 69 r = enI (V'.1 r) := e1
    have e2' : g9.1 70 r = nI (V'.2 r) := e2
    unfold upd
    by_cases h : r = q
    · rw [if_pos h, if_pos h, h]; exact h74 q hq
    · rw [if_neg h, if_neg h]
      by_cases h2 : r = p
      · rw [if_pos h2, if_pos h2, h2]; exact h74 p hp
      · rw [if_neg h2, if_neg h2, e1', e2', (hV r h2 h).1, (hV r h2 h).2]; exact ⟨rfl, rfl⟩
theorem kLL {X : LN} {np j k : Nat} (hpo : pOk np X.2.2.1 X.2.2.2.1 X.2.2.2.2.1) (hp : j / 14 < X.2.2.1.1) : kL X j ||| 1 <<< (k % 14) < 2 ^ 31 := by
  have h1 : ∀ n, (1 : Nat) <<< (n % 14) < 2 ^ 14 := fun n => by rw [Nat.one_shiftLeft]; exact Nat.pow_lt_pow_right (by decide) (by omega)
  have := Nat.or_lt_two_pow (Nat.or_lt_two_pow (hpo.2 _ hp).2.2.2.2 (h1 j)) (h1 k)
  exact Nat.lt_trans this (by decide)

set_option maxHeartbeats 4000000 in
set_option maxRecDepth 100000 in
theorem c_areBothInTime {ad : Nat → Nat} {g : St} {X : LN} {a t d : Nat} (hl : LsC g X a t d) (hT : TbC g X t 84) (ha : a < X.1) (ht : t < X.1) (hd : d ≤ 999) {j k : Nat} (hj : j < 84) (hk : k < 84) (cj : cbL X j = true) (ck : cbL X k = true) (hn : ∀ i, i < 84 → oneB X a t d i = false) {x y : Int32} (hx : x = nI j) (hy : y = nI k) : Ci 6 mX5_areBothInTime [.ref 67, .int x, .int y] ad g (fun v g' => v = B1 (twoB X a t d j k) ∧ Fr g g' ∧ LsC g' X a t d ∧ TbC g' X t 84 ∧ g'.1 67 9 = g.1 67 9) := by
  subst hx; subst hy
  obtain ⟨hX1, hgs, ⟨h6, h7, h8⟩, h74⟩ := id hl
  obtain ⟨hok, hpo, hlaw, x1, hW, hPs, x4⟩ := id hX1
  have h10 := hok.2.1
  have hq6 := hpo.1
  have hpj : j / 14 < X.2.2.1.1 := by unfold cbL at cj; simp only [Bool.and_eq_true, decide_eq_true_eq] at cj; exact cj.1
  have hpk : k / 14 < X.2.2.1.1 := by unfold cbL at ck; simp only [Bool.and_eq_true, decide_eq_true_eq] at ck; exact ck.1
  refine Cm.mk rfl (Nat.le_of_ble_eq_true rfl) (fun K hK hR hm hnn => ?_)
  have h85 : ∀ (g2 : St) (V' : VT), GsC g2 68 X.1 X.2.2.1 V' → (∀ r, r ≠ j / 14 → r ≠ k / 14 → V'.1 r = (vX X t false).1 r ∧ V'.2 r = (vX X t false).2 r) → (∀ i, (i ≤ 21 ∨ i = 67 ∨ 72 ≤ i) → g2.1 i = g.1 i) → (∀ i, g2.2 i = g.2 i) → twoB X a t d j k = inT X.2.2.1 V' a t d → Wp K 0 0 TT ad g2 85 [(0, .ref 67), (1, .int (nI j)), (2, .int (nI k)), (3, .int (nI (j / 14))), (4, .int (nI (k / 14)))] [] := by
    intro g2 V' hs hV hf hl2 htw
    have k6 : g2.1 67 6 = nI a := by rw [hf 67 (by omega)]; exact h6
    have k7 : g2.1 67 7 = nI t := by rw [hf 67 (by omega)]; exact h7
    have k8 : g2.1 67 8 = nI d := by rw [hf 67 (by omega)]; exact h8
    refine r_aload_n (i := 0) hK dX5_areBothInTime_85 rfl rfl ?_
    refine r_ci0 hK hnn (c_isInTime hs (by omega) (by omega) hd k6 k7 k8) moX5_isInTime mlX5_54 to_67 rfl rfl dX5_areBothInTime_86 (Nat.le_of_ble_eq_true rfl) (Nat.le_of_ble_eq_true rfl) (fun v86 g86 q86 => ?_)
    obtain ⟨rfl, f9, rfl⟩ := q86
    have n9 : ∀ i, i ≠ 69 → i ≠ 70 → i ≠ 71 → (unl (unl (upR g2 71 f9) (j / 14)) (k / 14)).1 i = g2.1 i := fun i h1 h2 h3 => (unl_n h1 h2).trans ((unl_n h1 h2).trans (upR_n h3))
    refine r_istore (i := 5) hK hm dX5_areBothInTime_89 (by decide) ?_
    refine r_aload_n (i := 0) hK dX5_areBothInTime_91 rfl rfl ?_
    refine r_iload_n (i := 3) hK dX5_areBothInTime_92 rfl rfl ?_
    refine r_cv1 hK hnn (c_unlearn rfl (by omega)) moX5_unlearn mlX5_85 to_67 rfl rfl dX5_areBothInTime_93 (Nat.le_of_ble_eq_true rfl) (Nat.le_of_ble_eq_true rfl) (eqV ?_)
    refine r_aload_n (i := 0) hK dX5_areBothInTime_96 rfl rfl ?_
    refine r_iload (i := 4) hK dX5_areBothInTime_97 rfl ?_
    refine r_cv1 hK hnn (c_unlearn rfl (by omega)) moX5_unlearn mlX5_85 to_67 rfl rfl dX5_areBothInTime_99 (Nat.le_of_ble_eq_true rfl) (Nat.le_of_ble_eq_true rfl) (eqV ?_)
    refine r_iload (i := 5) hK dX5_areBothInTime_102 rfl ?_
    refine q_zret hK hR dX5_areBothInTime_104 (by unfold B1; split; exact Or.inr rfl; exact Or.inl rfl) ?_
    refine ⟨by rw [htw], ⟨fun i hi => ((n9 i (by omega) (by omega) (by omega)).trans (hf i (by omega))), fun i hi => hl2 i⟩, LsC_bk hl hpj hpk (GsC_of hs (upR_n (by decide)) (upR_n (by decide)) (upR_n (by decide)) (upR_n (by decide))) hV (fun i hi => (upR_n (by omega)).trans (hf i (by omega))), fun i hi hc => by rw [n9 72 (by decide) (by decide) (by decide), n9 73 (by decide) (by decide) (by decide), hf 72 (by omega), hf 73 (by omega)]; exact hT i hi hc, congrFun ((n9 67 (by decide) (by decide) (by decide)).trans (hf 67 (by omega))) 9⟩
  refine r_iload_n (i := 1) hK dX5_areBothInTime_0 rfl rfl ?_
  refine r_bipush (v := 14) hK dX5_areBothInTime_1 (by decide) ?_
  refine r_idiv hK dX5_areBothInTime_3 (by decide) ?_
  refine r_top (y := nI (j / 14)) (d14 hj) ?_
  refine r_istore_n (i := 3) hK hm dX5_areBothInTime_4 rfl (by decide) ?_
  refine r_iload_n (i := 2) hK dX5_areBothInTime_5 rfl rfl ?_
  refine r_bipush (v := 14) hK dX5_areBothInTime_6 (by decide) ?_
  refine r_idiv hK dX5_areBothInTime_8 (by decide) ?_
  refine r_top (y := nI (k / 14)) (d14 hk) ?_
  refine r_istore (i := 4) hK hm dX5_areBothInTime_9 (by decide) ?_
  refine r_iload_n (i := 3) hK dX5_areBothInTime_11 rfl rfl ?_
  refine r_iload (i := 4) hK dX5_areBothInTime_12 rfl ?_
  refine r_icmp_ne (tgt := 57) hK dX5_areBothInTime_14 (by decide) (fun h14 => ?_) (fun h14 => ?_)
  · refine r_aload_n (i := 0) hK dX5_areBothInTime_57 rfl rfl ?_
    refine r_iload_n (i := 1) hK dX5_areBothInTime_58 rfl rfl ?_
    refine r_ci1 hK hnn (c_changesNothing rfl hj) moX5_changesNothing mlX5_96 to_67 rfl rfl dX5_areBothInTime_59 (Nat.le_of_ble_eq_true rfl) (Nat.le_of_ble_eq_true rfl) (eqI ?_)
    refine r_if_ne (tgt := 73) hK dX5_areBothInTime_62 (by decide) (fun h62 => ?_) (fun h62 => ?_)
    · refine r_iconst (v := 0) hK dX5_areBothInTime_73 (by decide) ?_
      refine q_zret hK hR dX5_areBothInTime_74 (by first | exact Or.inl rfl | exact Or.inr rfl | assumption) ?_
      refine ⟨?_, Fr.rf, hl, hT, rfl⟩
      have hne : ¬ j / 14 = k / 14 := fun z => h14 (by rw [z])
      refine (congrArg B1 (?_ : twoB X a t d j k = false)).symm
      unfold twoB
      rw [if_neg hne]
      have ho : ∀ i, i < 84 → cbL X i = true → inT X.2.2.1 (upV (vX X t false) (i / 14) (lE X t (i / 14) (kL X i)) (lM X t (i / 14) (kL X i))) a t d = false := fun i hi hc => by have q := hn i hi; unfold oneB at q; rw [hc] at q; exact q
      first
        | (rw [cgN_up hl hT hj cj (B1_n.mp h62)]; exact ho k hk ck)
        | (rw [upV_comm hne, cgN_up hl hT hk ck (B1_n.mp h70)]; exact ho j hj cj)
    · refine r_aload_n (i := 0) hK dX5_areBothInTime_65 rfl rfl ?_
      refine r_iload_n (i := 2) hK dX5_areBothInTime_66 rfl rfl ?_
      refine r_ci1 hK hnn (c_changesNothing rfl hk) moX5_changesNothing mlX5_96 to_67 rfl rfl dX5_areBothInTime_67 (Nat.le_of_ble_eq_true rfl) (Nat.le_of_ble_eq_true rfl) (eqI ?_)
      refine r_if_eq (tgt := 75) hK dX5_areBothInTime_70 (by decide) (fun h70 => ?_) (fun h70 => ?_)
      · refine r_aload_n (i := 0) hK dX5_areBothInTime_75 rfl rfl ?_
        refine r_iload_n (i := 1) hK dX5_areBothInTime_76 rfl rfl ?_
        refine r_cv1 hK hnn (c_apply rfl hj) moX5_apply mlX5_99 to_67 rfl rfl dX5_areBothInTime_77 (Nat.le_of_ble_eq_true rfl) (Nat.le_of_ble_eq_true rfl) (eqV ?_)
        refine r_aload_n (i := 0) hK dX5_areBothInTime_80 rfl rfl ?_
        refine r_iload_n (i := 2) hK dX5_areBothInTime_81 rfl rfl ?_
        refine r_cv1 hK hnn (c_apply rfl hk) moX5_apply mlX5_99 to_67 rfl rfl dX5_areBothInTime_82 (Nat.le_of_ble_eq_true rfl) (Nat.le_of_ble_eq_true rfl) (eqV ?_)
        have hne : ¬ j / 14 = k / 14 := fun z => h14 (by rw [z])
        obtain ⟨j1, j2⟩ := hT j hj cj
        obtain ⟨k1, k2⟩ := hT k hk ck
        obtain ⟨g5, hg5⟩ : ∃ g5, g5 = gE g 68 (upd (g.1 69) (j / 14) (g.1 72 j)) (upd (g.1 70) (j / 14) (g.1 73 j)) := ⟨_, rfl⟩
        rw [← hg5]
        have hsA : GsC g5 68 X.1 X.2.2.1 (upV (vX X t false) (j / 14) (lE X t (j / 14) (kL X j)) (lM X t (j / 14) (kL X j))) := by rw [hg5]; exact GsC_ap hgs (upV_ok hok hpo hgs.1 hpj) (by omega) j1 j2
        have n5 : ∀ i, i ≠ 69 → i ≠ 70 → g5.1 i = g.1 i := fun i h1 h2 => by rw [hg5]; exact gE_n (by omega) (by omega)
        have hs3 : GsC (gE g5 68 (upd (g5.1 69) (k / 14) (g5.1 72 k)) (upd (g5.1 70) (k / 14) (g5.1 73 k))) 68 X.1 X.2.2.1 (upV (upV (vX X t false) (j / 14) (lE X t (j / 14) (kL X j)) (lM X t (j / 14) (kL X j))) (k / 14) (lE X t (k / 14) (kL X k)) (lM X t (k / 14) (kL X k))) := GsC_ap hsA (upV_ok hok hpo hsA.1 hpk) (by omega) ((congrFun (n5 72 (by decide) (by decide)) k).trans k1) ((congrFun (n5 73 (by decide) (by decide)) k).trans k2)
        have hV3 : ∀ r, r ≠ j / 14 → r ≠ k / 14 → (upV (upV (vX X t false) (j / 14) (lE X t (j / 14) (kL X j)) (lM X t (j / 14) (kL X j))) (k / 14) (lE X t (k / 14) (kL X k)) (lM X t (k / 14) (kL X k))).1 r = (vX X t false).1 r ∧ (upV (upV (vX X t false) (j / 14) (lE X t (j / 14) (kL X j)) (lM X t (j / 14) (kL X j))) (k / 14) (lE X t (k / 14) (kL X k)) (lM X t (k / 14) (kL X k))).2 r = (vX X t false).2 r := fun r h1 h2 => ⟨(if_neg h2).trans (if_neg h1), (if_neg h2).trans (if_neg h1)⟩
        have hF3 : ∀ i, (i ≤ 21 ∨ i = 67 ∨ 72 ≤ i) → (gE g5 68 (upd (g5.1 69) (k / 14) (g5.1 72 k)) (upd (g5.1 70) (k / 14) (g5.1 73 k))).1 i = g.1 i := fun i hi => (gE_n (by omega) (by omega)).trans (n5 i (by omega) (by omega))
        have hL3 : ∀ i, (gE g5 68 (upd (g5.1 69) (k / 14) (g5.1 72 k)) (upd (g5.1 70) (k / 14) (g5.1 73 k))).2 i = g.2 i := fun i => by rw [hg5]; rfl
        have htw3 : twoB X a t d j k = inT X.2.2.1 (upV (upV (vX X t false) (j / 14) (lE X t (j / 14) (kL X j)) (lM X t (j / 14) (kL X j))) (k / 14) (lE X t (k / 14) (kL X k)) (lM X t (k / 14) (kL X k))) a t d := by unfold twoB; rw [if_neg hne]
        first
          | (refine r_loc ?_ (h85 _ _ hs2 hV2 hF2 hL2 htw); rfl)
          | (refine r_loc ?_ (h85 _ _ hs3 hV3 hF3 hL3 htw3); rfl)
      · refine r_iconst (v := 0) hK dX5_areBothInTime_73 (by decide) ?_
        refine q_zret hK hR dX5_areBothInTime_74 (by first | exact Or.inl rfl | exact Or.inr rfl | assumption) ?_
        refine ⟨?_, Fr.rf, hl, hT, rfl⟩
        have hne : ¬ j / 14 = k / 14 := fun z => h14 (by rw [z])
        refine (congrArg B1 (?_ : twoB X a t d j k = false)).symm
        unfold twoB
        rw [if_neg hne]
        have ho : ∀ i, i < 84 → cbL X i = true → inT X.2.2.1 (upV (vX X t false) (i / 14) (lE X t (i / 14) (kL X i)) (lM X t (i / 14) (kL X i))) a t d = false := fun i hi hc => by have q := hn i hi; unfold oneB at q; rw [hc] at q; exact q
        first
          | (rw [cgN_up hl hT hj cj (B1_n.mp h62)]; exact ho k hk ck)
          | (rw [upV_comm hne, cgN_up hl hT hk ck (B1_n.mp h70)]; exact ho j hj cj)
  · refine r_aload_n (i := 0) hK dX5_areBothInTime_17 rfl rfl ?_
    refine r_getA hK flX5_28 to_67 rfl dX5_areBothInTime_18 ?_
    refine r_iload_n (i := 3) hK dX5_areBothInTime_21 rfl rfl ?_
    refine r_aload_n (i := 0) hK dX5_areBothInTime_22 rfl rfl ?_
    refine r_getA hK flX5_24 to_67 rfl dX5_areBothInTime_23 ?_
    refine r_getA hK flX5_65 to_13 rfl dX5_areBothInTime_26 ?_
    refine r_iload_n (i := 3) hK dX5_areBothInTime_29 rfl rfl ?_
    refine r_si2 hK hnn (c_atE to_21 (by decide) rfl (by omega) (hPs.2 _ hpj).2.2.2.2) moX9_at mlX5_70 dX5_areBothInTime_30 (Nat.le_of_ble_eq_true rfl) (Nat.le_of_ble_eq_true rfl) (eqI ?_)
    refine r_iconst (v := 1) hK dX5_areBothInTime_33 (by decide) ?_
    refine r_iload_n (i := 1) hK dX5_areBothInTime_34 rfl rfl ?_
    refine r_bipush (v := 14) hK dX5_areBothInTime_35 (by decide) ?_
    refine r_irem hK dX5_areBothInTime_37 (by decide) ?_
    refine r_top (y := nI (j % 14)) (m14 hj) ?_
    refine r_ishl hK dX5_areBothInTime_38 ?_
    refine r_ior hK dX5_areBothInTime_39 ?_
    refine r_top (y := nI (kL X j)) (setbit (by omega)) ?_
    refine r_iconst (v := 1) hK dX5_areBothInTime_40 (by decide) ?_
    refine r_iload_n (i := 2) hK dX5_areBothInTime_41 rfl rfl ?_
    refine r_bipush (v := 14) hK dX5_areBothInTime_42 (by decide) ?_
    refine r_irem hK dX5_areBothInTime_44 (by decide) ?_
    refine r_top (y := nI (k % 14)) (m14 hk) ?_
    refine r_ishl hK dX5_areBothInTime_45 ?_
    refine r_ior hK dX5_areBothInTime_46 ?_
    refine r_top (y := nI (kL X j ||| 1 <<< (k % 14))) (setbit (by omega)) ?_
    refine r_aload_n (i := 0) hK dX5_areBothInTime_47 rfl rfl ?_
    refine r_getI hK flX5_36 to_67 rfl dX5_areBothInTime_48 ?_
    refine r_top (y := nI t) h7 ?_
    refine r_cv3 hK hnn (c_ask (k := kL X j ||| 1 <<< (k % 14)) hok hpo hW hPs ht gp_68 rfl hpj (kLL hpo hpj)) moX1_ask mlX5_74 to_68 rfl rfl dX5_areBothInTime_51 (Nat.le_of_ble_eq_true rfl) (Nat.le_of_ble_eq_true rfl) (fun g51 q51 => ?_)
    obtain ⟨f1, f2, f3, v, he⟩ := q51
    have e14 : j / 14 = k / 14 := nI_inj (by omega) (by omega) h14
    have hs2 : GsC g51 68 X.1 X.2.2.1 (upV (vX X t false) (j / 14) (lE X t (j / 14) (kL X j ||| 1 <<< (k % 14))) (lM X t (j / 14) (kL X j ||| 1 <<< (k % 14)))) := by rw [he]; exact GsC_ask hok hpo (by omega) hgs hpj
    have hV2 : ∀ r, r ≠ j / 14 → r ≠ k / 14 → (upV (vX X t false) (j / 14) (lE X t (j / 14) (kL X j ||| 1 <<< (k % 14))) (lM X t (j / 14) (kL X j ||| 1 <<< (k % 14)))).1 r = (vX X t false).1 r ∧ (upV (vX X t false) (j / 14) (lE X t (j / 14) (kL X j ||| 1 <<< (k % 14))) (lM X t (j / 14) (kL X j ||| 1 <<< (k % 14)))).2 r = (vX X t false).2 r := fun r h1 h2 => ⟨if_neg h1, if_neg h1⟩
    have hF2 : ∀ i, (i ≤ 21 ∨ i = 67 ∨ 72 ≤ i) → g51.1 i = g.1 i := fun i hi => by rw [he, gE_n (by omega) (by omega), pG_n (by omega)]
    have hL2 : ∀ i, g51.2 i = g.2 i := fun i => by rw [he]; rfl
    have htw : twoB X a t d j k = inT X.2.2.1 (upV (vX X t false) (j / 14) (lE X t (j / 14) (kL X j ||| 1 <<< (k % 14))) (lM X t (j / 14) (kL X j ||| 1 <<< (k % 14)))) a t d := by unfold twoB; rw [if_pos e14]
    refine r_goto (tgt := 85) hK dX5_areBothInTime_54 (by decide) ?_
    first
      | (refine r_loc ?_ (h85 _ _ hs2 hV2 hF2 hL2 htw); rfl)
      | (refine r_loc ?_ (h85 _ _ hs3 hV3 hF3 hL3 htw3); rfl)
