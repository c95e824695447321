/-! THE JOURNAL looked at -/
/-- (logged, persons, targets, pieces, went), (missed, persons, minutes) -/
abbrev JN : Type := (Nat × (Nat → Nat) × (Nat → Nat) × (Nat → Nat) × (Nat → Nat)) × (Nat × (Nat → Nat) × (Nat → Nat))
def JC (g : St) (X : LN) (J : JN) : Prop := (g.1 77 6 = nI J.1.1 ∧ J.1.1 ≤ 30 ∧ ∀ i, i < J.1.1 → (g.1 78 i = nI (J.1.2.1 i) ∧ g.1 79 i = nI (J.1.2.2.1 i) ∧ g.1 80 i = nI (J.1.2.2.2.1 i) ∧ g.1 81 i = nI (J.1.2.2.2.2 i)) ∧ J.1.2.1 i < X.2.2.1.1 ∧ J.1.2.2.1 i < X.1 ∧ J.1.2.2.2.1 i ≤ 9 ∧ J.1.2.2.2.2 i < X.1) ∧ (g.1 77 7 = nI J.2.1 ∧ J.2.1 ≤ 8 ∧ ∀ i, i < J.2.1 → (g.1 82 i = nI (J.2.2.1 i) ∧ g.1 83 i = nI (J.2.2.2 i)) ∧ J.2.2.1 i < X.2.2.1.1 ∧ J.2.2.2 i ≤ 999)
theorem JC_of {g g' : St} {X : LN} {J : JN} (h : JC g X J) (hf : ∀ j, 76 < j → j < 84 → g'.1 j = g.1 j) : JC g' X J := by
  unfold JC at *
  rw [hf 77 (by omega) (by omega), hf 78 (by omega) (by omega), hf 79 (by omega) (by omega), hf 80 (by omega) (by omega), hf 81 (by omega) (by omega), hf 82 (by omega) (by omega), hf 83 (by omega) (by omega)]
  exact h
def fiB (X : LN) (J : JN) (i : Nat) : Bool := decide (asS X (J.2.2.2 i) (J.2.2.1 i) X.1 = 0)
def aFit (X : LN) (J : JN) : Int32 := if fdF (fiB X J) J.2.1 0 < J.2.1 then 0 else 1
def juB (X : LN) (J : JN) (i : Nat) : Bool := decide (rn0 X.2.1 (knb (X.2.2.2.2.1 (J.1.2.1 i))) (J.1.2.2.1 i) (X.2.2.1.2.1 (J.1.2.1 i)) < J.1.2.2.2.1 i) || !decide (sL X.2.1 (knb (X.2.2.2.2.1 (J.1.2.1 i))) (J.1.2.2.1 i) (X.2.2.1.2.1 (J.1.2.1 i)) X.2.2.2.2.2 (J.1.2.2.2.1 i) = J.1.2.2.2.2 i)
def aJud (X : LN) (J : JN) : Int32 := if fdF (juB X J) J.1.1 0 < J.1.1 then nI (fdF (juB X J) J.1.1 0) else -1

theorem asS_lt31 {g : St} {X : LN} (hX : LC g X) (mm p : Nat) : asS X mm p X.1 < 2 ^ 31 := Nat.lt_trans (asS_lt X.1 hX.1.2.1) (by decide)
set_option maxHeartbeats 4000000 in
set_option maxRecDepth 100000 in
theorem l_fi {K : KT} {ad : Nat → Nat} {g : St} {X : LN} (hX : LC g X) {J : JN} (hJ : JC g X J) (hK : Cx K RX9 cX9_fits 7 ad) (hm : K.2.2.1.2.maxLocals = 2) (hnn : Nn K 0 0)
    (hR : Rt K 0 0 TT ad (some .int) (Qi ad (fun v g' => v = aFit X J ∧ Fr g g'))) :
    ∀ m i, i + m = J.2.1 → fdF (fiB X J) m i = fdF (fiB X J) J.2.1 0 → ∀ g1 : St, Fr g g1 → Wp K 0 0 TT ad g1 2 [(0, .ref 0), (1, .int (nI i))] [] := by
  intro m
  induction m with
  | zero =>
    intro i him hfd g1 hfr
    obtain ⟨j1, hM1, hM2, hM3⟩ := JC_of hJ (fun j h1 h2 => hfr.1 j (by omega))
    refine r_iload_n (i := 1) hK dX9_fits_2 rfl rfl ?_
    refine r_aload_n (i := 0) hK dX9_fits_3 rfl rfl ?_
    refine r_getA hK flX9_65 to_0 rfl dX9_fits_4 ?_
    refine r_getI hK flX9_122 to_77 rfl dX9_fits_7 ?_
    refine r_top (y := nI J.2.1) hM1 ?_
    refine r_icmp_ge (tgt := 50) hK dX9_fits_10 (by decide) (fun _ => ?_) (fun h => absurd (nI_le (by omega) (by omega)) h)
    refine r_iconst (v := 1) hK dX9_fits_50 (by decide) ?_
    refine q_iret hK hR dX9_fits_51 ⟨?_, hfr⟩
    unfold aFit
    rw [← hfd, if_neg (by show ¬ i < J.2.1; omega)]
  | succ m ih =>
    intro i him hfd g1 hfr
    have hX1 := LC_of hX hfr
    have hi : i < J.2.1 := by omega
    obtain ⟨j1, hM1, hM2, hM3⟩ := JC_of hJ (fun j h1 h2 => hfr.1 j (by omega))
    obtain ⟨⟨hq1, hq2⟩, hq3, hq4⟩ := hM3 i hi
    refine r_iload_n (i := 1) hK dX9_fits_2 rfl rfl ?_
    refine r_aload_n (i := 0) hK dX9_fits_3 rfl rfl ?_
    refine r_getA hK flX9_65 to_0 rfl dX9_fits_4 ?_
    refine r_getI hK flX9_122 to_77 rfl dX9_fits_7 ?_
    refine r_top (y := nI J.2.1) hM1 ?_
    refine r_icmp_ge (tgt := 50) hK dX9_fits_10 (by decide) (fun h => absurd h (nI_ge hi (by omega))) (fun _ => ?_)
    refine r_aload_n (i := 0) hK dX9_fits_13 rfl rfl ?_
    refine r_aload_n (i := 0) hK dX9_fits_14 rfl rfl ?_
    refine r_getA hK flX9_65 to_0 rfl dX9_fits_15 ?_
    refine r_getA hK flX9_274 to_77 rfl dX9_fits_18 ?_
    refine r_iload_n (i := 1) hK dX9_fits_21 rfl rfl ?_
    refine r_si2 hK hnn (c_atE to_82 (by decide) rfl (by omega) hq1) moX9_at mlX9_134 dX9_fits_22 (Nat.le_of_ble_eq_true rfl) (Nat.le_of_ble_eq_true rfl) (eqI ?_)
    refine r_aload_n (i := 0) hK dX9_fits_25 rfl rfl ?_
    refine r_getA hK flX9_65 to_0 rfl dX9_fits_26 ?_
    refine r_getA hK flX9_277 to_77 rfl dX9_fits_29 ?_
    refine r_iload_n (i := 1) hK dX9_fits_32 rfl rfl ?_
    refine r_si2 hK hnn (c_atE to_83 (by decide) rfl (by omega) hq2) moX9_at mlX9_134 dX9_fits_33 (Nat.le_of_ble_eq_true rfl) (Nat.le_of_ble_eq_true rfl) (eqI ?_)
    refine r_ci2 hK hnn (c_askedFor hX1 rfl hq3 rfl (by omega)) moX9_askedFor mlX9_268 to_0 rfl rfl dX9_fits_36 (Nat.le_of_ble_eq_true rfl) (Nat.le_of_ble_eq_true rfl) (fun v36 g36 q36 => ?_)
    obtain ⟨rfl, hfr2⟩ := q36
    refine r_if_ne (tgt := 44) hK dX9_fits_39 (by decide) (fun h39 => ?_) (fun h39 => ?_)
    · refine r_iincN (i := 1) hK hm dX9_fits_44 rfl (by decide) ?_
      refine r_goto (tgt := 2) hK dX9_fits_47 (by decide) ?_
      refine r_loc ?_ (ih (i + 1) (by omega) ?_ _ (hfr.tr hfr2))
      · rfl
      · rw [← hfd, fdF_succ, if_neg (fun z => h39 (by unfold fiB at z; rw [of_decide_eq_true z]; rfl))]
    · refine r_iconst (v := 0) hK dX9_fits_42 (by decide) ?_
      refine q_iret hK hR dX9_fits_43 ?_
      refine ⟨?_, hfr.tr hfr2⟩
      have hz : fiB X J i = true := decide_eq_true (nI_inj (asS_lt31 hX1 _ _) (by decide) h39)
      unfold aFit
      rw [← hfd, fdF_succ, if_pos hz, if_pos hi]
set_option maxHeartbeats 4000000 in
set_option maxRecDepth 100000 in
theorem c_fits {ad : Nat → Nat} {g : St} {X : LN} (hX : LC g X) {J : JN} (hJ : JC g X J) : Ci 7 mX9_fits [.ref 0] ad g (fun v g' => v = aFit X J ∧ Fr g g') := by
  refine Cm.mk rfl (Nat.le_of_ble_eq_true rfl) (fun K hK hR hm hnn => ?_)
  refine r_iconst (v := 0) hK dX9_fits_0 (by decide) ?_
  refine r_istore_n (i := 1) hK hm dX9_fits_1 rfl (by decide) ?_
  refine r_loc ?_ (l_fi hX hJ hK hm hnn hR J.2.1 0 (by omega) rfl g Fr.rf)
  rfl
theorem sL_b {np : Nat} {D : WD} (h : wOk np D) (kn : Nat → Bool) (t : Nat) {a : Nat} (ha : a < np) (law : Nat) {j : Nat} (hj : j ≤ rn0 D kn t a) : sL D kn t a law j < np := by
  have ho := oL_le (law := law) (k := j)
  unfold sL
  exact ((rt_b h kn t ha).2 _ (by split <;> omega)).1
set_option maxHeartbeats 4000000 in
set_option maxRecDepth 100000 in
theorem l_ju {K : KT} {ad : Nat → Nat} {g : St} {X : LN} (hX : LC g X) {J : JN} (hJ : JC g X J) (hK : Cx K RX9 cX9_judge 6 ad) (hm : K.2.2.1.2.maxLocals = 5) (hnn : Nn K 0 0)
    (hR : Rt K 0 0 TT ad (some .int) (Qi ad (fun v g' => v = aJud X J ∧ Fr g g'))) :
    ∀ m i, i + m = J.1.1 → fdF (juB X J) m i = fdF (juB X J) J.1.1 0 → ∀ g1 : St, Fr g g1 → Wp K 0 0 TT ad g1 2 [(0, .ref 0), (1, .int (nI i))] [] := by
  intro m
  induction m with
  | zero =>
    intro i him hfd g1 hfr
    obtain ⟨⟨hL1, hL2, hL3⟩, j2⟩ := JC_of hJ (fun j h1 h2 => hfr.1 j (by omega))
    refine r_iload_n (i := 1) hK dX9_judge_2 rfl rfl ?_
    refine r_aload_n (i := 0) hK dX9_judge_3 rfl rfl ?_
    refine r_getA hK flX9_65 to_0 rfl dX9_judge_4 ?_
    refine r_getI hK flX9_119 to_77 rfl dX9_judge_7 ?_
    refine r_top (y := nI J.1.1) hL1 ?_
    refine r_icmp_ge (tgt := 125) hK dX9_judge_10 (by decide) (fun _ => ?_) (fun h => absurd (nI_le (by omega) (by omega)) h)
    refine r_iconst (v := (-1)) hK dX9_judge_125 (by decide) ?_
    refine q_iret hK hR dX9_judge_126 ⟨?_, hfr⟩
    unfold aJud
    rw [← hfd, if_neg (by show ¬ i < J.1.1; omega)]
  | succ m ih =>
    intro i him hfd g1 hfr
    have hX1 := LC_of hX hfr
    obtain ⟨hok, hpo, hlaw, x1, hW, hPs, x4⟩ := id hX1
    have h10 := hok.2.1
    have h6 := hpo.1
    have hi : i < J.1.1 := by omega
    obtain ⟨⟨hL1, hL2, hL3⟩, j2⟩ := JC_of hJ (fun j h1 h2 => hfr.1 j (by omega))
    obtain ⟨⟨hq1, hq2, hq3, hq4⟩, hq5, hq6, hq7, hq8⟩ := hL3 i hi
    have hp1 := (hpo.2 _ hq5).1
    refine r_iload_n (i := 1) hK dX9_judge_2 rfl rfl ?_
    refine r_aload_n (i := 0) hK dX9_judge_3 rfl rfl ?_
    refine r_getA hK flX9_65 to_0 rfl dX9_judge_4 ?_
    refine r_getI hK flX9_119 to_77 rfl dX9_judge_7 ?_
    refine r_top (y := nI J.1.1) hL1 ?_
    refine r_icmp_ge (tgt := 125) hK dX9_judge_10 (by decide) (fun h => absurd h (nI_ge hi (by omega))) (fun _ => ?_)
    refine r_aload_n (i := 0) hK dX9_judge_13 rfl rfl ?_
    refine r_getA hK flX9_65 to_0 rfl dX9_judge_14 ?_
    refine r_getA hK flX9_283 to_77 rfl dX9_judge_17 ?_
    refine r_iload_n (i := 1) hK dX9_judge_20 rfl rfl ?_
    refine r_si2 hK hnn (c_atE to_78 (by decide) rfl (by omega) hq1) moX9_at mlX9_134 dX9_judge_21 (Nat.le_of_ble_eq_true rfl) (Nat.le_of_ble_eq_true rfl) (eqI ?_)
    refine r_istore_n (i := 2) hK hm dX9_judge_24 rfl (by decide) ?_
    refine r_aload_n (i := 0) hK dX9_judge_25 rfl rfl ?_
    refine r_getA hK flX9_65 to_0 rfl dX9_judge_26 ?_
    refine r_getA hK flX9_285 to_77 rfl dX9_judge_29 ?_
    refine r_iload_n (i := 1) hK dX9_judge_32 rfl rfl ?_
    refine r_si2 hK hnn (c_atE to_80 (by decide) rfl (by omega) hq3) moX9_at mlX9_134 dX9_judge_33 (Nat.le_of_ble_eq_true rfl) (Nat.le_of_ble_eq_true rfl) (eqI ?_)
    refine r_istore_n (i := 3) hK hm dX9_judge_36 rfl (by decide) ?_
    refine r_aload_n (i := 0) hK dX9_judge_37 rfl rfl ?_
    refine r_iload_n (i := 2) hK dX9_judge_38 rfl rfl ?_
    refine r_aload_n (i := 0) hK dX9_judge_39 rfl rfl ?_
    refine r_getA hK flX9_26 to_0 rfl dX9_judge_40 ?_
    refine r_getA hK flX9_147 to_13 rfl dX9_judge_43 ?_
    refine r_iload_n (i := 2) hK dX9_judge_46 rfl rfl ?_
    refine r_si2 hK hnn (c_atE to_17 (by decide) rfl (by omega) (hPs.2 _ hq5).1) moX9_at mlX9_134 dX9_judge_47 (Nat.le_of_ble_eq_true rfl) (Nat.le_of_ble_eq_true rfl) (eqI ?_)
    refine r_aload_n (i := 0) hK dX9_judge_50 rfl rfl ?_
    refine r_getA hK flX9_65 to_0 rfl dX9_judge_51 ?_
    refine r_getA hK flX9_287 to_77 rfl dX9_judge_54 ?_
    refine r_iload_n (i := 1) hK dX9_judge_57 rfl rfl ?_
    refine r_si2 hK hnn (c_atE to_79 (by decide) rfl (by omega) hq2) moX9_at mlX9_134 dX9_judge_58 (Nat.le_of_ble_eq_true rfl) (Nat.le_of_ble_eq_true rfl) (eqI ?_)
    refine r_cv3 hK hnn (c_seekFor hX1 rfl hq5 rfl hp1 rfl hq6) moX9_seekFor mlX9_177 to_0 rfl rfl dX9_judge_61 (Nat.le_of_ble_eq_true rfl) (Nat.le_of_ble_eq_true rfl) (fun g61 q61 => ?_)
    obtain ⟨f1, f2, f3, v, rfl, hPth⟩ := q61
    have hPc : PthC (pG g1 f1 f2 f3 v) X.2.1 (knb (X.2.2.2.2.1 (J.1.2.1 i))) (J.1.2.2.1 i) (X.2.2.1.2.1 (J.1.2.1 i)) := hPth
    have hv := pth_v hPc
    have hrb := rt_b hok (knb (X.2.2.2.2.1 (J.1.2.1 i))) (J.1.2.2.1 i) hp1
    have hrb1 := hrb.1
    refine r_iload_n (i := 3) hK dX9_judge_64 rfl rfl ?_
    refine r_iconst (v := 0) hK dX9_judge_65 (by decide) ?_
    refine r_aload_n (i := 0) hK dX9_judge_66 rfl rfl ?_
    refine r_getA hK flX9_33 to_0 rfl dX9_judge_67 ?_
    refine r_getI hK flX9_181 to_22 rfl dX9_judge_70 ?_
    refine r_max hK hnn mwX9_290 dX9_judge_73 (Nat.le_of_ble_eq_true rfl) (Nat.le_of_ble_eq_true rfl) ?_
    refine r_top (y := nI (rn0 X.2.1 (knb (X.2.2.2.2.1 (J.1.2.1 i))) (J.1.2.2.1 i) (X.2.2.1.2.1 (J.1.2.1 i)))) ?_ ?_
    · rcases hv with ⟨q1, q2⟩ | ⟨q1, q2, q3⟩
      · rw [q2]; split
        · rename_i hh; have := (nI_ltI (a := 0) (by decide) (by omega)).mp hh; first | rfl | (congr 1; omega)
        · rename_i hh; have hh2 : ¬ 0 < rn0 X.2.1 (knb (X.2.2.2.2.1 (J.1.2.1 i))) (J.1.2.2.1 i) (X.2.2.1.2.1 (J.1.2.1 i)) := fun z => hh (nI_lt (a := 0) z (by omega)); rw [show rn0 X.2.1 (knb (X.2.2.2.2.1 (J.1.2.1 i))) (J.1.2.2.1 i) (X.2.2.1.2.1 (J.1.2.1 i)) = 0 by omega]; rfl
      · rw [q2, q3]; rfl
    refine r_icmp_le (tgt := 83) hK dX9_judge_76 (by decide) (fun h76 => ?_) (fun h76 => ?_)
    · refine r_iconst (v := 0) hK dX9_judge_83 (by decide) ?_
      have hkr : J.1.2.2.2.1 i ≤ rn0 X.2.1 (knb (X.2.2.2.2.1 (J.1.2.1 i))) (J.1.2.2.1 i) (X.2.2.1.2.1 (J.1.2.1 i)) := (nI_leI (by omega) (by omega)).mp h76
      refine r_istore (i := 4) hK hm dX9_judge_84 (by decide) ?_
      refine r_iload (i := 4) hK dX9_judge_86 rfl ?_
      refine r_if_ne (tgt := 117) hK dX9_judge_88 (by decide) (fun h => absurd rfl h) (fun _ => ?_)
      refine r_aload_n (i := 0) hK dX9_judge_91 rfl rfl ?_
      refine r_getA hK flX9_33 to_0 rfl dX9_judge_92 ?_
      refine r_aload_n (i := 0) hK dX9_judge_95 rfl rfl ?_
      refine r_getI hK flX9_116 to_0 rfl dX9_judge_96 ?_
      refine r_iload_n (i := 3) hK dX9_judge_99 rfl rfl ?_
      refine r_ci2 hK hnn (c_placeByLaw hok hp1 hPc (law := X.2.2.2.2.2) (j := J.1.2.2.2.1 i) ((congrFun (pG_n (by decide)) _).trans x4) hlaw rfl (by omega)) moX6_placeByLaw mlX9_194 to_22 rfl rfl dX9_judge_100 (Nat.le_of_ble_eq_true rfl) (Nat.le_of_ble_eq_true rfl) (eqI ?_)
      have hsb := sL_b hok (knb (X.2.2.2.2.1 (J.1.2.1 i))) (J.1.2.2.1 i) hp1 X.2.2.2.2.2 (j := J.1.2.2.2.1 i) (by omega)
      refine r_aload_n (i := 0) hK dX9_judge_103 rfl rfl ?_
      refine r_getA hK flX9_65 to_0 rfl dX9_judge_104 ?_
      refine r_getA hK flX9_295 to_77 rfl dX9_judge_107 ?_
      refine r_iload_n (i := 1) hK dX9_judge_110 rfl rfl ?_
      refine r_si2 hK hnn (c_atE to_81 (by decide) rfl (by omega) ((congrFun (pG_n (by decide)) _).trans hq4)) moX9_at mlX9_134 dX9_judge_111 (Nat.le_of_ble_eq_true rfl) (Nat.le_of_ble_eq_true rfl) (eqI ?_)
      refine r_icmp_eq (tgt := 119) hK dX9_judge_114 (by decide) (fun h114 => ?_) (fun h114 => ?_)
      · refine r_iincN (i := 1) hK hm dX9_judge_119 rfl (by decide) ?_
        refine r_goto (tgt := 2) hK dX9_judge_122 (by decide) ?_
        refine r_loc ?_ (ih (i + 1) (by omega) ?_ _ (hfr.tr Fr_pG))
        · rfl
        · rw [← hfd, fdF_succ, if_neg]
          unfold juB
          rw [decide_eq_false (p := rn0 X.2.1 (knb (X.2.2.2.2.1 (J.1.2.1 i))) (J.1.2.2.1 i) (X.2.2.1.2.1 (J.1.2.1 i)) < J.1.2.2.2.1 i) (by omega), decide_eq_true (nI_inj (by omega) (by omega) h114)]
          decide
      · refine r_iload_n (i := 1) hK dX9_judge_117 rfl rfl ?_
        refine q_iret hK hR dX9_judge_118 ?_
        refine ⟨?_, hfr.tr Fr_pG⟩
        have hz : juB X J i = true := by
          unfold juB
          first
            | (rw [decide_eq_true (p := rn0 X.2.1 (knb (X.2.2.2.2.1 (J.1.2.1 i))) (J.1.2.2.1 i) (X.2.2.1.2.1 (J.1.2.1 i)) < J.1.2.2.2.1 i) (by omega)]; rfl)
            | (rw [decide_eq_false (p := sL X.2.1 (knb (X.2.2.2.2.1 (J.1.2.1 i))) (J.1.2.2.1 i) (X.2.2.1.2.1 (J.1.2.1 i)) X.2.2.2.2.2 (J.1.2.2.2.1 i) = J.1.2.2.2.2 i) (fun z => h114 (by rw [z]))]; simp)
        unfold aJud
        rw [← hfd, fdF_succ, if_pos hz, if_pos hi]
    · refine r_iconst (v := 1) hK dX9_judge_79 (by decide) ?_
      have hkr : ¬ J.1.2.2.2.1 i ≤ rn0 X.2.1 (knb (X.2.2.2.2.1 (J.1.2.1 i))) (J.1.2.2.1 i) (X.2.2.1.2.1 (J.1.2.1 i)) := fun z => h76 ((nI_leI (by omega) (by omega)).mpr z)
      refine r_goto (tgt := 84) hK dX9_judge_80 (by decide) ?_
      refine r_istore (i := 4) hK hm dX9_judge_84 (by decide) ?_
      refine r_iload (i := 4) hK dX9_judge_86 rfl ?_
      refine r_if_ne (tgt := 117) hK dX9_judge_88 (by decide) (fun _ => ?_) (fun h => absurd h (by decide))
      refine r_iload_n (i := 1) hK dX9_judge_117 rfl rfl ?_
      refine q_iret hK hR dX9_judge_118 ?_
      refine ⟨?_, hfr.tr Fr_pG⟩
      have hz : juB X J i = true := by
        unfold juB
        first
          | (rw [decide_eq_true (p := rn0 X.2.1 (knb (X.2.2.2.2.1 (J.1.2.1 i))) (J.1.2.2.1 i) (X.2.2.1.2.1 (J.1.2.1 i)) < J.1.2.2.2.1 i) (by omega)]; rfl)
          | (rw [decide_eq_false (p := sL X.2.1 (knb (X.2.2.2.2.1 (J.1.2.1 i))) (J.1.2.2.1 i) (X.2.2.1.2.1 (J.1.2.1 i)) X.2.2.2.2.2 (J.1.2.2.2.1 i) = J.1.2.2.2.2 i) (fun z => h114 (by rw [z]))]; simp)
      unfold aJud
      rw [← hfd, fdF_succ, if_pos hz, if_pos hi]
set_option maxHeartbeats 4000000 in
set_option maxRecDepth 100000 in
theorem c_judge {ad : Nat → Nat} {g : St} {X : LN} (hX : LC g X) {J : JN} (hJ : JC g X J) : Ci 6 mX9_judge [.ref 0] ad g (fun v g' => v = aJud X J ∧ Fr g g') := by
  refine Cm.mk rfl (Nat.le_of_ble_eq_true rfl) (fun K hK hR hm hnn => ?_)
  refine r_iconst (v := 0) hK dX9_judge_0 (by decide) ?_
  refine r_istore_n (i := 1) hK hm dX9_judge_1 rfl (by decide) ?_
  refine r_loc ?_ (l_ju hX hJ hK hm hnn hR J.1.1 0 (by omega) rfl g Fr.rf)
  rfl
