/-! THE MODEL: takePerson, walked -/
theorem habG_z {c : CT} {s : Nat} (h : (habG c (0, 0) s).1 = 0) : habG c (0, 0) s = (0, 0) := by
  unfold habG at h ⊢
  split
  · rfl
  · rename_i h1; rw [if_neg h1] at h; exact absurd h (Nat.succ_ne_zero _)
theorem habG_2 {c : CT} {s : Nat} (h : ¬ (habG c (0, 0) s).1 = 0) : (habG c (0, 0) s).2 = s := by
  unfold habG at h ⊢
  split
  · rename_i h1; rw [if_pos h1] at h; exact absurd rfl h
  · rfl
theorem isW_p7 {c : CT} {s : Nat} (h : isW c s 7 = true) : tL c s ≠ 0 := by
  unfold isW at h
  have h2 := ((wdF_i _ _ _).mp h).1
  simp only [Bool.and_eq_true, decide_eq_true_eq] at h2
  rw [h2.2]
  decide
theorem hz9 {F : FP} (h : F.1 ≤ 4) (h2 : nI F.1 = 0) : F.1 = 0 := nI_inj (by omega) (by decide) h2
theorem hzz {F : FP} (h : F.1 ≤ 4) (h2 : nI F.1 ≤ 0) : F.1 = 0 := by
  rw [Int32.le_iff_toInt_le, nI_toInt (by omega)] at h2
  have e : (0 : Int32).toInt = 0 := by decide
  omega
theorem hne {F : FP} (h : ¬ nI F.1 ≤ 0) : ¬ nI F.1 = 0 := fun z => h (by rw [z]; decide)
theorem hne2 {F : FP} (h : ¬ nI F.1 ≤ 0) : ¬ F.1 = 0 := fun z => h (by rw [z]; decide)
theorem hs_2 {c : CT} {s : Nat} {lo hi : Int32} {F : FP} (e : seF c (0, 0) s lo hi = F) (h : ¬ F.1 = 0) : F.2 = s := by
  rw [← e] at h ⊢
  rw [seF_2 h]
set_option maxHeartbeats 4000000 in
set_option maxRecDepth 100000 in
theorem c_mTakePerson {ad : Nat → Nat} {g : St} {n k np wn s p : Nat} {c : CT} (hT : MTx g n c) (hnpf : g.1 91 21 = nI np) (hnp : 1 ≤ np) (hnp9 : np ≤ 10) (hwn : g.1 91 22 = nI wn) (hw14 : wn ≤ 14) (hk : g.1 91 26 = nI k) (hk6 : k < 6) (hpo : g.1 91 16 = nI p) (hps : p = s + tL c s) (hsn : s ≤ n) : Ci 4 mX10_takePerson [.ref 91] ad g (fun v g' => TpQ c g k np wn s v g') := by
  obtain ⟨s1, hs1⟩ : ∃ z, nx c s = z := ⟨_, rfl⟩
  obtain ⟨s2, hs2⟩ : ∃ z, nx c s1 = z := ⟨_, rfl⟩
  obtain ⟨s3, hs3⟩ : ∃ z, nx c s2 = z := ⟨_, rfl⟩
  obtain ⟨s4, hs4⟩ : ∃ z, nx c s3 = z := ⟨_, rfl⟩
  obtain ⟨s5, hs5⟩ : ∃ z, nx c s4 = z := ⟨_, rfl⟩
  have hsA : sk c p = s1 := by rw [hps]; exact hs1
  have hsB : sk c (s1 + tL c s1) = s2 := hs2
  have hsC : sk c (s2 + tL c s2) = s3 := hs3
  have hsD : sk c (s3 + tL c s3) = s4 := hs4
  have hsE : sk c (s4 + tL c s4) = s5 := hs5
  have b1 : s1 ≤ n := by rw [← hs1]; exact (nx_le hT.1 hsn).2
  have b2 : s2 ≤ n := by rw [← hs2]; exact (nx_le hT.1 b1).2
  have b3 : s3 ≤ n := by rw [← hs3]; exact (nx_le hT.1 b2).2
  have b4 : s4 ≤ n := by rw [← hs4]; exact (nx_le hT.1 b3).2
  have hs5n : s5 ≤ n := by rw [← hs5]; exact (nx_le hT.1 b4).2
  obtain ⟨F1, hF1⟩ : ∃ F, seF c (0, 0) s1 (nI 0) (nI (np - 1)) = F := ⟨_, rfl⟩
  obtain ⟨F2, hF2⟩ : ∃ F, seF c (0, 0) s2 (nI 0) (nI (np - 1)) = F := ⟨_, rfl⟩
  obtain ⟨F3, hF3⟩ : ∃ F, seF c (0, 0) s3 (nI 0) (nI 99) = F := ⟨_, rfl⟩
  obtain ⟨F4, hF4⟩ : ∃ F, habG c (0, 0) s4 = F := ⟨_, rfl⟩
  have hpF : pF c np s = habG c (seF c (seF c F1 s2 (nI 0) (nI (np - 1))) s3 (nI 0) (nI 99)) s4 := by unfold pF; rw [hs1, hs2, hs3, hs4, hF1]
  have h4s : ¬ F4.1 = 0 → F4.2 = s4 := fun z => by rw [← hF4] at z ⊢; exact habG_2 z
  have tp0 : ∀ {g' : St} {x : Int32}, PA c g k s1 s2 s3 s4 s5 g' → pF c np s = (0, 0) → ¬ isW c s5 7 = true → x = nI (k + 1) → TpQ c g k np wn s 0 (upI g' 91 26 x) := by intro g' x a d e f; subst hs1 hs2 hs3 hs4 hs5; exact TpQ_ok0 hT.1 a d e b4 f
  have tp1 : ∀ {gE gF : St} {x y v : Int32}, PA c g k s1 s2 s3 s4 s5 gE → pF c np s = (0, 0) → isW c s5 7 = true → KnQ c (upI gE 91 16 y) k (knS c wn 400 0 (0, 0) s5) v gF → ((knS c wn 400 0 (0, 0) s5).2.1.1 = 0 → x = nI (k + 1)) → TpQ c g k np wn s v (upI gF 91 26 x) := by intro gE gF x y v a d e f h; subst hs1 hs2 hs3 hs4 hs5; exact TpQ_ok1 (n := 0) a d e f h
  have hp : p ≤ n := by have := tL_le hT.1 hsn; omega
  have pk0 : PK g (upI g 108 k 0) := PK.rf.up (by omega)
  refine Cm.mk rfl (Nat.le_of_ble_eq_true rfl) (fun K hK hR hm hnn => ?_)
  refine r_aload_n (i := 0) hK dX10_takePerson_0 rfl rfl ?_
  refine r_getI hK flX10_207 to_91 rfl dX10_takePerson_1 ?_
  refine r_top (y := nI k) hk ?_
  refine r_istore_n (i := 1) hK hm dX10_takePerson_4 rfl (by decide) ?_
  refine r_aload_n (i := 0) hK dX10_takePerson_5 rfl rfl ?_
  refine r_getA hK flX10_62 to_91 rfl dX10_takePerson_6 ?_
  refine r_iload_n (i := 1) hK dX10_takePerson_9 rfl rfl ?_
  refine r_iconst (v := 0) hK dX10_takePerson_10 (by decide) ?_
  refine r_iasN hK to_108 rfl hk6 (by decide) dX10_takePerson_11 ?_
  refine r_aload_n (i := 0) hK dX10_takePerson_12 rfl rfl ?_
  refine r_aload_n (i := 0) hK dX10_takePerson_13 rfl rfl ?_
  refine r_getA hK flX10_50 to_91 rfl dX10_takePerson_14 ?_
  refine r_iload_n (i := 1) hK dX10_takePerson_17 rfl rfl ?_
  refine r_iconst (v := 0) hK dX10_takePerson_18 (by decide) ?_
  refine r_top (y := nI 0) rfl ?_
  refine r_aload_n (i := 0) hK dX10_takePerson_19 rfl rfl ?_
  refine r_getI hK flX10_189 to_91 rfl dX10_takePerson_20 ?_
  refine r_top (y := nI np) ((congrFun (upI_n (by decide)) _).trans hnpf) ?_
  refine r_iconst (v := 1) hK dX10_takePerson_23 (by decide) ?_
  refine r_isub hK dX10_takePerson_24 ?_
  refine r_top (y := nI (np - 1)) (pk_sub (a := np) (b := 1) hnp) ?_
  refine r_ci4 hK hnn (c_mInto6 (r := 104) (k := k) (x := nI 0) (y := nI (np - 1)) (MTx_p hT pk0) hp ((congrFun (upI_n (by decide)) _).trans hpo) to_104 rfl hk6) moX10_into mlX10_192 to_91 rfl rfl dX10_takePerson_25 (Nat.le_of_ble_eq_true rfl) (Nat.le_of_ble_eq_true rfl) (fun v25 g25 q25 => ?_)
  obtain ⟨gN25, hN25, rfl⟩ := q25
  rw [hsA] at hN25
  refine r_top (y := nI F1.1) (hN25.2.2.2.1.trans (by rw [hF1])) ?_
  refine r_istore_n (i := 2) hK hm dX10_takePerson_28 rfl (by decide) ?_
  refine r_iload_n (i := 2) hK dX10_takePerson_29 rfl rfl ?_
  refine r_if_le (tgt := 37) hK dX10_takePerson_30 (by decide) (fun h30 => ?_) (fun h30 => ?_)
  · refine r_aload_n (i := 0) hK dX10_takePerson_37 rfl rfl ?_
    have z1 := hzz (F := F1) (by rw [← hF1]; exact seF_ok (by decide)) h30
    have kA := se_v (c := c) (F := (0, 0)) (s := s1) (lo := 0) (hi := (np - 1)) (by omega) (by decide) (by rw [hF1]; exact z1)
    have mA := seF_v (c := c) (s := s1) (lo := nI 0) (hi := nI (np - 1)) (by rw [hF1]; exact z1)
    have iA := IQ_of (r := 104) (k := k) hN25 (by omega) (by rw [hF1]; exact z1) (mA.1.symm.trans kA.1)
    have pkA := pk0.tr (iA.pk (by omega))
    have eF1 : F1 = (0, 0) := by rw [← hF1]; exact seF_z (by rw [hF1]; exact z1)
    have hpA := tL_le hT.1 b1
    refine r_aload_n (i := 0) hK dX10_takePerson_38 rfl rfl ?_
    refine r_getA hK flX10_53 to_91 rfl dX10_takePerson_39 ?_
    refine r_iload_n (i := 1) hK dX10_takePerson_42 rfl rfl ?_
    refine r_iconst (v := 0) hK dX10_takePerson_43 (by decide) ?_
    refine r_top (y := nI 0) rfl ?_
    refine r_aload_n (i := 0) hK dX10_takePerson_44 rfl rfl ?_
    refine r_getI hK flX10_189 to_91 rfl dX10_takePerson_45 ?_
    refine r_top (y := nI np) ((iA.2.2.1 21 (by omega)).trans ((congrFun (upI_n (by decide)) _).trans hnpf)) ?_
    refine r_iconst (v := 1) hK dX10_takePerson_48 (by decide) ?_
    refine r_isub hK dX10_takePerson_49 ?_
    refine r_top (y := nI (np - 1)) (pk_sub (a := np) (b := 1) hnp) ?_
    refine r_ci4 hK hnn (c_mInto6 (r := 105) (k := k) (x := nI 0) (y := nI (np - 1)) (MTx_p hT pkA) hpA iA.2.2.2.2 to_105 rfl hk6) moX10_into mlX10_192 to_91 rfl rfl dX10_takePerson_50 (Nat.le_of_ble_eq_true rfl) (Nat.le_of_ble_eq_true rfl) (fun v50 g50 q50 => ?_)
    obtain ⟨gN50, hN50, rfl⟩ := q50
    rw [hsB] at hN50
    refine r_top (y := nI F2.1) (hN50.2.2.2.1.trans (by rw [hF2])) ?_
    refine r_istore_n (i := 2) hK hm dX10_takePerson_53 rfl (by decide) ?_
    refine r_iload_n (i := 2) hK dX10_takePerson_54 rfl rfl ?_
    refine r_if_le (tgt := 62) hK dX10_takePerson_55 (by decide) (fun h55 => ?_) (fun h55 => ?_)
    · refine r_aload_n (i := 0) hK dX10_takePerson_62 rfl rfl ?_
      have z2 := hzz (F := F2) (by rw [← hF2]; exact seF_ok (by decide)) h55
      have kB := se_v (c := c) (F := (0, 0)) (s := s2) (lo := 0) (hi := (np - 1)) (by omega) (by decide) (by rw [hF2]; exact z2)
      have mB := seF_v (c := c) (s := s2) (lo := nI 0) (hi := nI (np - 1)) (by rw [hF2]; exact z2)
      have iB := IQ_of (r := 105) (k := k) hN50 (by omega) (by rw [hF2]; exact z2) (mB.1.symm.trans kB.1)
      have pkB := pkA.tr (iB.pk (by omega))
      have eF2 : F2 = (0, 0) := by rw [← hF2]; exact seF_z (by rw [hF2]; exact z2)
      have hpB := tL_le hT.1 b2
      refine r_aload_n (i := 0) hK dX10_takePerson_63 rfl rfl ?_
      refine r_getA hK flX10_56 to_91 rfl dX10_takePerson_64 ?_
      refine r_iload_n (i := 1) hK dX10_takePerson_67 rfl rfl ?_
      refine r_iconst (v := 0) hK dX10_takePerson_68 (by decide) ?_
      refine r_top (y := nI 0) rfl ?_
      refine r_bipush (v := 99) hK dX10_takePerson_69 (by decide) ?_
      refine r_top (y := nI 99) rfl ?_
      refine r_ci4 hK hnn (c_mInto6 (r := 106) (k := k) (x := nI 0) (y := nI 99) (MTx_p hT pkB) hpB iB.2.2.2.2 to_106 rfl hk6) moX10_into mlX10_192 to_91 rfl rfl dX10_takePerson_71 (Nat.le_of_ble_eq_true rfl) (Nat.le_of_ble_eq_true rfl) (fun v71 g71 q71 => ?_)
      obtain ⟨gN71, hN71, rfl⟩ := q71
      rw [hsC] at hN71
      refine r_top (y := nI F3.1) (hN71.2.2.2.1.trans (by rw [hF3])) ?_
      refine r_istore_n (i := 2) hK hm dX10_takePerson_74 rfl (by decide) ?_
      refine r_iload_n (i := 2) hK dX10_takePerson_75 rfl rfl ?_
      refine r_if_le (tgt := 83) hK dX10_takePerson_76 (by decide) (fun h76 => ?_) (fun h76 => ?_)
      · refine r_aload_n (i := 0) hK dX10_takePerson_83 rfl rfl ?_
        have z3 := hzz (F := F3) (by rw [← hF3]; exact seF_ok (by decide)) h76
        have kC := se_v (c := c) (F := (0, 0)) (s := s3) (lo := 0) (hi := 99) (by decide) (by decide) (by rw [hF3]; exact z3)
        have mC := seF_v (c := c) (s := s3) (lo := nI 0) (hi := nI 99) (by rw [hF3]; exact z3)
        have iC := IQ_of (r := 106) (k := k) hN71 (by omega) (by rw [hF3]; exact z3) (mC.1.symm.trans kC.1)
        have pkC := pkB.tr (iC.pk (by omega))
        have eF3 : F3 = (0, 0) := by rw [← hF3]; exact seF_z (by rw [hF3]; exact z3)
        have hpC := tL_le hT.1 b3
        have c26 := (iC.2.2.1 26 (by omega)).trans ((iB.2.2.1 26 (by omega)).trans ((iA.2.2.1 26 (by omega)).trans ((congrFun (upI_n (by decide)) _).trans hk)))
        refine r_ci0 hK hnn (c_mHabit9 (k := k) (MTx_p hT pkC) hpC iC.2.2.2.2 c26 hk6) moX10_takeHabit mlX10_214 to_91 rfl rfl dX10_takePerson_84 (Nat.le_of_ble_eq_true rfl) (Nat.le_of_ble_eq_true rfl) (fun v84 g84 q84 => ?_)
        rw [hsD] at q84
        have hHb := q84
        refine r_top (y := nI F4.1) (hHb.2.1.trans (by rw [hF4])) ?_
        refine r_istore_n (i := 2) hK hm dX10_takePerson_87 rfl (by decide) ?_
        refine r_iload_n (i := 2) hK dX10_takePerson_88 rfl rfl ?_
        refine r_if_ne (tgt := 133) hK dX10_takePerson_89 (by decide) (fun h89 => ?_) (fun h89 => ?_)
        · refine r_aload_n (i := 0) hK dX10_takePerson_133 rfl rfl ?_
          refine r_dup hK dX10_takePerson_134 rfl ?_
          refine r_getI hK flX10_207 to_91 rfl dX10_takePerson_135 ?_
          refine r_iconst (v := 1) hK dX10_takePerson_138 (by decide) ?_
          refine r_iadd hK dX10_takePerson_139 ?_
          refine r_putI hK flX10_207 ft10_26 to_91 rfl dX10_takePerson_140 ?_
          refine r_iload_n (i := 2) hK dX10_takePerson_143 rfl rfl ?_
          refine q_iret hK hR dX10_takePerson_144 ?_
          have h89z : ¬ F4.1 = 0 := fun z => h89 (by rw [z]; rfl)
          exact TpQ_bad (pkC.tr hHb.1) (by rw [hpF, eF1, hF2, eF2, hF3, eF3, hF4]) h89z rfl (by rw [hHb.2.2.1 (by rw [hF4]; exact h89z), h4s h89z])
        · refine r_aload_n (i := 0) hK dX10_takePerson_92 rfl rfl ?_
          have z4 : F4.1 = 0 := hz9 (F := F4) (by rw [← hF4]; exact habG_ok (by decide)) h89
          have eF4 : F4 = (0, 0) := by rw [← hF4]; exact habG_z (by rw [hF4]; exact z4)
          obtain ⟨y1, y2, y3, y4, y5⟩ := hHb.2.2.2 (by rw [hF4]; exact z4)
          have posD := y2
          have hpD := tL_le hT.1 b4
          have pkD := pkC.tr hHb.1
          refine r_cv0 hK hnn (c_mReadWord (MTx_p hT pkD) hpD posD) moX10_readWord mlX10_196 to_91 rfl rfl dX10_takePerson_93 (Nat.le_of_ble_eq_true rfl) (Nat.le_of_ble_eq_true rfl) (fun g93 q93 => ?_)
          rw [hsE] at q93
          have hW := q93
          have hPA := PA_of rfl iA iB iC hHb (by rw [hF4]; exact z4) hW
          refine r_g (g' := g93) rfl ?_
          refine r_aload_n (i := 0) hK dX10_takePerson_96 rfl rfl ?_
          refine r_getL hK flX10_150 to_91 rfl dX10_takePerson_97 ?_
          refine r_topL (y := lN (wc c s5 (wl c s5))) hW.2.2.2.2.2 ?_
          refine r_bipush (v := 107) hK dX10_takePerson_100 (by decide) ?_
          refine r_bipush (v := 110) hK dX10_takePerson_102 (by decide) ?_
          refine r_bipush (v := 111) hK dX10_takePerson_104 (by decide) ?_
          refine r_sl3 hK hnn (c_mCode rfl rfl rfl (by decide) (by decide) (by decide)) moX10_code mlX10_199 dX10_takePerson_106 (Nat.le_of_ble_eq_true rfl) (Nat.le_of_ble_eq_true rfl) (eqL ?_)
          refine r_bipush (v := 119) hK dX10_takePerson_109 (by decide) ?_
          refine r_bipush (v := 115) hK dX10_takePerson_111 (by decide) ?_
          refine r_sl3 hK hnn (c_mLong2 rfl rfl rfl (by decide) (by decide)) moX10_longer mlX10_203 dX10_takePerson_113 (Nat.le_of_ble_eq_true rfl) (Nat.le_of_ble_eq_true rfl) (eqL ?_)
          refine r_topL (y := lN (cw (cN 7) (sxLen.getD 7 0))) (congrArg lN (by decide)) ?_
          refine r_lcmp hK dX10_takePerson_116 ?_
          refine r_if_ne (tgt := 133) hK dX10_takePerson_117 (by decide) (fun h117 => ?_) (fun h117 => ?_)
          · refine r_aload_n (i := 0) hK dX10_takePerson_133 rfl rfl ?_
            refine r_dup hK dX10_takePerson_134 rfl ?_
            refine r_getI hK flX10_207 to_91 rfl dX10_takePerson_135 ?_
            refine r_iconst (v := 1) hK dX10_takePerson_138 (by decide) ?_
            refine r_iadd hK dX10_takePerson_139 ?_
            refine r_putI hK flX10_207 ft10_26 to_91 rfl dX10_takePerson_140 ?_
            refine r_iload_n (i := 2) hK dX10_takePerson_143 rfl rfl ?_
            refine q_iret hK hR dX10_takePerson_144 ?_
            have hw7 : ¬ isW c s5 7 = true := fun z => h117 ((lc_w (k := 7) hT.1 (by decide)).mpr z)
            rw [show nI F4.1 = 0 from by rw [z4]; rfl]
            exact tp0 hPA (by rw [hpF, eF1, hF2, eF2, hF3, eF3, hF4, eF4]) hw7 (by rw [hPA.2.2.2.2.2.2.2.2.1, hk]; exact nI_add k 1)
          · refine r_aload_n (i := 0) hK dX10_takePerson_120 rfl rfl ?_
            have hw7 : isW c s5 7 = true := (lc_w (k := 7) hT.1 (by decide)).mp h117
            have htl7 := isW_tl hT.1 (k := 7) (by decide) hw7
            refine r_aload_n (i := 0) hK dX10_takePerson_121 rfl rfl ?_
            refine r_getI hK flX10_154 to_91 rfl dX10_takePerson_122 ?_
            refine r_top (y := nI (s5 + wl c s5)) hW.2.2.2.2.1 ?_
            refine r_putI hK flX10_143 ft10_16 to_91 rfl dX10_takePerson_125 ?_
            refine r_aload_n (i := 0) hK dX10_takePerson_128 rfl rfl ?_
            refine r_ci0 hK hnn (c_mTakeKnows (k := k) (wn := wn) (s := s5) (p := s5 + wl c s5) (MTx_p hT ((hPA.1).fl (by omega))) ((upd_n2 (by decide)).trans (hPA.2.2.2.2.2.2.2.2.2.2.1.trans hwn)) hw14 ((upd_n2 (by decide)).trans (hPA.2.2.2.2.2.2.2.2.1.trans hk)) hk6 (by rw [upI_n (by decide), hPA.2.2.2.2.2.2.2.1, upd_s]) (by rw [upI_s, upd_s]) (by rw [htl7]) (isW_p7 hw7) hs5n) moX10_takeKnows mlX10_217 to_91 rfl rfl dX10_takePerson_129 (Nat.le_of_ble_eq_true rfl) (Nat.le_of_ble_eq_true rfl) (fun v129 g129 q129 => ?_)
            have hKn := q129
            refine r_istore_n (i := 2) hK hm dX10_takePerson_132 rfl (by decide) ?_
            refine r_aload_n (i := 0) hK dX10_takePerson_133 rfl rfl ?_
            refine r_dup hK dX10_takePerson_134 rfl ?_
            refine r_getI hK flX10_207 to_91 rfl dX10_takePerson_135 ?_
            refine r_iconst (v := 1) hK dX10_takePerson_138 (by decide) ?_
            refine r_iadd hK dX10_takePerson_139 ?_
            refine r_putI hK flX10_207 ft10_26 to_91 rfl dX10_takePerson_140 ?_
            refine r_iload_n (i := 2) hK dX10_takePerson_143 rfl rfl ?_
            refine q_iret hK hR dX10_takePerson_144 ?_
            exact tp1 hPA (by rw [hpF, eF1, hF2, eF2, hF3, eF3, hF4, eF4]) hw7 hKn (fun z => by obtain ⟨p9, p91, p92, p93⟩ := hKn.2.2.2 z; rw [p92.2.2.1 26 (by omega), upd_n2 (by decide), hPA.2.2.2.2.2.2.2.2.1, hk]; exact nI_add k 1)
      · refine r_iload_n (i := 2) hK dX10_takePerson_79 rfl rfl ?_
        refine r_goto (tgt := 87) hK dX10_takePerson_80 (by decide) ?_
        refine r_istore_n (i := 2) hK hm dX10_takePerson_87 rfl (by decide) ?_
        refine r_iload_n (i := 2) hK dX10_takePerson_88 rfl rfl ?_
        refine r_if_ne (tgt := 133) hK dX10_takePerson_89 (by decide) (fun _ => ?_) (fun h => absurd h (hne h76))
        refine r_aload_n (i := 0) hK dX10_takePerson_133 rfl rfl ?_
        refine r_dup hK dX10_takePerson_134 rfl ?_
        refine r_getI hK flX10_207 to_91 rfl dX10_takePerson_135 ?_
        refine r_iconst (v := 1) hK dX10_takePerson_138 (by decide) ?_
        refine r_iadd hK dX10_takePerson_139 ?_
        refine r_putI hK flX10_207 ft10_26 to_91 rfl dX10_takePerson_140 ?_
        refine r_iload_n (i := 2) hK dX10_takePerson_143 rfl rfl ?_
        refine q_iret hK hR dX10_takePerson_144 ?_
        exact TpQ_bad (pkB.tr (hN71.pk.up (by omega))) (by rw [hpF, eF1, hF2, eF2, hF3, habG_st (hne2 h76)]) (hne2 h76) rfl ((congrFun (upI_n (by decide)) _).trans (by rw [hN71.2.2.2.2.1 (by rw [hF3]; exact hne2 h76), hs_2 hF3 (hne2 h76)]))
    · refine r_iload_n (i := 2) hK dX10_takePerson_58 rfl rfl ?_
      refine r_goto (tgt := 74) hK dX10_takePerson_59 (by decide) ?_
      refine r_istore_n (i := 2) hK hm dX10_takePerson_74 rfl (by decide) ?_
      refine r_iload_n (i := 2) hK dX10_takePerson_75 rfl rfl ?_
      refine r_if_le (tgt := 83) hK dX10_takePerson_76 (by decide) (fun h => absurd h h55) (fun _ => ?_)
      refine r_iload_n (i := 2) hK dX10_takePerson_79 rfl rfl ?_
      refine r_goto (tgt := 87) hK dX10_takePerson_80 (by decide) ?_
      refine r_istore_n (i := 2) hK hm dX10_takePerson_87 rfl (by decide) ?_
      refine r_iload_n (i := 2) hK dX10_takePerson_88 rfl rfl ?_
      refine r_if_ne (tgt := 133) hK dX10_takePerson_89 (by decide) (fun _ => ?_) (fun h => absurd h (hne h55))
      refine r_aload_n (i := 0) hK dX10_takePerson_133 rfl rfl ?_
      refine r_dup hK dX10_takePerson_134 rfl ?_
      refine r_getI hK flX10_207 to_91 rfl dX10_takePerson_135 ?_
      refine r_iconst (v := 1) hK dX10_takePerson_138 (by decide) ?_
      refine r_iadd hK dX10_takePerson_139 ?_
      refine r_putI hK flX10_207 ft10_26 to_91 rfl dX10_takePerson_140 ?_
      refine r_iload_n (i := 2) hK dX10_takePerson_143 rfl rfl ?_
      refine q_iret hK hR dX10_takePerson_144 ?_
      exact TpQ_bad (pkA.tr (hN50.pk.up (by omega))) (by rw [hpF, eF1, hF2, seF_st (hne2 h55), habG_st (hne2 h55)]) (hne2 h55) rfl ((congrFun (upI_n (by decide)) _).trans (by rw [hN50.2.2.2.2.1 (by rw [hF2]; exact hne2 h55), hs_2 hF2 (hne2 h55)]))
  · refine r_iload_n (i := 2) hK dX10_takePerson_33 rfl rfl ?_
    refine r_goto (tgt := 53) hK dX10_takePerson_34 (by decide) ?_
    refine r_istore_n (i := 2) hK hm dX10_takePerson_53 rfl (by decide) ?_
    refine r_iload_n (i := 2) hK dX10_takePerson_54 rfl rfl ?_
    refine r_if_le (tgt := 62) hK dX10_takePerson_55 (by decide) (fun h => absurd h h30) (fun _ => ?_)
    refine r_iload_n (i := 2) hK dX10_takePerson_58 rfl rfl ?_
    refine r_goto (tgt := 74) hK dX10_takePerson_59 (by decide) ?_
    refine r_istore_n (i := 2) hK hm dX10_takePerson_74 rfl (by decide) ?_
    refine r_iload_n (i := 2) hK dX10_takePerson_75 rfl rfl ?_
    refine r_if_le (tgt := 83) hK dX10_takePerson_76 (by decide) (fun h => absurd h h30) (fun _ => ?_)
    refine r_iload_n (i := 2) hK dX10_takePerson_79 rfl rfl ?_
    refine r_goto (tgt := 87) hK dX10_takePerson_80 (by decide) ?_
    refine r_istore_n (i := 2) hK hm dX10_takePerson_87 rfl (by decide) ?_
    refine r_iload_n (i := 2) hK dX10_takePerson_88 rfl rfl ?_
    refine r_if_ne (tgt := 133) hK dX10_takePerson_89 (by decide) (fun _ => ?_) (fun h => absurd h (hne h30))
    refine r_aload_n (i := 0) hK dX10_takePerson_133 rfl rfl ?_
    refine r_dup hK dX10_takePerson_134 rfl ?_
    refine r_getI hK flX10_207 to_91 rfl dX10_takePerson_135 ?_
    refine r_iconst (v := 1) hK dX10_takePerson_138 (by decide) ?_
    refine r_iadd hK dX10_takePerson_139 ?_
    refine r_putI hK flX10_207 ft10_26 to_91 rfl dX10_takePerson_140 ?_
    refine r_iload_n (i := 2) hK dX10_takePerson_143 rfl rfl ?_
    refine q_iret hK hR dX10_takePerson_144 ?_
    exact TpQ_bad (pk0.tr (hN25.pk.up (by omega))) (by rw [hpF, seF_st (hne2 h30), seF_st (hne2 h30), habG_st (hne2 h30)]) (hne2 h30) rfl ((congrFun (upI_n (by decide)) _).trans (by rw [hN25.2.2.2.2.1 (by rw [hF1]; exact hne2 h30), hs_2 hF1 (hne2 h30)]))
