/-! THE MODEL: takeWay, walked -/
def TwQ (c : CT) (g : St) (k np : Nat) (D : WD) (s : Nat) (v : Int32) (g' : St) : Prop := PK g g' ∧ v = nI (wF c D np s).1 ∧ ((wF c D np s).1 ≠ 0 → g'.1 91 15 = nI (wF c D np s).2) ∧ ((wF c D np s).1 = 0 → g'.1 91 15 = g.1 91 15 ∧ (∃ p, p ≤ 400 ∧ g'.1 91 16 = nI p ∧ sk c p = nx c (nx c (nx c (nx c s)))) ∧ g'.1 101 = upd (g.1 101) k (nI (tV c (nx c s))) ∧ g'.1 102 = upd (g.1 102) k (nI (tV c (nx c (nx c s)))) ∧ g'.1 103 = upd (g.1 103) k (nI (tV c (nx c (nx c (nx c s))))) ∧ g'.1 91 22 = nI (k + 1) ∧ g'.1 91 21 = g.1 91 21 ∧ g'.1 91 26 = g.1 91 26 ∧ ∀ j, 104 ≤ j → j ≤ 108 → g'.1 j = g.1 j)
theorem TwQ_bad {c : CT} {g g' : St} {k np s : Nat} {D : WD} {v : Int32} {F : FP} (hp : PK g g') (hF : wF c D np s = F) (hz : ¬ F.1 = 0) (hv : v = nI F.1) (h15 : g'.1 91 15 = nI F.2) : TwQ c g k np D s v g' := by
  unfold TwQ
  rw [hF]
  exact ⟨hp, hv, fun _ => h15, fun z => absurd z hz⟩
theorem TwQ_ok {c : CT} {g gA gB gN : St} {k np s : Nat} {D : WD} {v x y : Int32} (i1 : IQ c g 101 k (nx c s) gA) (i2 : IQ c gA 102 k (nx c (nx c s)) gB) (hx : x = nI (k + 1)) (hF : wF c D np s = seF c (0, 0) (nx c (nx c (nx c s))) (nI 1) (nI 99)) (h3 : NQ c (upI gB 91 22 x) (nx c (nx c (nx c s))) (nI 1) (nI 99) v gN) (hy : y = gN.1 91 19) (hn : nx c (nx c (nx c s)) + tL c (nx c (nx c (nx c s))) ≤ 400) : TwQ c g k np D s v (upI gN 103 k y) := by
  subst hy
  unfold TwQ
  rw [hF]
  refine ⟨(i1.pk (by omega)).tr ((i2.pk (by omega)).tr ((PK.rf.fl (by omega)).tr (h3.pk.up (by omega)))), h3.2.2.2.1, fun z => (congrFun (upI_n (by decide)) _).trans ((h3.2.2.2.2.1 z).trans (congrArg nI (congrArg Prod.snd (seF_2 z)).symm)), fun z => ?_⟩
  have hv := (se_v (c := c) (F := (0, 0)) (s := nx c (nx c (nx c s))) (lo := 1) (hi := 99) (by decide) (by decide) z).1
  have hv2 := seF_v (c := c) (s := nx c (nx c (nx c s))) (lo := nI 1) (hi := nI 99) z
  have i3 := IQ_of (r := 103) (k := k) h3 (by omega) z (hv2.1.symm.trans hv)
  have fq : ∀ q, q = 15 ∨ q = 21 ∨ q = 26 → (upI gN 103 k (gN.1 91 19)).1 91 q = g.1 91 q := fun q hq => (i3.2.2.1 q (by omega)).trans ((upd_n2 (by omega)).trans ((i2.2.2.1 q (by omega)).trans (i1.2.2.1 q (by omega))))
  refine ⟨fq 15 (by omega), ⟨_, hn, i3.2.2.2.2, rfl⟩, ?_, ?_, ?_, ?_, fq 21 (by omega), fq 26 (by omega), fun j a b => ?_⟩
  · rw [i3.1 101 (by decide) (by decide), upI_n (by decide), i2.1 101 (by decide) (by decide), i1.2.1]
  · rw [i3.1 102 (by decide) (by decide), upI_n (by decide), i2.2.1, i1.1 102 (by decide) (by decide)]
  · rw [i3.2.1, upI_n (by decide), i2.1 103 (by decide) (by decide), i1.1 103 (by decide) (by decide)]
  · exact (i3.2.2.1 22 (by omega)).trans (by rw [upI_s, upd_s]; exact hx)
  · rw [i3.1 j (by omega) (by omega), upI_n (by omega), i2.1 j (by omega) (by omega), i1.1 j (by omega) (by omega)]

set_option maxHeartbeats 4000000 in
set_option maxRecDepth 100000 in
theorem c_mTakeWay {ad : Nat → Nat} {g : St} {n k np s p : Nat} {c : CT} {D : WD} (hT : MTx g n c) (hnpf : g.1 91 21 = nI np) (hnp : 1 ≤ np) (hnp9 : np ≤ 10) (hk : g.1 91 22 = nI k) (hDk : D.1 = k) (hk14 : k < 14) (hD : ∀ w, w < k → D.2.1 w < 10 ∧ D.2.2.1 w < 10) (hDg : ∀ w, w < k → g.1 101 w = nI (D.2.1 w) ∧ g.1 102 w = nI (D.2.2.1 w)) (hpo : g.1 91 16 = nI p) (hps : p = s + tL c s) (hsn : s ≤ n) : Ci 4 mX10_takeWay [.ref 91] ad g (fun v g' => TwQ c g k np D s v g') := by
  have hp : p ≤ n := by have := tL_le hT.1 hsn; omega
  have hn4 := hT.1.1
  obtain ⟨s1, hs1⟩ : ∃ z, nx c s = z := ⟨_, rfl⟩
  obtain ⟨s2, hs2⟩ : ∃ z, nx c s1 = z := ⟨_, rfl⟩
  obtain ⟨s3, hs3⟩ : ∃ z, nx c s2 = z := ⟨_, rfl⟩
  have hsA : sk c p = s1 := by rw [hps]; exact hs1
  have hsB : sk c (s1 + tL c s1) = s2 := hs2
  have hsC : sk c (s2 + tL c s2) = s3 := hs3
  have b1 : s1 ≤ n := by rw [← hs1]; exact (nx_le hT.1 hsn).2
  have b2 : s2 ≤ n := by rw [← hs2]; exact (nx_le hT.1 b1).2
  have b3 : s3 ≤ n := by rw [← hs3]; exact (nx_le hT.1 b2).2
  obtain ⟨F1, hF1⟩ : ∃ F, seF c (0, 0) s1 (nI 0) (nI (np - 1)) = F := ⟨_, rfl⟩
  obtain ⟨F2, hF2⟩ : ∃ F, seF c (0, 0) s2 (nI 0) (nI (np - 1)) = F := ⟨_, rfl⟩
  have hwG : wF c D np s = seF c (if tV c s1 = tV c s2 ∨ jn D (tV c s1) (tV c s2) = true then bl (seF c F1 s2 (nI 0) (nI (np - 1))) 4 s2 else seF c F1 s2 (nI 0) (nI (np - 1))) s3 (nI 1) (nI 99) := by unfold wF wF3; rw [hs1, hs2, hs3, hF1]
  have hw3 : ∀ {F : FP}, ¬ F.1 = 0 → (if tV c s1 = tV c s2 ∨ jn D (tV c s1) (tV c s2) = true then bl F 4 s2 else F) = F := fun {F} z => by split; exact if_neg z; rfl
  have tok : ∀ {gA gB gN : St} {x y v : Int32}, IQ c g 101 k s1 gA → IQ c gA 102 k s2 gB → x = nI (k + 1) → wF c D np s = seF c (0, 0) s3 (nI 1) (nI 99) → NQ c (upI gB 91 22 x) s3 (nI 1) (nI 99) v gN → y = gN.1 91 19 → TwQ c g k np D s v (upI gN 103 k y) := by intro gA gB gN x y v a d e f h i; subst hs1 hs2 hs3; exact TwQ_ok a d e f h i (by have := tL_le hT.1 b3; omega)
  refine Cm.mk rfl (Nat.le_of_ble_eq_true rfl) (fun K hK hR hm hnn => ?_)
  refine r_aload_n (i := 0) hK dX10_takeWay_0 rfl rfl ?_
  refine r_getI hK flX10_186 to_91 rfl dX10_takeWay_1 ?_
  refine r_top (y := nI k) hk ?_
  refine r_istore_n (i := 1) hK hm dX10_takeWay_4 rfl (by decide) ?_
  refine r_aload_n (i := 0) hK dX10_takeWay_5 rfl rfl ?_
  refine r_aload_n (i := 0) hK dX10_takeWay_6 rfl rfl ?_
  refine r_getA hK flX10_41 to_91 rfl dX10_takeWay_7 ?_
  refine r_iload_n (i := 1) hK dX10_takeWay_10 rfl rfl ?_
  refine r_iconst (v := 0) hK dX10_takeWay_11 (by decide) ?_
  refine r_top (y := nI 0) rfl ?_
  refine r_aload_n (i := 0) hK dX10_takeWay_12 rfl rfl ?_
  refine r_getI hK flX10_189 to_91 rfl dX10_takeWay_13 ?_
  refine r_top (y := nI np) hnpf ?_
  refine r_iconst (v := 1) hK dX10_takeWay_16 (by decide) ?_
  refine r_isub hK dX10_takeWay_17 ?_
  refine r_top (y := nI (np - 1)) (pk_sub (a := np) (b := 1) hnp) ?_
  refine r_ci4 hK hnn (c_mInto14 (r := 101) (k := k) (x := nI 0) (y := nI (np - 1)) (MTx_p hT PK.rf) hp hpo to_101 rfl hk14) moX10_into mlX10_192 to_91 rfl rfl dX10_takeWay_18 (Nat.le_of_ble_eq_true rfl) (Nat.le_of_ble_eq_true rfl) (fun v18 g18 q18 => ?_)
  obtain ⟨gN18, hN18, rfl⟩ := q18
  rw [hsA] at hN18
  refine r_top (y := nI F1.1) (hN18.2.2.2.1.trans (by rw [hF1])) ?_
  refine r_istore_n (i := 2) hK hm dX10_takeWay_21 rfl (by decide) ?_
  refine r_iload_n (i := 2) hK dX10_takeWay_22 rfl rfl ?_
  refine r_if_le (tgt := 30) hK dX10_takeWay_23 (by decide) (fun h23 => ?_) (fun h23 => ?_)
  · refine r_aload_n (i := 0) hK dX10_takeWay_30 rfl rfl ?_
    have z1 := hzz (F := F1) (by rw [← hF1]; exact seF_ok (by decide)) h23
    have kA := se_v (c := c) (F := (0, 0)) (s := s1) (lo := 0) (hi := (np - 1)) (by omega) (by decide) (by rw [hF1]; exact z1)
    have mA := seF_v (c := c) (s := s1) (lo := nI 0) (hi := nI (np - 1)) (by rw [hF1]; exact z1)
    have iA := IQ_of (r := 101) (k := k) hN18 (by omega) (by rw [hF1]; exact z1) (mA.1.symm.trans kA.1)
    have pkA := PK.rf.tr (iA.pk (by omega))
    have eF1 : F1 = (0, 0) := by rw [← hF1]; exact seF_z (by rw [hF1]; exact z1)
    have hpA := tL_le hT.1 b1
    refine r_aload_n (i := 0) hK dX10_takeWay_31 rfl rfl ?_
    refine r_getA hK flX10_44 to_91 rfl dX10_takeWay_32 ?_
    refine r_iload_n (i := 1) hK dX10_takeWay_35 rfl rfl ?_
    refine r_iconst (v := 0) hK dX10_takeWay_36 (by decide) ?_
    refine r_top (y := nI 0) rfl ?_
    refine r_aload_n (i := 0) hK dX10_takeWay_37 rfl rfl ?_
    refine r_getI hK flX10_189 to_91 rfl dX10_takeWay_38 ?_
    refine r_top (y := nI np) ((iA.2.2.1 21 (by omega)).trans hnpf) ?_
    refine r_iconst (v := 1) hK dX10_takeWay_41 (by decide) ?_
    refine r_isub hK dX10_takeWay_42 ?_
    refine r_top (y := nI (np - 1)) (pk_sub (a := np) (b := 1) hnp) ?_
    refine r_ci4 hK hnn (c_mInto14 (r := 102) (k := k) (x := nI 0) (y := nI (np - 1)) (MTx_p hT pkA) hpA iA.2.2.2.2 to_102 rfl hk14) moX10_into mlX10_192 to_91 rfl rfl dX10_takeWay_43 (Nat.le_of_ble_eq_true rfl) (Nat.le_of_ble_eq_true rfl) (fun v43 g43 q43 => ?_)
    obtain ⟨gN43, hN43, rfl⟩ := q43
    rw [hsB] at hN43
    refine r_top (y := nI F2.1) (hN43.2.2.2.1.trans (by rw [hF2])) ?_
    refine r_istore_n (i := 2) hK hm dX10_takeWay_46 rfl (by decide) ?_
    refine r_iload_n (i := 2) hK dX10_takeWay_47 rfl rfl ?_
    refine r_if_le (tgt := 53) hK dX10_takeWay_48 (by decide) (fun h48 => ?_) (fun h48 => ?_)
    · refine r_aload_n (i := 0) hK dX10_takeWay_53 rfl rfl ?_
      have z2 := hzz (F := F2) (by rw [← hF2]; exact seF_ok (by decide)) h48
      have kB := se_v (c := c) (F := (0, 0)) (s := s2) (lo := 0) (hi := (np - 1)) (by omega) (by decide) (by rw [hF2]; exact z2)
      have mB := seF_v (c := c) (s := s2) (lo := nI 0) (hi := nI (np - 1)) (by rw [hF2]; exact z2)
      have iB := IQ_of (r := 102) (k := k) hN43 (by omega) (by rw [hF2]; exact z2) (mB.1.symm.trans kB.1)
      have pkB := pkA.tr (iB.pk (by omega))
      have eF2 : F2 = (0, 0) := by rw [← hF2]; exact seF_z (by rw [hF2]; exact z2)
      have hpB := tL_le hT.1 b2
      have hta : tV c s1 < 10 := by have := kA.2.2; omega
      have htb : tV c s2 < 10 := by have := kB.2.2; omega
      have h101k : (upI gN43 102 k (gN43.1 91 19)).1 101 k = nI (tV c s1) := by rw [iB.1 101 (by decide) (by decide), iA.2.1, upd_s]
      have h102k : (upI gN43 102 k (gN43.1 91 19)).1 102 k = nI (tV c s2) := by rw [iB.2.1, upd_s]
      have h101 : ∀ w, w < k → (upI gN43 102 k (gN43.1 91 19)).1 101 w = nI (D.2.1 w) ∧ (upI gN43 102 k (gN43.1 91 19)).1 102 w = nI (D.2.2.1 w) := fun w hw => by rw [iB.1 101 (by decide) (by decide), iA.2.1, iB.2.1, upd_e (by omega), upd_e (by omega), iA.1 102 (by decide) (by decide)]; exact hDg w hw
      have hwF : wF c D np s = seF c (if tV c s1 = tV c s2 ∨ jn D (tV c s1) (tV c s2) = true then bl F2 4 s2 else F2) s3 (nI 1) (nI 99) := by rw [hwG, eF1, hF2]
      have hjf := jn_fw (D := D) (a := tV c s1) (b := tV c s2) (by rw [hDk]; exact hD) htb
      rw [hDk] at hjf
      refine r_getA hK flX10_41 to_91 rfl dX10_takeWay_54 ?_
      refine r_iload_n (i := 1) hK dX10_takeWay_57 rfl rfl ?_
      refine r_ialN hK to_101 rfl (by omega) (by decide) h101k dX10_takeWay_58 ?_
      refine r_aload_n (i := 0) hK dX10_takeWay_59 rfl rfl ?_
      refine r_getA hK flX10_44 to_91 rfl dX10_takeWay_60 ?_
      refine r_iload_n (i := 1) hK dX10_takeWay_63 rfl rfl ?_
      refine r_ialN hK to_102 rfl (by omega) (by decide) h102k dX10_takeWay_64 ?_
      refine r_icmp_ne (tgt := 72) hK dX10_takeWay_65 (by decide) (fun h65 => ?_) (fun h65 => ?_)
      · refine r_iconst (v := 0) hK dX10_takeWay_72 (by decide) ?_
        refine r_top (y := B1 (fwF D (tV c s1) (tV c s2) 0)) (by show _ = B1 (decide (tV c s1 = tV c s2)); rw [decide_eq_false (fun z => h65 (congrArg nI z))]; rfl) ?_
        refine r_istore_n (i := 3) hK hm dX10_takeWay_73 rfl (by decide) ?_
        refine r_iconst (v := 0) hK dX10_takeWay_74 (by decide) ?_
        refine r_istore (i := 4) hK hm dX10_takeWay_75 (by decide) ?_
        have h163 : Wp K 0 0 TT ad (upI gN43 102 k (gN43.1 91 19)) 163 [(0, .ref 91), (1, .int (nI k)), (3, .int (B1 (fwF D (tV c s1) (tV c s2) k)))] [] := by
          refine r_aload_n (i := 0) hK dX10_takeWay_163 rfl rfl ?_
          refine r_dup hK dX10_takeWay_164 rfl ?_
          refine r_getI hK flX10_186 to_91 rfl dX10_takeWay_165 ?_
          refine r_top (y := nI k) ((iB.2.2.1 22 (by omega)).trans ((iA.2.2.1 22 (by omega)).trans hk)) ?_
          refine r_iconst (v := 1) hK dX10_takeWay_168 (by decide) ?_
          refine r_iadd hK dX10_takeWay_169 ?_
          refine r_top (y := nI (k + 1)) (nI_add k 1) ?_
          refine r_putI hK flX10_186 ft10_22 to_91 rfl dX10_takeWay_170 ?_
          refine r_iload_n (i := 3) hK dX10_takeWay_173 rfl rfl ?_
          refine r_if_eq (tgt := 189) hK dX10_takeWay_174 (by decide) (fun h174 => ?_) (fun h174 => ?_)
          · refine r_aload_n (i := 0) hK dX10_takeWay_189 rfl rfl ?_
            refine r_aload_n (i := 0) hK dX10_takeWay_190 rfl rfl ?_
            refine r_getA hK flX10_47 to_91 rfl dX10_takeWay_191 ?_
            refine r_iload_n (i := 1) hK dX10_takeWay_194 rfl rfl ?_
            refine r_iconst (v := 1) hK dX10_takeWay_195 (by decide) ?_
            refine r_top (y := nI 1) rfl ?_
            refine r_bipush (v := 99) hK dX10_takeWay_196 (by decide) ?_
            refine r_top (y := nI 99) rfl ?_
            refine r_ci4 hK hnn (c_mInto14 (r := 103) (k := k) (x := nI 1) (y := nI 99) (MTx_p hT (pkB.fl (by omega))) hpB ((upd_n2 (by decide)).trans iB.2.2.2.2) to_103 rfl hk14) moX10_into mlX10_192 to_91 rfl rfl dX10_takeWay_198 (Nat.le_of_ble_eq_true rfl) (Nat.le_of_ble_eq_true rfl) (fun v198 g198 q198 => ?_)
            obtain ⟨gN198, hN198, rfl⟩ := q198
            rw [hsC] at hN198
            refine q_iret hK hR dX10_takeWay_201 ?_
            have hfl : ¬ fwF D (tV c s1) (tV c s2) k = true := by rw [B1_0.mp h174]; decide
            exact tok iA iB rfl (by rw [hwF, if_neg (fun z => hfl (hjf.mp z)), eF2]) hN198 rfl
          · refine r_aload_n (i := 0) hK dX10_takeWay_177 rfl rfl ?_
            refine r_iconst (v := 4) hK dX10_takeWay_178 (by decide) ?_
            refine r_aload_n (i := 0) hK dX10_takeWay_179 rfl rfl ?_
            refine r_getI hK flX10_177 to_91 rfl dX10_takeWay_180 ?_
            refine r_top (y := nI s2) ((upd_n2 (by decide)).trans ((congrFun (upI_n (by decide)) _).trans (hN43.2.2.2.2.2 (by rw [hF2]; exact z2)).2.2.2)) ?_
            refine r_ci2 hK hnn c_mFails moX10_fails mlX10_173 to_91 rfl rfl dX10_takeWay_183 (Nat.le_of_ble_eq_true rfl) (Nat.le_of_ble_eq_true rfl) (eqI ?_)
            refine r_goto (tgt := 201) hK dX10_takeWay_186 (by decide) ?_
            refine q_iret hK hR dX10_takeWay_201 ?_
            have hfl := B1_n.mp h174
            exact TwQ_bad ((pkB.fl (by omega)).fl (by omega)) (F := (4, s2)) (by rw [hwF, if_pos (hjf.mpr hfl), eF2]; exact seF_st (Nat.succ_ne_zero _)) (Nat.succ_ne_zero _) rfl (by rw [upI_s, upd_s])
        refine r_loc ?_ (lm_fw hk14 hta htb hD h101 h101k h102k hK hm hnn h163 k 0 (by omega))
        rfl
      · refine r_iconst (v := 1) hK dX10_takeWay_68 (by decide) ?_
        refine r_top (y := B1 (fwF D (tV c s1) (tV c s2) 0)) (by show _ = B1 (decide (tV c s1 = tV c s2)); rw [decide_eq_true (nI_inj (by omega) (by omega) h65)]; rfl) ?_
        refine r_goto (tgt := 73) hK dX10_takeWay_69 (by decide) ?_
        refine r_istore_n (i := 3) hK hm dX10_takeWay_73 rfl (by decide) ?_
        refine r_iconst (v := 0) hK dX10_takeWay_74 (by decide) ?_
        refine r_istore (i := 4) hK hm dX10_takeWay_75 (by decide) ?_
        have h163 : Wp K 0 0 TT ad (upI gN43 102 k (gN43.1 91 19)) 163 [(0, .ref 91), (1, .int (nI k)), (3, .int (B1 (fwF D (tV c s1) (tV c s2) k)))] [] := by
          refine r_aload_n (i := 0) hK dX10_takeWay_163 rfl rfl ?_
          refine r_dup hK dX10_takeWay_164 rfl ?_
          refine r_getI hK flX10_186 to_91 rfl dX10_takeWay_165 ?_
          refine r_top (y := nI k) ((iB.2.2.1 22 (by omega)).trans ((iA.2.2.1 22 (by omega)).trans hk)) ?_
          refine r_iconst (v := 1) hK dX10_takeWay_168 (by decide) ?_
          refine r_iadd hK dX10_takeWay_169 ?_
          refine r_top (y := nI (k + 1)) (nI_add k 1) ?_
          refine r_putI hK flX10_186 ft10_22 to_91 rfl dX10_takeWay_170 ?_
          refine r_iload_n (i := 3) hK dX10_takeWay_173 rfl rfl ?_
          refine r_if_eq (tgt := 189) hK dX10_takeWay_174 (by decide) (fun h174 => ?_) (fun h174 => ?_)
          · refine r_aload_n (i := 0) hK dX10_takeWay_189 rfl rfl ?_
            refine r_aload_n (i := 0) hK dX10_takeWay_190 rfl rfl ?_
            refine r_getA hK flX10_47 to_91 rfl dX10_takeWay_191 ?_
            refine r_iload_n (i := 1) hK dX10_takeWay_194 rfl rfl ?_
            refine r_iconst (v := 1) hK dX10_takeWay_195 (by decide) ?_
            refine r_top (y := nI 1) rfl ?_
            refine r_bipush (v := 99) hK dX10_takeWay_196 (by decide) ?_
            refine r_top (y := nI 99) rfl ?_
            refine r_ci4 hK hnn (c_mInto14 (r := 103) (k := k) (x := nI 1) (y := nI 99) (MTx_p hT (pkB.fl (by omega))) hpB ((upd_n2 (by decide)).trans iB.2.2.2.2) to_103 rfl hk14) moX10_into mlX10_192 to_91 rfl rfl dX10_takeWay_198 (Nat.le_of_ble_eq_true rfl) (Nat.le_of_ble_eq_true rfl) (fun v198 g198 q198 => ?_)
            obtain ⟨gN198, hN198, rfl⟩ := q198
            rw [hsC] at hN198
            refine q_iret hK hR dX10_takeWay_201 ?_
            have hfl : ¬ fwF D (tV c s1) (tV c s2) k = true := by rw [B1_0.mp h174]; decide
            exact tok iA iB rfl (by rw [hwF, if_neg (fun z => hfl (hjf.mp z)), eF2]) hN198 rfl
          · refine r_aload_n (i := 0) hK dX10_takeWay_177 rfl rfl ?_
            refine r_iconst (v := 4) hK dX10_takeWay_178 (by decide) ?_
            refine r_aload_n (i := 0) hK dX10_takeWay_179 rfl rfl ?_
            refine r_getI hK flX10_177 to_91 rfl dX10_takeWay_180 ?_
            refine r_top (y := nI s2) ((upd_n2 (by decide)).trans ((congrFun (upI_n (by decide)) _).trans (hN43.2.2.2.2.2 (by rw [hF2]; exact z2)).2.2.2)) ?_
            refine r_ci2 hK hnn c_mFails moX10_fails mlX10_173 to_91 rfl rfl dX10_takeWay_183 (Nat.le_of_ble_eq_true rfl) (Nat.le_of_ble_eq_true rfl) (eqI ?_)
            refine r_goto (tgt := 201) hK dX10_takeWay_186 (by decide) ?_
            refine q_iret hK hR dX10_takeWay_201 ?_
            have hfl := B1_n.mp h174
            exact TwQ_bad ((pkB.fl (by omega)).fl (by omega)) (F := (4, s2)) (by rw [hwF, if_pos (hjf.mpr hfl), eF2]; exact seF_st (Nat.succ_ne_zero _)) (Nat.succ_ne_zero _) rfl (by rw [upI_s, upd_s])
        refine r_loc ?_ (lm_fw hk14 hta htb hD h101 h101k h102k hK hm hnn h163 k 0 (by omega))
        rfl
    · refine r_iload_n (i := 2) hK dX10_takeWay_51 rfl rfl ?_
      refine q_iret hK hR dX10_takeWay_52 ?_
      exact TwQ_bad (pkA.tr (hN43.pk.up (by omega))) (by rw [hwG, eF1, hF2, hw3 (hne2 h48), seF_st (hne2 h48)]) (hne2 h48) rfl ((congrFun (upI_n (by decide)) _).trans (by rw [hN43.2.2.2.2.1 (by rw [hF2]; exact hne2 h48), hs_2 hF2 (hne2 h48)]))
  · refine r_iload_n (i := 2) hK dX10_takeWay_26 rfl rfl ?_
    refine r_goto (tgt := 46) hK dX10_takeWay_27 (by decide) ?_
    refine r_istore_n (i := 2) hK hm dX10_takeWay_46 rfl (by decide) ?_
    refine r_iload_n (i := 2) hK dX10_takeWay_47 rfl rfl ?_
    refine r_if_le (tgt := 53) hK dX10_takeWay_48 (by decide) (fun h => absurd h h23) (fun _ => ?_)
    refine r_iload_n (i := 2) hK dX10_takeWay_51 rfl rfl ?_
    refine q_iret hK hR dX10_takeWay_52 ?_
    exact TwQ_bad (hN18.pk.up (by omega)) (by rw [hwG, seF_st (hne2 h23), hw3 (hne2 h23), seF_st (hne2 h23)]) (hne2 h23) rfl ((congrFun (upI_n (by decide)) _).trans (by rw [hN18.2.2.2.2.1 (by rw [hF1]; exact hne2 h23), hs_2 hF1 (hne2 h23)]))
