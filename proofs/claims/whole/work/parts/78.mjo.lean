/-! THE MODEL: the journal -/
def MJ (g : St) (X : LN) (J : JN) : Prop := (g.1 91 50 = nI J.1.1 ∧ J.1.1 ≤ 30 ∧ ∀ i, i < J.1.1 → (g.1 121 i = nI (J.1.2.1 i) ∧ g.1 122 i = nI (J.1.2.2.1 i) ∧ g.1 123 i = nI (J.1.2.2.2.1 i) ∧ g.1 124 i = nI (J.1.2.2.2.2 i)) ∧ J.1.2.1 i < X.2.2.1.1 ∧ J.1.2.2.1 i < X.1 ∧ J.1.2.2.2.1 i ≤ 9 ∧ J.1.2.2.2.2 i < X.1) ∧ (g.1 91 47 = nI J.2.1 ∧ J.2.1 ≤ 8 ∧ ∀ i, i < J.2.1 → (g.1 119 i = nI (J.2.2.1 i) ∧ g.1 120 i = nI (J.2.2.2 i)) ∧ J.2.2.1 i < X.2.2.1.1 ∧ J.2.2.2 i ≤ 999)
theorem MJ_of {g g' : St} {X : LN} {J : JN} (h : MJ g X J) (hf : FM g g') : MJ g' X J := by
  unfold MJ at *
  rw [hf.2.1 50 rfl, hf.2.1 47 rfl, hf.1 121 (by omega), hf.1 122 (by omega), hf.1 123 (by omega), hf.1 124 (by omega), hf.1 119 (by omega), hf.1 120 (by omega)]
  exact h
theorem asQ_t {X : LN} {m p t : Nat} (h1 : 1 ≤ rn0 X.2.1 (kN X p) t (X.2.2.1.2.1 p)) (h2 : wL X.2.1 (kN X p) t (X.2.2.1.2.1 p) X.2.2.2.2.2 (rn0 X.2.1 (kN X p) t (X.2.2.1.2.1 p)) = m) : asQ X m p t = true := by
  unfold asQ
  rw [decide_eq_true (show 0 < rn0 X.2.1 (knb (X.2.2.2.2.1 p)) t (X.2.2.1.2.1 p) from h1), decide_eq_true h2]
  rfl
theorem asQ_f1 {X : LN} {m p t : Nat} (h1 : rn0 X.2.1 (kN X p) t (X.2.2.1.2.1 p) = 0) : asQ X m p t = false := by
  unfold asQ
  rw [decide_eq_false (show ¬ 0 < rn0 X.2.1 (knb (X.2.2.2.2.1 p)) t (X.2.2.1.2.1 p) from fun z => by have : rn0 X.2.1 (knb (X.2.2.2.2.1 p)) t (X.2.2.1.2.1 p) = 0 := h1; omega)]
  rfl
theorem asQ_f2 {X : LN} {m p t : Nat} (h2 : ¬ wL X.2.1 (kN X p) t (X.2.2.1.2.1 p) X.2.2.2.2.2 (rn0 X.2.1 (kN X p) t (X.2.2.1.2.1 p)) = m) : asQ X m p t = false := by
  unfold asQ
  rw [decide_eq_false (show ¬ wL X.2.1 (knb (X.2.2.2.2.1 p)) t (X.2.2.1.2.1 p) X.2.2.2.2.2 (rn0 X.2.1 (knb (X.2.2.2.2.1 p)) t (X.2.2.1.2.1 p)) = m from h2), Bool.and_false]

theorem mp_z2 {f2 f3 : Nat → Int32} {v : Int32} {D : WD} {kn : Nat → Bool} {t a : Nat} (hP : MPt f2 f3 v D kn t a) (h : v ≤ 0) (hb : rn0 D kn t a ≤ 9) : rn0 D kn t a = 0 := by
  rcases mp_v hP with ⟨q1, q2⟩ | ⟨q1, q2, q3⟩
  · rw [q2, Int32.le_iff_toInt_le, nI_toInt (by omega)] at h
    have e : (0 : Int32).toInt = 0 := by decide
    omega
  · exact q3
set_option maxHeartbeats 4000000 in
set_option maxRecDepth 100000 in
theorem lm_ms {K : KT} {ad : Nat → Nat} {g : St} {X : LN} (hX : MC g X) {p mm : Nat} (hp : p < X.2.2.1.1) (hmm : mm < 2 ^ 31) (hK : Cx K RX10 cX10_missingOf 4 ad) (hm : K.2.2.1.2.maxLocals = 6) (hnn : Nn K 0 0)
    (hR : Rt K 0 0 TT ad (some .int) (Qi ad (fun v g' => v = nI (asS X mm p X.1) ∧ FM g g'))) :
    ∀ m t, t + m = X.1 → ∀ g1 : St, FM g g1 → Wp K 0 0 TT ad g1 5 [(0, .ref 91), (1, .int (nI p)), (2, .int (nI mm)), (3, .int (nI (asS X mm p t))), (4, .int (nI t))] [] := by
  obtain ⟨hok, hpo, hlaw, x1, hW, hPs, x4⟩ := id hX
  have h10 := hok.2.1
  have h6 := hpo.1
  have h14 := hok.1
  obtain ⟨p1, p2, p3, p4, p5⟩ := hpo.2 p hp
  obtain ⟨r1, r2, r3, r4, r5⟩ := hPs.2 p hp
  intro m
  induction m with
  | zero =>
    intro t htm g1 hfr
    have e : t = X.1 := by omega
    subst e
    refine r_iload (i := 4) hK dX10_missingOf_5 rfl ?_
    refine r_aload_n (i := 0) hK dX10_missingOf_7 rfl rfl ?_
    refine r_getI hK flX10_121 to_91 rfl dX10_missingOf_8 ?_
    refine r_top (y := nI X.1) ((hfr.2.1 0 rfl).trans x1) ?_
    refine r_icmp_ge (tgt := 66) hK dX10_missingOf_11 (by decide) (fun _ => ?_) (fun h => absurd (nI_le (Nat.le_refl _) (by omega)) h)
    refine r_iload_n (i := 3) hK dX10_missingOf_66 rfl rfl ?_
    refine q_iret hK hR dX10_missingOf_67 ?_
    exact ⟨rfl, hfr⟩
  | succ m ih =>
    intro t htm g1 hfr
    have ht : t < X.1 := by omega
    have hX1 := MC_of hX hfr
    have hrb := rt_b hok (kN X p) t p1
    have hwb := wL_b hok (kN X p) t (law := X.2.2.2.2.2) p1 (Nat.le_refl _)
    have ih2 := ih (t + 1) (by omega)
    obtain ⟨u, hu⟩ : ∃ u, u = asS X mm p t := ⟨_, rfl⟩
    obtain ⟨u2, hu2⟩ : ∃ u, u = asS X mm p (t + 1) := ⟨_, rfl⟩
    have hu1k : u < 1024 := by rw [hu]; exact asS_lt t (by omega)
    rw [← hu2] at ih2
    rw [← hu]
    clear ih
    refine r_iload (i := 4) hK dX10_missingOf_5 rfl ?_
    refine r_aload_n (i := 0) hK dX10_missingOf_7 rfl rfl ?_
    refine r_getI hK flX10_121 to_91 rfl dX10_missingOf_8 ?_
    refine r_top (y := nI X.1) ((hfr.2.1 0 rfl).trans x1) ?_
    refine r_icmp_ge (tgt := 66) hK dX10_missingOf_11 (by decide) (fun h => absurd h (nI_ge ht (by omega))) (fun _ => ?_)
    refine r_aload_n (i := 0) hK dX10_missingOf_14 rfl rfl ?_
    refine r_aload_n (i := 0) hK dX10_missingOf_15 rfl rfl ?_
    refine r_getA hK flX10_31 to_91 rfl dX10_missingOf_16 ?_
    refine r_iload_n (i := 1) hK dX10_missingOf_19 rfl rfl ?_
    refine r_ialN hK to_99 rfl (by omega) (by decide) ((congrFun (hfr.1 99 (by decide)) _).trans r5) dX10_missingOf_20 ?_
    refine r_aload_n (i := 0) hK dX10_missingOf_21 rfl rfl ?_
    refine r_getA hK flX10_19 to_91 rfl dX10_missingOf_22 ?_
    refine r_iload_n (i := 1) hK dX10_missingOf_25 rfl rfl ?_
    refine r_ialN hK to_95 rfl (by omega) (by decide) ((congrFun (hfr.1 95 (by decide)) _).trans r1) dX10_missingOf_26 ?_
    refine r_iload (i := 4) hK dX10_missingOf_27 rfl ?_
    refine r_ci3 hK hnn (c_mRoute0 hok (MWC_of hW hfr) rfl (Nat.lt_trans p5 (by decide)) rfl p1 rfl ht) moX10_findRoute mlX10_263 to_91 rfl rfl dX10_missingOf_29 (Nat.le_of_ble_eq_true rfl) (Nat.le_of_ble_eq_true rfl) (fun v29 g29 q29 => ?_)
    obtain ⟨f1, f2, f3, rfl, hMP⟩ := q29
    refine r_istore (i := 5) hK hm dX10_missingOf_32 (by decide) ?_
    refine r_iload_n (i := 3) hK dX10_missingOf_34 rfl rfl ?_
    refine r_iload (i := 5) hK dX10_missingOf_35 rfl ?_
    refine r_if_le (tgt := 57) hK dX10_missingOf_37 (by decide) (fun h37 => ?_) (fun h37 => ?_)
    · refine r_iconst (v := 0) hK dX10_missingOf_57 (by decide) ?_
      refine r_ior hK dX10_missingOf_58 ?_
      first
        | (refine r_top (y := nI u2) ((setbit (by omega)).trans (by rw [hu2, asS_succ, if_pos (asQ_t hn1 (nI_inj (by omega) (by omega) h47)), ← hu])) ?_)
        | (refine r_top (y := nI u2) (or0.trans (by rw [hu2, asS_succ, if_neg (by rw [asQ_f2 (fun z => h47 (congrArg nI z))]; decide), ← hu])) ?_)
        | (refine r_top (y := nI u2) (or0.trans (by rw [hu2, asS_succ, if_neg (by rw [asQ_f1 (mp_z2 hMP h37 hrb.1)]; decide), ← hu])) ?_)
      refine r_istore_n (i := 3) hK hm dX10_missingOf_59 rfl (by decide) ?_
      refine r_iincN (i := 4) hK hm dX10_missingOf_60 rfl (by decide) ?_
      refine r_goto (tgt := 5) hK dX10_missingOf_63 (by decide) ?_
      refine r_loc ?_ (ih2 _ (hfr.tr FM_pM))
      rfl
    · refine r_aload_n (i := 0) hK dX10_missingOf_40 rfl rfl ?_
      have hv2 : v29 = nI (rn0 X.2.1 (kN X p) t (X.2.2.1.2.1 p)) ∧ 1 ≤ (rn0 X.2.1 (kN X p) t (X.2.2.1.2.1 p)) := by
        rcases mp_v hMP with ⟨q1, q2⟩ | ⟨q1, q2, q3⟩
        · refine ⟨q2, Nat.pos_of_ne_zero (fun z => h37 (by rw [q2, z]; decide))⟩
        · exfalso; rw [q2] at h37; exact h37 (by decide)
      obtain ⟨hv3, hn1⟩ := hv2
      refine r_iload (i := 5) hK dX10_missingOf_41 rfl ?_
      refine r_ci1 hK hnn (c_mWalked hok p1 (MR_pM hMP) (MC_of hX1 FM_pM).2.2.2.2.2.2 hlaw hv3 (Nat.le_refl _)) moX10_walked mlX10_283 to_91 rfl rfl dX10_missingOf_43 (Nat.le_of_ble_eq_true rfl) (Nat.le_of_ble_eq_true rfl) (eqI ?_)
      refine r_iload_n (i := 2) hK dX10_missingOf_46 rfl rfl ?_
      refine r_icmp_ne (tgt := 57) hK dX10_missingOf_47 (by decide) (fun h47 => ?_) (fun h47 => ?_)
      · refine r_iconst (v := 0) hK dX10_missingOf_57 (by decide) ?_
        refine r_ior hK dX10_missingOf_58 ?_
        first
          | (refine r_top (y := nI u2) ((setbit (by omega)).trans (by rw [hu2, asS_succ, if_pos (asQ_t hn1 (nI_inj (by omega) (by omega) h47)), ← hu])) ?_)
          | (refine r_top (y := nI u2) (or0.trans (by rw [hu2, asS_succ, if_neg (by rw [asQ_f2 (fun z => h47 (congrArg nI z))]; decide), ← hu])) ?_)
          | (refine r_top (y := nI u2) (or0.trans (by rw [hu2, asS_succ, if_neg (by rw [asQ_f1 (mp_z2 hMP h37 hrb.1)]; decide), ← hu])) ?_)
        refine r_istore_n (i := 3) hK hm dX10_missingOf_59 rfl (by decide) ?_
        refine r_iincN (i := 4) hK hm dX10_missingOf_60 rfl (by decide) ?_
        refine r_goto (tgt := 5) hK dX10_missingOf_63 (by decide) ?_
        refine r_loc ?_ (ih2 _ (hfr.tr FM_pM))
        rfl
      · refine r_iconst (v := 1) hK dX10_missingOf_50 (by decide) ?_
        refine r_iload (i := 4) hK dX10_missingOf_51 rfl ?_
        refine r_ishl hK dX10_missingOf_53 ?_
        refine r_goto (tgt := 58) hK dX10_missingOf_54 (by decide) ?_
        refine r_ior hK dX10_missingOf_58 ?_
        first
          | (refine r_top (y := nI u2) ((setbit (by omega)).trans (by rw [hu2, asS_succ, if_pos (asQ_t hn1 (nI_inj (by omega) (by omega) h47)), ← hu])) ?_)
          | (refine r_top (y := nI u2) (or0.trans (by rw [hu2, asS_succ, if_neg (by rw [asQ_f2 (fun z => h47 (congrArg nI z))]; decide), ← hu])) ?_)
          | (refine r_top (y := nI u2) (or0.trans (by rw [hu2, asS_succ, if_neg (by rw [asQ_f1 (mp_z2 hMP h37 hrb.1)]; decide), ← hu])) ?_)
        refine r_istore_n (i := 3) hK hm dX10_missingOf_59 rfl (by decide) ?_
        refine r_iincN (i := 4) hK hm dX10_missingOf_60 rfl (by decide) ?_
        refine r_goto (tgt := 5) hK dX10_missingOf_63 (by decide) ?_
        refine r_loc ?_ (ih2 _ (hfr.tr FM_pM))
        rfl
set_option maxHeartbeats 4000000 in
set_option maxRecDepth 100000 in
theorem c_mMsOf {ad : Nat → Nat} {g : St} {X : LN} (hX : MC g X) {p mm : Nat} {x y : Int32} (hx : x = nI p) (hp : p < X.2.2.1.1) (hy : y = nI mm) (hmm : mm < 2 ^ 31) : Ci 4 mX10_missingOf [.ref 91, .int x, .int y] ad g (fun v g' => v = nI (asS X mm p X.1) ∧ FM g g') := by
  subst hx; subst hy
  refine Cm.mk rfl (Nat.le_of_ble_eq_true rfl) (fun K hK hR hm hnn => ?_)
  refine r_iconst (v := 0) hK dX10_missingOf_0 (by decide) ?_
  refine r_istore_n (i := 3) hK hm dX10_missingOf_1 rfl (by decide) ?_
  refine r_iconst (v := 0) hK dX10_missingOf_2 (by decide) ?_
  refine r_istore (i := 4) hK hm dX10_missingOf_3 (by decide) ?_
  refine r_loc ?_ (lm_ms hX hp hmm hK hm hnn hR X.1 0 (by omega) g FM.rf)
  rfl
set_option maxHeartbeats 4000000 in
set_option maxRecDepth 100000 in
theorem c_mMissing {ad : Nat → Nat} {g : St} {X : LN} (hX : MC g X) {p m : Int32} : Ci 5 mX10_missing [.ref 91, .int p, .int m] ad g (fun v g' => v = aMis X p m ∧ FM g g') := by
  obtain ⟨hok, hpo, hlaw, x1, hW, hPs, x4⟩ := id hX
  have h10 := hok.2.1
  have h6 := hpo.1
  have h14 := hok.1
  refine Cm.mk rfl (Nat.le_of_ble_eq_true rfl) (fun K hK hR hm hnn => ?_)
  refine r_aload_n (i := 0) hK dX10_missing_0 rfl rfl ?_
  refine r_iload_n (i := 1) hK dX10_missing_1 rfl rfl ?_
  refine r_ci1 hK hnn (c_misPerson hPs.1 (by omega)) moX10_isPerson mlX10_243 to_91 rfl rfl dX10_missing_2 (Nat.le_of_ble_eq_true rfl) (Nat.le_of_ble_eq_true rfl) (eqI ?_)
  refine r_if_ne (tgt := 11) hK dX10_missing_5 (by decide) (fun h5 => ?_) (fun h5 => ?_)
  · refine r_iload_n (i := 2) hK dX10_missing_11 rfl rfl ?_
    have hb := B1_n.mp h5
    obtain ⟨hj, hwn⟩ := isB_cl (by omega) hb
    refine r_i2l hK dX10_missing_12 ?_
    refine r_lconst (v := 0) hK dX10_missing_13 (by decide) ?_
    refine r_ldc2 hK ckX10_340 dX10_missing_14 ?_
    refine r_si3 hK hnn c_mIn moX10_in mlX10_124 dX10_missing_17 (Nat.le_of_ble_eq_true rfl) (Nat.le_of_ble_eq_true rfl) (eqI ?_)
    refine r_top (y := B1 (bI m 0 999)) (congrArg B1 (inL_b (lI := 0) (hI := 999) rfl rfl)) ?_
    refine r_if_eq (tgt := 32) hK dX10_missing_20 (by decide) (fun h20 => ?_) (fun h20 => ?_)
    · refine r_ldc hK ckX10_136 dX10_missing_32 ?_
      refine q_iret hK hR dX10_missing_34 ?_
      first
        | (refine ⟨?_, FM.rf⟩; unfold aMis; rw [if_pos hb, if_pos (bI_f.mp (B1_0.mp h20))]; done)
        | (refine ⟨?_, hfr⟩; unfold aMis; rw [if_pos hb, if_neg hor]; done)
    · refine r_aload_n (i := 0) hK dX10_missing_23 rfl rfl ?_
      have hor := bI_t.mp (B1_n.mp h20)
      obtain ⟨hm1, hm2⟩ := l0I (fun z => hor (Or.inl z)) (fun z => hor (Or.inr z))
      refine r_iload_n (i := 1) hK dX10_missing_24 rfl rfl ?_
      refine r_iload_n (i := 2) hK dX10_missing_25 rfl rfl ?_
      refine r_ci2 hK hnn (c_mMsOf hX hwn hj hm2 (by omega)) moX10_missingOf mlX10_347 to_91 rfl rfl dX10_missing_26 (Nat.le_of_ble_eq_true rfl) (Nat.le_of_ble_eq_true rfl) (fun v26 g26 q26 => ?_)
      obtain ⟨rfl, hfr⟩ := q26
      refine r_goto (tgt := 34) hK dX10_missing_29 (by decide) ?_
      refine q_iret hK hR dX10_missing_34 ?_
      first
        | (refine ⟨?_, FM.rf⟩; unfold aMis; rw [if_pos hb, if_pos (bI_f.mp (B1_0.mp h20))]; done)
        | (refine ⟨?_, hfr⟩; unfold aMis; rw [if_pos hb, if_neg hor]; done)
  · refine r_ldc hK ckX10_242 dX10_missing_8 ?_
    refine q_iret hK hR dX10_missing_10 ?_
    refine ⟨?_, FM.rf⟩
    unfold aMis
    rw [if_neg (by rw [B1_0.mp h5]; decide)]
def mLac (X : LN) (M : Nat) (p m : Int32) (g : St) : St := if isB p X.2.2.1.1 = true then (if m < 0 ∨ 999 < m then g else if M < 8 then upI (upI (upI g 119 M p) 120 M m) 91 47 (nI (M + 1)) else g) else g
def mLog (X : LN) (L : Nat) (p t k q : Int32) (g : St) : St := if (isB p X.2.2.1.1 && (isB t X.1 && isB q X.1)) = true then (if k < 0 ∨ 9 < k then g else if L < 30 then upI (upI (upI (upI (upI g 121 L p) 122 L t) 123 L k) 124 L q) 91 50 (nI (L + 1)) else g) else g
set_option maxHeartbeats 4000000 in
set_option maxRecDepth 100000 in
theorem c_mLack {ad : Nat → Nat} {g : St} {X : LN} (hX : MC g X) {p m : Int32} {M : Nat} (hM : g.1 91 47 = nI M) (hMb : M ≤ 8) : Ci 3 mX10_lack [.ref 91, .int p, .int m] ad g (fun v g' => v = aLac X M p m ∧ g' = mLac X M p m g) := by
  obtain ⟨hok, hpo, hlaw, x1, hW, hPs, x4⟩ := id hX
  have h10 := hok.2.1
  have h6 := hpo.1
  have h14 := hok.1
  refine Cm.mk rfl (Nat.le_of_ble_eq_true rfl) (fun K hK hR hm hnn => ?_)
  refine r_aload_n (i := 0) hK dX10_lack_0 rfl rfl ?_
  refine r_iload_n (i := 1) hK dX10_lack_1 rfl rfl ?_
  refine r_ci1 hK hnn (c_misPerson hPs.1 (by omega)) moX10_isPerson mlX10_243 to_91 rfl rfl dX10_lack_2 (Nat.le_of_ble_eq_true rfl) (Nat.le_of_ble_eq_true rfl) (eqI ?_)
  refine r_if_ne (tgt := 11) hK dX10_lack_5 (by decide) (fun h5 => ?_) (fun h5 => ?_)
  · refine r_iload_n (i := 2) hK dX10_lack_11 rfl rfl ?_
    have hb := B1_n.mp h5
    obtain ⟨hj, hwn⟩ := isB_cl (by omega) hb
    refine r_i2l hK dX10_lack_12 ?_
    refine r_lconst (v := 0) hK dX10_lack_13 (by decide) ?_
    refine r_ldc2 hK ckX10_340 dX10_lack_14 ?_
    refine r_si3 hK hnn c_mIn moX10_in mlX10_124 dX10_lack_17 (Nat.le_of_ble_eq_true rfl) (Nat.le_of_ble_eq_true rfl) (eqI ?_)
    refine r_top (y := B1 (bI m 0 999)) (congrArg B1 (inL_b (lI := 0) (hI := 999) rfl rfl)) ?_
    refine r_if_ne (tgt := 26) hK dX10_lack_20 (by decide) (fun h20 => ?_) (fun h20 => ?_)
    · refine r_aload_n (i := 0) hK dX10_lack_26 rfl rfl ?_
      refine r_getI hK flX10_232 to_91 rfl dX10_lack_27 ?_
      refine r_top (y := nI M) hM ?_
      refine r_bipush (v := 8) hK dX10_lack_30 (by decide) ?_
      refine r_icmp_ne (tgt := 38) hK dX10_lack_32 (by decide) (fun h32 => ?_) (fun h32 => ?_)
      · refine r_aload_n (i := 0) hK dX10_lack_38 rfl rfl ?_
        have hM8 : M < 8 := by have : ¬ M = 8 := fun z => h32 (by rw [z]; rfl); omega
        refine r_getA hK flX10_96 to_91 rfl dX10_lack_39 ?_
        refine r_aload_n (i := 0) hK dX10_lack_42 rfl rfl ?_
        refine r_getI hK flX10_232 to_91 rfl dX10_lack_43 ?_
        refine r_top (y := nI M) hM ?_
        refine r_iload_n (i := 1) hK dX10_lack_46 rfl rfl ?_
        refine r_iasN hK to_119 rfl (by omega) (by decide) dX10_lack_47 ?_
        refine r_aload_n (i := 0) hK dX10_lack_48 rfl rfl ?_
        refine r_getA hK flX10_99 to_91 rfl dX10_lack_49 ?_
        refine r_aload_n (i := 0) hK dX10_lack_52 rfl rfl ?_
        refine r_getI hK flX10_232 to_91 rfl dX10_lack_53 ?_
        refine r_top (y := nI M) ((congrFun (upI_n (by decide)) _).trans hM) ?_
        refine r_iload_n (i := 2) hK dX10_lack_56 rfl rfl ?_
        refine r_iasN hK to_120 rfl (by omega) (by decide) dX10_lack_57 ?_
        refine r_aload_n (i := 0) hK dX10_lack_58 rfl rfl ?_
        refine r_dup hK dX10_lack_59 rfl ?_
        refine r_getI hK flX10_232 to_91 rfl dX10_lack_60 ?_
        refine r_top (y := nI M) ((congrFun ((upI_n (by decide)).trans (upI_n (by decide))) _).trans hM) ?_
        refine r_iconst (v := 1) hK dX10_lack_63 (by decide) ?_
        refine r_iadd hK dX10_lack_64 ?_
        refine r_top (y := nI (M + 1)) (nI_succ _).symm ?_
        refine r_putI hK flX10_232 ft10_47 to_91 rfl dX10_lack_65 ?_
        refine r_aload_n (i := 0) hK dX10_lack_68 rfl rfl ?_
        refine r_getI hK flX10_232 to_91 rfl dX10_lack_69 ?_
        refine r_top (y := nI (M + 1)) ((congrFun upI_s _).trans upd_s) ?_
        refine q_iret hK hR dX10_lack_72 ?_
        unfold aLac mLac
        first
          | (have hb0 : ¬ isB p X.2.2.1.1 = true := (by rw [B1_0.mp h5]; decide); rw [if_neg hb0, if_neg hb0]; exact ⟨rfl, rfl⟩)
          | (have hor := bI_f.mp (B1_0.mp h20); rw [if_pos hb, if_pos hb, if_pos hor, if_pos hor]; exact ⟨rfl, rfl⟩)
          | (have hor := bI_t.mp (B1_n.mp h20); have hM8 : ¬ M < 8 := (fun z => by have : M = 8 := nI_inj (by omega) (by decide) h32; omega); rw [if_pos hb, if_pos hb, if_neg hor, if_neg hor, if_neg hM8, if_neg hM8]; exact ⟨rfl, rfl⟩)
          | (have hor := bI_t.mp (B1_n.mp h20); rw [if_pos hb, if_pos hb, if_neg hor, if_neg hor, if_pos hM8, if_pos hM8]; exact ⟨rfl, rfl⟩)
      · refine r_ldc hK ckX10_140 dX10_lack_35 ?_
        refine q_iret hK hR dX10_lack_37 ?_
        unfold aLac mLac
        first
          | (have hb0 : ¬ isB p X.2.2.1.1 = true := (by rw [B1_0.mp h5]; decide); rw [if_neg hb0, if_neg hb0]; exact ⟨rfl, rfl⟩)
          | (have hor := bI_f.mp (B1_0.mp h20); rw [if_pos hb, if_pos hb, if_pos hor, if_pos hor]; exact ⟨rfl, rfl⟩)
          | (have hor := bI_t.mp (B1_n.mp h20); have hM8 : ¬ M < 8 := (fun z => by have : M = 8 := nI_inj (by omega) (by decide) h32; omega); rw [if_pos hb, if_pos hb, if_neg hor, if_neg hor, if_neg hM8, if_neg hM8]; exact ⟨rfl, rfl⟩)
          | (have hor := bI_t.mp (B1_n.mp h20); rw [if_pos hb, if_pos hb, if_neg hor, if_neg hor, if_pos hM8, if_pos hM8]; exact ⟨rfl, rfl⟩)
    · refine r_ldc hK ckX10_136 dX10_lack_23 ?_
      refine q_iret hK hR dX10_lack_25 ?_
      unfold aLac mLac
      first
        | (have hb0 : ¬ isB p X.2.2.1.1 = true := (by rw [B1_0.mp h5]; decide); rw [if_neg hb0, if_neg hb0]; exact ⟨rfl, rfl⟩)
        | (have hor := bI_f.mp (B1_0.mp h20); rw [if_pos hb, if_pos hb, if_pos hor, if_pos hor]; exact ⟨rfl, rfl⟩)
        | (have hor := bI_t.mp (B1_n.mp h20); have hM8 : ¬ M < 8 := (fun z => by have : M = 8 := nI_inj (by omega) (by decide) h32; omega); rw [if_pos hb, if_pos hb, if_neg hor, if_neg hor, if_neg hM8, if_neg hM8]; exact ⟨rfl, rfl⟩)
        | (have hor := bI_t.mp (B1_n.mp h20); rw [if_pos hb, if_pos hb, if_neg hor, if_neg hor, if_pos hM8, if_pos hM8]; exact ⟨rfl, rfl⟩)
  · refine r_ldc hK ckX10_242 dX10_lack_8 ?_
    refine q_iret hK hR dX10_lack_10 ?_
    unfold aLac mLac
    first
      | (have hb0 : ¬ isB p X.2.2.1.1 = true := (by rw [B1_0.mp h5]; decide); rw [if_neg hb0, if_neg hb0]; exact ⟨rfl, rfl⟩)
      | (have hor := bI_f.mp (B1_0.mp h20); rw [if_pos hb, if_pos hb, if_pos hor, if_pos hor]; exact ⟨rfl, rfl⟩)
      | (have hor := bI_t.mp (B1_n.mp h20); have hM8 : ¬ M < 8 := (fun z => by have : M = 8 := nI_inj (by omega) (by decide) h32; omega); rw [if_pos hb, if_pos hb, if_neg hor, if_neg hor, if_neg hM8, if_neg hM8]; exact ⟨rfl, rfl⟩)
      | (have hor := bI_t.mp (B1_n.mp h20); rw [if_pos hb, if_pos hb, if_neg hor, if_neg hor, if_pos hM8, if_pos hM8]; exact ⟨rfl, rfl⟩)
set_option maxHeartbeats 4000000 in
set_option maxRecDepth 100000 in
theorem c_mLogg {ad : Nat → Nat} {g : St} {X : LN} (hX : MC g X) {p t k q : Int32} {L : Nat} (hL : g.1 91 50 = nI L) (hLb : L ≤ 30) : Ci 3 mX10_log [.ref 91, .int p, .int t, .int k, .int q] ad g (fun v g' => v = aLog X L p t k q ∧ g' = mLog X L p t k q g) := by
  obtain ⟨hok, hpo, hlaw, x1, hW, hPs, x4⟩ := id hX
  have h10 := hok.2.1
  have h6 := hpo.1
  have h14 := hok.1
  refine Cm.mk rfl (Nat.le_of_ble_eq_true rfl) (fun K hK hR hm hnn => ?_)
  refine r_aload_n (i := 0) hK dX10_log_0 rfl rfl ?_
  refine r_iload_n (i := 1) hK dX10_log_1 rfl rfl ?_
  refine r_ci1 hK hnn (c_misPerson hPs.1 (by omega)) moX10_isPerson mlX10_243 to_91 rfl rfl dX10_log_2 (Nat.le_of_ble_eq_true rfl) (Nat.le_of_ble_eq_true rfl) (eqI ?_)
  refine r_if_eq (tgt := 25) hK dX10_log_5 (by decide) (fun h5 => ?_) (fun h5 => ?_)
  · refine r_ldc hK ckX10_242 dX10_log_25 ?_
    refine q_iret hK hR dX10_log_27 ?_
    unfold aLog mLog
    first
      | (have hb0 : ¬ (isB p X.2.2.1.1 && (isB t X.1 && isB q X.1)) = true := (by rw [B1_0.mp h5]; simp); rw [if_neg hb0, if_neg hb0]; exact ⟨rfl, rfl⟩)
      | (have hb0 : ¬ (isB p X.2.2.1.1 && (isB t X.1 && isB q X.1)) = true := (by rw [B1_0.mp h13]; simp); rw [if_neg hb0, if_neg hb0]; exact ⟨rfl, rfl⟩)
      | (have hb0 : ¬ (isB p X.2.2.1.1 && (isB t X.1 && isB q X.1)) = true := (by rw [B1_0.mp h22]; simp); rw [if_neg hb0, if_neg hb0]; exact ⟨rfl, rfl⟩)
      | (have hor := bI_f.mp (B1_0.mp h37); rw [if_pos hb, if_pos hb, if_pos hor, if_pos hor]; exact ⟨rfl, rfl⟩)
      | (have hor := bI_t.mp (B1_n.mp h37); have hL9 : ¬ L < 30 := (fun z => by have : L = 30 := nI_inj (by omega) (by decide) h49; omega); rw [if_pos hb, if_pos hb, if_neg hor, if_neg hor, if_neg hL9, if_neg hL9]; exact ⟨rfl, rfl⟩)
      | (have hor := bI_t.mp (B1_n.mp h37); rw [if_pos hb, if_pos hb, if_neg hor, if_neg hor, if_pos hL9, if_pos hL9]; exact ⟨rfl, rfl⟩)
  · refine r_aload_n (i := 0) hK dX10_log_8 rfl rfl ?_
    refine r_iload_n (i := 2) hK dX10_log_9 rfl rfl ?_
    refine r_ci1 hK hnn (c_misPlace x1 (by omega)) moX10_isPlace mlX10_256 to_91 rfl rfl dX10_log_10 (Nat.le_of_ble_eq_true rfl) (Nat.le_of_ble_eq_true rfl) (eqI ?_)
    refine r_if_eq (tgt := 25) hK dX10_log_13 (by decide) (fun h13 => ?_) (fun h13 => ?_)
    · refine r_ldc hK ckX10_242 dX10_log_25 ?_
      refine q_iret hK hR dX10_log_27 ?_
      unfold aLog mLog
      first
        | (have hb0 : ¬ (isB p X.2.2.1.1 && (isB t X.1 && isB q X.1)) = true := (by rw [B1_0.mp h5]; simp); rw [if_neg hb0, if_neg hb0]; exact ⟨rfl, rfl⟩)
        | (have hb0 : ¬ (isB p X.2.2.1.1 && (isB t X.1 && isB q X.1)) = true := (by rw [B1_0.mp h13]; simp); rw [if_neg hb0, if_neg hb0]; exact ⟨rfl, rfl⟩)
        | (have hb0 : ¬ (isB p X.2.2.1.1 && (isB t X.1 && isB q X.1)) = true := (by rw [B1_0.mp h22]; simp); rw [if_neg hb0, if_neg hb0]; exact ⟨rfl, rfl⟩)
        | (have hor := bI_f.mp (B1_0.mp h37); rw [if_pos hb, if_pos hb, if_pos hor, if_pos hor]; exact ⟨rfl, rfl⟩)
        | (have hor := bI_t.mp (B1_n.mp h37); have hL9 : ¬ L < 30 := (fun z => by have : L = 30 := nI_inj (by omega) (by decide) h49; omega); rw [if_pos hb, if_pos hb, if_neg hor, if_neg hor, if_neg hL9, if_neg hL9]; exact ⟨rfl, rfl⟩)
        | (have hor := bI_t.mp (B1_n.mp h37); rw [if_pos hb, if_pos hb, if_neg hor, if_neg hor, if_pos hL9, if_pos hL9]; exact ⟨rfl, rfl⟩)
    · refine r_aload_n (i := 0) hK dX10_log_16 rfl rfl ?_
      refine r_iload (i := 4) hK dX10_log_17 rfl ?_
      refine r_ci1 hK hnn (c_misPlace x1 (by omega)) moX10_isPlace mlX10_256 to_91 rfl rfl dX10_log_19 (Nat.le_of_ble_eq_true rfl) (Nat.le_of_ble_eq_true rfl) (eqI ?_)
      refine r_if_ne (tgt := 28) hK dX10_log_22 (by decide) (fun h22 => ?_) (fun h22 => ?_)
      · refine r_iload_n (i := 3) hK dX10_log_28 rfl rfl ?_
        have hb : (isB p X.2.2.1.1 && (isB t X.1 && isB q X.1)) = true := by rw [B1_n.mp h5, B1_n.mp h13, B1_n.mp h22]; rfl
        refine r_i2l hK dX10_log_29 ?_
        refine r_lconst (v := 0) hK dX10_log_30 (by decide) ?_
        refine r_ldc2 hK ckX10_350 dX10_log_31 ?_
        refine r_si3 hK hnn c_mIn moX10_in mlX10_124 dX10_log_34 (Nat.le_of_ble_eq_true rfl) (Nat.le_of_ble_eq_true rfl) (eqI ?_)
        refine r_top (y := B1 (bI k 0 9)) (congrArg B1 (inL_b (lI := 0) (hI := 9) rfl rfl)) ?_
        refine r_if_ne (tgt := 43) hK dX10_log_37 (by decide) (fun h37 => ?_) (fun h37 => ?_)
        · refine r_aload_n (i := 0) hK dX10_log_43 rfl rfl ?_
          refine r_getI hK flX10_229 to_91 rfl dX10_log_44 ?_
          refine r_top (y := nI L) (hL) ?_
          refine r_bipush (v := 30) hK dX10_log_47 (by decide) ?_
          refine r_icmp_ne (tgt := 55) hK dX10_log_49 (by decide) (fun h49 => ?_) (fun h49 => ?_)
          · refine r_aload_n (i := 0) hK dX10_log_55 rfl rfl ?_
            have hL9 : L < 30 := by have : ¬ L = 30 := fun z => h49 (by rw [z]; rfl); omega
            refine r_getA hK flX10_102 to_91 rfl dX10_log_56 ?_
            refine r_aload_n (i := 0) hK dX10_log_59 rfl rfl ?_
            refine r_getI hK flX10_229 to_91 rfl dX10_log_60 ?_
            refine r_top (y := nI L) (hL) ?_
            refine r_iload_n (i := 1) hK dX10_log_63 rfl rfl ?_
            refine r_iasN hK to_121 rfl (by omega) (by decide) dX10_log_64 ?_
            refine r_aload_n (i := 0) hK dX10_log_65 rfl rfl ?_
            refine r_getA hK flX10_105 to_91 rfl dX10_log_66 ?_
            refine r_aload_n (i := 0) hK dX10_log_69 rfl rfl ?_
            refine r_getI hK flX10_229 to_91 rfl dX10_log_70 ?_
            refine r_top (y := nI L) ((congrFun (upI_n (by decide)) _).trans hL) ?_
            refine r_iload_n (i := 2) hK dX10_log_73 rfl rfl ?_
            refine r_iasN hK to_122 rfl (by omega) (by decide) dX10_log_74 ?_
            refine r_aload_n (i := 0) hK dX10_log_75 rfl rfl ?_
            refine r_getA hK flX10_108 to_91 rfl dX10_log_76 ?_
            refine r_aload_n (i := 0) hK dX10_log_79 rfl rfl ?_
            refine r_getI hK flX10_229 to_91 rfl dX10_log_80 ?_
            refine r_top (y := nI L) ((congrFun ((upI_n (by decide)).trans (upI_n (by decide))) _).trans hL) ?_
            refine r_iload_n (i := 3) hK dX10_log_83 rfl rfl ?_
            refine r_iasN hK to_123 rfl (by omega) (by decide) dX10_log_84 ?_
            refine r_aload_n (i := 0) hK dX10_log_85 rfl rfl ?_
            refine r_getA hK flX10_111 to_91 rfl dX10_log_86 ?_
            refine r_aload_n (i := 0) hK dX10_log_89 rfl rfl ?_
            refine r_getI hK flX10_229 to_91 rfl dX10_log_90 ?_
            refine r_top (y := nI L) ((congrFun ((upI_n (by decide)).trans ((upI_n (by decide)).trans (upI_n (by decide)))) _).trans hL) ?_
            refine r_iload (i := 4) hK dX10_log_93 rfl ?_
            refine r_iasN hK to_124 rfl (by omega) (by decide) dX10_log_95 ?_
            refine r_aload_n (i := 0) hK dX10_log_96 rfl rfl ?_
            refine r_dup hK dX10_log_97 rfl ?_
            refine r_getI hK flX10_229 to_91 rfl dX10_log_98 ?_
            refine r_top (y := nI L) ((congrFun ((upI_n (by decide)).trans ((upI_n (by decide)).trans ((upI_n (by decide)).trans (upI_n (by decide))))) _).trans hL) ?_
            refine r_iconst (v := 1) hK dX10_log_101 (by decide) ?_
            refine r_iadd hK dX10_log_102 ?_
            refine r_top (y := nI (L + 1)) (nI_succ _).symm ?_
            refine r_putI hK flX10_229 ft10_50 to_91 rfl dX10_log_103 ?_
            refine r_aload_n (i := 0) hK dX10_log_106 rfl rfl ?_
            refine r_getI hK flX10_229 to_91 rfl dX10_log_107 ?_
            refine r_top (y := nI (L + 1)) ((congrFun upI_s _).trans upd_s) ?_
            refine q_iret hK hR dX10_log_110 ?_
            unfold aLog mLog
            first
              | (have hb0 : ¬ (isB p X.2.2.1.1 && (isB t X.1 && isB q X.1)) = true := (by rw [B1_0.mp h5]; simp); rw [if_neg hb0, if_neg hb0]; exact ⟨rfl, rfl⟩)
              | (have hb0 : ¬ (isB p X.2.2.1.1 && (isB t X.1 && isB q X.1)) = true := (by rw [B1_0.mp h13]; simp); rw [if_neg hb0, if_neg hb0]; exact ⟨rfl, rfl⟩)
              | (have hb0 : ¬ (isB p X.2.2.1.1 && (isB t X.1 && isB q X.1)) = true := (by rw [B1_0.mp h22]; simp); rw [if_neg hb0, if_neg hb0]; exact ⟨rfl, rfl⟩)
              | (have hor := bI_f.mp (B1_0.mp h37); rw [if_pos hb, if_pos hb, if_pos hor, if_pos hor]; exact ⟨rfl, rfl⟩)
              | (have hor := bI_t.mp (B1_n.mp h37); have hL9 : ¬ L < 30 := (fun z => by have : L = 30 := nI_inj (by omega) (by decide) h49; omega); rw [if_pos hb, if_pos hb, if_neg hor, if_neg hor, if_neg hL9, if_neg hL9]; exact ⟨rfl, rfl⟩)
              | (have hor := bI_t.mp (B1_n.mp h37); rw [if_pos hb, if_pos hb, if_neg hor, if_neg hor, if_pos hL9, if_pos hL9]; exact ⟨rfl, rfl⟩)
          · refine r_ldc hK ckX10_140 dX10_log_52 ?_
            refine q_iret hK hR dX10_log_54 ?_
            unfold aLog mLog
            first
              | (have hb0 : ¬ (isB p X.2.2.1.1 && (isB t X.1 && isB q X.1)) = true := (by rw [B1_0.mp h5]; simp); rw [if_neg hb0, if_neg hb0]; exact ⟨rfl, rfl⟩)
              | (have hb0 : ¬ (isB p X.2.2.1.1 && (isB t X.1 && isB q X.1)) = true := (by rw [B1_0.mp h13]; simp); rw [if_neg hb0, if_neg hb0]; exact ⟨rfl, rfl⟩)
              | (have hb0 : ¬ (isB p X.2.2.1.1 && (isB t X.1 && isB q X.1)) = true := (by rw [B1_0.mp h22]; simp); rw [if_neg hb0, if_neg hb0]; exact ⟨rfl, rfl⟩)
              | (have hor := bI_f.mp (B1_0.mp h37); rw [if_pos hb, if_pos hb, if_pos hor, if_pos hor]; exact ⟨rfl, rfl⟩)
              | (have hor := bI_t.mp (B1_n.mp h37); have hL9 : ¬ L < 30 := (fun z => by have : L = 30 := nI_inj (by omega) (by decide) h49; omega); rw [if_pos hb, if_pos hb, if_neg hor, if_neg hor, if_neg hL9, if_neg hL9]; exact ⟨rfl, rfl⟩)
              | (have hor := bI_t.mp (B1_n.mp h37); rw [if_pos hb, if_pos hb, if_neg hor, if_neg hor, if_pos hL9, if_pos hL9]; exact ⟨rfl, rfl⟩)
        · refine r_ldc hK ckX10_136 dX10_log_40 ?_
          refine q_iret hK hR dX10_log_42 ?_
          unfold aLog mLog
          first
            | (have hb0 : ¬ (isB p X.2.2.1.1 && (isB t X.1 && isB q X.1)) = true := (by rw [B1_0.mp h5]; simp); rw [if_neg hb0, if_neg hb0]; exact ⟨rfl, rfl⟩)
            | (have hb0 : ¬ (isB p X.2.2.1.1 && (isB t X.1 && isB q X.1)) = true := (by rw [B1_0.mp h13]; simp); rw [if_neg hb0, if_neg hb0]; exact ⟨rfl, rfl⟩)
            | (have hb0 : ¬ (isB p X.2.2.1.1 && (isB t X.1 && isB q X.1)) = true := (by rw [B1_0.mp h22]; simp); rw [if_neg hb0, if_neg hb0]; exact ⟨rfl, rfl⟩)
            | (have hor := bI_f.mp (B1_0.mp h37); rw [if_pos hb, if_pos hb, if_pos hor, if_pos hor]; exact ⟨rfl, rfl⟩)
            | (have hor := bI_t.mp (B1_n.mp h37); have hL9 : ¬ L < 30 := (fun z => by have : L = 30 := nI_inj (by omega) (by decide) h49; omega); rw [if_pos hb, if_pos hb, if_neg hor, if_neg hor, if_neg hL9, if_neg hL9]; exact ⟨rfl, rfl⟩)
            | (have hor := bI_t.mp (B1_n.mp h37); rw [if_pos hb, if_pos hb, if_neg hor, if_neg hor, if_pos hL9, if_pos hL9]; exact ⟨rfl, rfl⟩)
      · refine r_ldc hK ckX10_242 dX10_log_25 ?_
        refine q_iret hK hR dX10_log_27 ?_
        unfold aLog mLog
        first
          | (have hb0 : ¬ (isB p X.2.2.1.1 && (isB t X.1 && isB q X.1)) = true := (by rw [B1_0.mp h5]; simp); rw [if_neg hb0, if_neg hb0]; exact ⟨rfl, rfl⟩)
          | (have hb0 : ¬ (isB p X.2.2.1.1 && (isB t X.1 && isB q X.1)) = true := (by rw [B1_0.mp h13]; simp); rw [if_neg hb0, if_neg hb0]; exact ⟨rfl, rfl⟩)
          | (have hb0 : ¬ (isB p X.2.2.1.1 && (isB t X.1 && isB q X.1)) = true := (by rw [B1_0.mp h22]; simp); rw [if_neg hb0, if_neg hb0]; exact ⟨rfl, rfl⟩)
          | (have hor := bI_f.mp (B1_0.mp h37); rw [if_pos hb, if_pos hb, if_pos hor, if_pos hor]; exact ⟨rfl, rfl⟩)
          | (have hor := bI_t.mp (B1_n.mp h37); have hL9 : ¬ L < 30 := (fun z => by have : L = 30 := nI_inj (by omega) (by decide) h49; omega); rw [if_pos hb, if_pos hb, if_neg hor, if_neg hor, if_neg hL9, if_neg hL9]; exact ⟨rfl, rfl⟩)
          | (have hor := bI_t.mp (B1_n.mp h37); rw [if_pos hb, if_pos hb, if_neg hor, if_neg hor, if_pos hL9, if_pos hL9]; exact ⟨rfl, rfl⟩)
set_option maxHeartbeats 4000000 in
set_option maxRecDepth 100000 in
theorem c_mClear {ad : Nat → Nat} {g : St} {L M : Nat} (hL : g.1 91 50 = nI L) (hM : g.1 91 47 = nI M) : Ci 1 mX10_clear [.ref 91] ad g (fun v g' => v = nI (L + M) ∧ g' = upI (upI g 91 50 0) 91 47 0) := by
  refine Cm.mk rfl (Nat.le_of_ble_eq_true rfl) (fun K hK hR hm hnn => ?_)
  refine r_aload_n (i := 0) hK dX10_clear_0 rfl rfl ?_
  refine r_getI hK flX10_229 to_91 rfl dX10_clear_1 ?_
  refine r_top (y := nI L) hL ?_
  refine r_aload_n (i := 0) hK dX10_clear_4 rfl rfl ?_
  refine r_getI hK flX10_232 to_91 rfl dX10_clear_5 ?_
  refine r_top (y := nI M) hM ?_
  refine r_iadd hK dX10_clear_8 ?_
  refine r_top (y := nI (L + M)) (nI_add _ _) ?_
  refine r_istore_n (i := 1) hK hm dX10_clear_9 rfl (by decide) ?_
  refine r_aload_n (i := 0) hK dX10_clear_10 rfl rfl ?_
  refine r_iconst (v := 0) hK dX10_clear_11 (by decide) ?_
  refine r_putI hK flX10_229 ft10_50 to_91 rfl dX10_clear_12 ?_
  refine r_aload_n (i := 0) hK dX10_clear_15 rfl rfl ?_
  refine r_iconst (v := 0) hK dX10_clear_16 (by decide) ?_
  refine r_putI hK flX10_232 ft10_47 to_91 rfl dX10_clear_17 ?_
  refine r_iload_n (i := 1) hK dX10_clear_20 rfl rfl ?_
  refine q_iret hK hR dX10_clear_21 ?_
  exact ⟨rfl, rfl⟩
set_option maxHeartbeats 4000000 in
set_option maxRecDepth 100000 in
theorem c_mSeed {ad : Nat → Nat} {g : St} {s : Nat} {v : Int32} (hsd : g.1 91 12 = nI s) : Ci 1 mX10_seed [.ref 91, .int v] ad g (fun r g' => r = aSee s v ∧ g' = (if v < 0 then g else upI g 91 12 v)) := by
  refine Cm.mk rfl (Nat.le_of_ble_eq_true rfl) (fun K hK hR hm hnn => ?_)
  refine r_iload_n (i := 1) hK dX10_seed_0 rfl rfl ?_
  refine r_if_ge (tgt := 7) hK dX10_seed_1 (by decide) (fun h1 => ?_) (fun h1 => ?_)
  · refine r_aload_n (i := 0) hK dX10_seed_7 rfl rfl ?_
    refine r_getI hK flX10_355 to_91 rfl dX10_seed_8 ?_
    refine r_top (y := nI s) hsd ?_
    refine r_istore_n (i := 2) hK hm dX10_seed_11 rfl (by decide) ?_
    refine r_aload_n (i := 0) hK dX10_seed_12 rfl rfl ?_
    refine r_iload_n (i := 1) hK dX10_seed_13 rfl rfl ?_
    refine r_putI hK flX10_355 ft10_12 to_91 rfl dX10_seed_14 ?_
    refine r_iload_n (i := 2) hK dX10_seed_17 rfl rfl ?_
    refine q_iret hK hR dX10_seed_18 ?_
    unfold aSee
    first
      | (rw [if_pos h1, if_pos h1]; exact ⟨rfl, rfl⟩)
      | (have h1n : ¬ v < 0 := Int32.not_lt.mpr h1; rw [if_neg h1n, if_neg h1n]; exact ⟨rfl, rfl⟩)
      | (have h1n : v < 0 := Int32.not_le.mp h1; rw [if_pos h1n, if_pos h1n]; exact ⟨rfl, rfl⟩)
      | (rw [if_neg h1, if_neg h1]; exact ⟨rfl, rfl⟩)
  · refine r_ldc hK ckX10_136 dX10_seed_4 ?_
    refine q_iret hK hR dX10_seed_6 ?_
    unfold aSee
    first
      | (rw [if_pos h1, if_pos h1]; exact ⟨rfl, rfl⟩)
      | (have h1n : ¬ v < 0 := Int32.not_lt.mpr h1; rw [if_neg h1n, if_neg h1n]; exact ⟨rfl, rfl⟩)
      | (have h1n : v < 0 := Int32.not_le.mp h1; rw [if_pos h1n, if_pos h1n]; exact ⟨rfl, rfl⟩)
      | (rw [if_neg h1, if_neg h1]; exact ⟨rfl, rfl⟩)
set_option maxHeartbeats 4000000 in
set_option maxRecDepth 100000 in
theorem c_mFault {ad : Nat → Nat} {g : St}  : Ci 1 mX10_fault [.ref 91] ad g (fun v g' => v = g.1 91 15 ∧ g' = g) := by
  refine Cm.mk rfl (Nat.le_of_ble_eq_true rfl) (fun K hK hR hm hnn => ?_)
  refine r_aload_n (i := 0) hK dX10_fault_0 rfl rfl ?_
  refine r_getI hK flX10_37 to_91 rfl dX10_fault_1 ?_
  refine q_iret hK hR dX10_fault_4 ?_
  exact ⟨rfl, rfl⟩
