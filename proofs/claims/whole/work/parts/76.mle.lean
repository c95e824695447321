/-! THE MODEL: where persons lead -/
theorem MR_up {g : St} {D : WD} {kn : Nat → Bool} {t a j k : Nat} {x : Int32} (h : MR g D kn t a) (h1 : j ≠ 110) (h2 : j ≠ 111) (h3 : j ≠ 91) : MR (upI g j k x) D kn t a := by
  unfold MR at *
  rw [upI_n (Ne.symm h1), upI_n (Ne.symm h2), upI_n (Ne.symm h3)]
  exact h
/-- the ends, the minutes, for those persons -/
def MG (g : St) (V : VT) (n : Nat) : Prop := ∀ q, q < n → g.1 112 q = enI (V.1 q) ∧ g.1 113 q = nI (V.2 q)
def sX (X : LN) (t : Nat) (own : Bool) (p : Nat) : Nat := if own = true then owX X p (X.2.2.1.2.1 p) t else saX X p (X.2.2.1.2.1 p) t
theorem vX_1 {X : LN} {t p : Nat} {own : Bool} : (vX X t own).1 p = vcE X.2.1 (kN X p) t (X.2.2.1.2.1 p) (sX X t own p) := rfl
theorem vX_2 {X : LN} {t p : Nat} {own : Bool} : (vX X t own).2 p = rM X.2.1 (kN X p) t (X.2.2.1.2.1 p) (sX X t own p) := rfl
theorem sX_le {X : LN} {t p : Nat} {own : Bool} : sX X t own p ≤ rn0 X.2.1 (kN X p) t (X.2.2.1.2.1 p) := by
  unfold sX
  split
  · exact bD_le _
  · exact sdF_le

theorem pM112b {g : St} {f1 f2 f3 : Nat → Int32} {v : Int32} : (pM g f1 f2 f3 v).1 112 = g.1 112 := by unfold pM; rw [upI_n (by decide), upR_n (by decide), upR_n (by decide), upR_n (by decide)]
theorem pM113b {g : St} {f1 f2 f3 : Nat → Int32} {v : Int32} : (pM g f1 f2 f3 v).1 113 = g.1 113 := by unfold pM; rw [upI_n (by decide), upR_n (by decide), upR_n (by decide), upR_n (by decide)]
theorem pM112 {g : St} {f1 f2 f3 : Nat → Int32} {v : Int32} (x : Int32) : (upI (pM g f1 f2 f3 v) 91 36 x).1 112 = g.1 112 := (upI_n (by decide)).trans pM112b
theorem pM113 {g : St} {f1 f2 f3 : Nat → Int32} {v : Int32} (x : Int32) : (upI (pM g f1 f2 f3 v) 91 36 x).1 113 = g.1 113 := (upI_n (by decide)).trans pM113b
set_option maxHeartbeats 4000000 in
set_option maxRecDepth 100000 in
theorem lm_fE {K : KT} {ad : Nat → Nat} {g : St} {X : LN} (hX : MC g X) {t : Nat} {own : Bool} (ht : t < X.1) {V : VT} (hV1 : ∀ p, V.1 p = vcE X.2.1 (kN X p) t (X.2.2.1.2.1 p) (sX X t own p)) (hV2 : ∀ p, V.2 p = rM X.2.1 (kN X p) t (X.2.2.1.2.1 p) (sX X t own p)) (hK : Cx K RX10 cX10_findEnds 5 ad) (hm : K.2.2.1.2.maxLocals = 5) (hnn : Nn K 0 0)
    (hR : Rt K 0 0 TT ad none (Qv ad (fun g' => FM g g' ∧ MG g' V X.2.2.1.1))) :
    ∀ m p, p + m = X.2.2.1.1 → ∀ g1 : St, FM g g1 → MG g1 V p → Wp K 0 0 TT ad g1 2 [(0, .ref 91), (1, .int (nI t)), (2, .int (B1 own)), (3, .int (nI p))] [] := by
  obtain ⟨hok, hpo, hlaw, x1, hW, hPs, x4⟩ := id hX
  have h10 := hok.2.1
  have h6 := hpo.1
  have h14 := hok.1
  intro m
  induction m with
  | zero =>
    intro p hpm g1 hfr hmg
    have e : p = X.2.2.1.1 := by omega
    subst e
    refine r_iload_n (i := 3) hK dX10_findEnds_2 rfl rfl ?_
    refine r_aload_n (i := 0) hK dX10_findEnds_3 rfl rfl ?_
    refine r_getI hK flX10_131 to_91 rfl dX10_findEnds_4 ?_
    refine r_top (y := nI X.2.2.1.1) ((hfr.2.1 5 rfl).trans hPs.1) ?_
    refine r_icmp_ge (tgt := 88) hK dX10_findEnds_7 (by decide) (fun _ => ?_) (fun h => absurd (nI_le (Nat.le_refl _) (by omega)) h)
    refine q_vret hK hR dX10_findEnds_88 ?_
    exact ⟨hfr, hmg⟩
  | succ m ih =>
    intro p hpm g1 hfr hmg
    have hp : p < X.2.2.1.1 := by omega
    have hX1 := MC_of hX hfr
    obtain ⟨p1, p2, p3, p4, p5⟩ := hpo.2 p hp
    obtain ⟨r1, r2, r3, r4, r5⟩ := hPs.2 p hp
    have hrb := rt_b hok (kN X p) t p1
    have h41 : ∀ (g2 : St) (s : Nat), FM g g2 → MR g2 X.2.1 (kN X p) t (X.2.2.1.2.1 p) → s = sX X t own p → g2.1 112 = g1.1 112 → g2.1 113 = g1.1 113 → Wp K 0 0 TT ad g2 41 [(0, .ref 91), (1, .int (nI t)), (2, .int (B1 own)), (3, .int (nI p))] [.int (nI s)] := by
      intro g2 s hg2 hMR hsX hg112 hg113
      have hs : s ≤ rn0 X.2.1 (kN X p) t (X.2.2.1.2.1 p) := by rw [hsX]; exact sX_le
      have v1 := hV1 p
      have v2 := hV2 p
      rw [← hsX] at v1 v2
      refine r_istore (i := 4) hK hm dX10_findEnds_41 (by decide) ?_
      refine r_aload_n (i := 0) hK dX10_findEnds_43 rfl rfl ?_
      refine r_getA hK flX10_74 to_91 rfl dX10_findEnds_44 ?_
      refine r_iload_n (i := 3) hK dX10_findEnds_47 rfl rfl ?_
      refine r_iload (i := 4) hK dX10_findEnds_48 rfl ?_
      refine r_if_ne (tgt := 57) hK dX10_findEnds_50 (by decide) (fun h50 => ?_) (fun h50 => ?_)
      · refine r_aload_n (i := 0) hK dX10_findEnds_57 rfl rfl ?_
        refine r_aload_n (i := 0) hK dX10_findEnds_58 rfl rfl ?_
        refine r_getA hK flX10_19 to_91 rfl dX10_findEnds_59 ?_
        refine r_iload_n (i := 3) hK dX10_findEnds_62 rfl rfl ?_
        refine r_ialN hK to_95 rfl (by omega) (by decide) ((congrFun (hg2.1 95 (by decide)) _).trans r1) dX10_findEnds_63 ?_
        refine r_iload (i := 4) hK dX10_findEnds_64 rfl ?_
        refine r_ci2 hK hnn (c_mEndOf hok p1 hMR rfl rfl hs) moX10_endOf mlX10_274 to_91 rfl rfl dX10_findEnds_66 (Nat.le_of_ble_eq_true rfl) (Nat.le_of_ble_eq_true rfl) (eqI ?_)
        refine r_iasN hK to_112 rfl (by omega) (by decide) dX10_findEnds_69 ?_
        refine r_aload_n (i := 0) hK dX10_findEnds_70 rfl rfl ?_
        refine r_getA hK flX10_77 to_91 rfl dX10_findEnds_71 ?_
        refine r_iload_n (i := 3) hK dX10_findEnds_74 rfl rfl ?_
        refine r_aload_n (i := 0) hK dX10_findEnds_75 rfl rfl ?_
        refine r_iload (i := 4) hK dX10_findEnds_76 rfl ?_
        refine r_ci1 hK hnn (c_mLongOf hok p1 (MR_up hMR (by decide) (by decide) (by decide)) rfl hs) moX10_longOf mlX10_267 to_91 rfl rfl dX10_findEnds_78 (Nat.le_of_ble_eq_true rfl) (Nat.le_of_ble_eq_true rfl) (eqI ?_)
        refine r_iasN hK to_113 rfl (by omega) (by decide) dX10_findEnds_81 ?_
        refine r_iincN (i := 3) hK hm dX10_findEnds_82 rfl (by decide) ?_
        refine r_goto (tgt := 2) hK dX10_findEnds_85 (by decide) ?_
        refine r_loc ?_ (ih (p + 1) (by omega) _ ((hg2.up (by decide) (by decide)).up (by decide) (by decide)) (fun q hq => ?_))
        · rfl
        by_cases e : q = p
        · subst e
          rw [upI_n (by decide), upI_s, upd_s, upI_s, upd_s]
          refine ⟨?_, (congrArg nI v2).symm⟩
          rw [v1]
          first
            | (rw [enI_vc0 (nI_inj (by omega) (by decide) h50)]; done)
            | (rw [enI_vc1 (fun z => h50 (by rw [z]; rfl)) (by have := (hrb.2 s hs).1; omega)]; done)
        · rw [upI_n (by decide), upI_s, upd_e e, upI_s, upd_e e, upI_n (by decide), hg112, hg113]
          exact hmg q (by omega)
      · refine r_iconst (v := (-1)) hK dX10_findEnds_53 (by decide) ?_
        refine r_goto (tgt := 69) hK dX10_findEnds_54 (by decide) ?_
        refine r_iasN hK to_112 rfl (by omega) (by decide) dX10_findEnds_69 ?_
        refine r_aload_n (i := 0) hK dX10_findEnds_70 rfl rfl ?_
        refine r_getA hK flX10_77 to_91 rfl dX10_findEnds_71 ?_
        refine r_iload_n (i := 3) hK dX10_findEnds_74 rfl rfl ?_
        refine r_aload_n (i := 0) hK dX10_findEnds_75 rfl rfl ?_
        refine r_iload (i := 4) hK dX10_findEnds_76 rfl ?_
        refine r_ci1 hK hnn (c_mLongOf hok p1 (MR_up hMR (by decide) (by decide) (by decide)) rfl hs) moX10_longOf mlX10_267 to_91 rfl rfl dX10_findEnds_78 (Nat.le_of_ble_eq_true rfl) (Nat.le_of_ble_eq_true rfl) (eqI ?_)
        refine r_iasN hK to_113 rfl (by omega) (by decide) dX10_findEnds_81 ?_
        refine r_iincN (i := 3) hK hm dX10_findEnds_82 rfl (by decide) ?_
        refine r_goto (tgt := 2) hK dX10_findEnds_85 (by decide) ?_
        refine r_loc ?_ (ih (p + 1) (by omega) _ ((hg2.up (by decide) (by decide)).up (by decide) (by decide)) (fun q hq => ?_))
        · rfl
        by_cases e : q = p
        · subst e
          rw [upI_n (by decide), upI_s, upd_s, upI_s, upd_s]
          refine ⟨?_, (congrArg nI v2).symm⟩
          rw [v1]
          first
            | (rw [enI_vc0 (nI_inj (by omega) (by decide) h50)]; done)
            | (rw [enI_vc1 (fun z => h50 (by rw [z]; rfl)) (by have := (hrb.2 s hs).1; omega)]; done)
        · rw [upI_n (by decide), upI_s, upd_e e, upI_s, upd_e e, upI_n (by decide), hg112, hg113]
          exact hmg q (by omega)
    refine r_iload_n (i := 3) hK dX10_findEnds_2 rfl rfl ?_
    refine r_aload_n (i := 0) hK dX10_findEnds_3 rfl rfl ?_
    refine r_getI hK flX10_131 to_91 rfl dX10_findEnds_4 ?_
    refine r_top (y := nI X.2.2.1.1) ((hfr.2.1 5 rfl).trans hPs.1) ?_
    refine r_icmp_ge (tgt := 88) hK dX10_findEnds_7 (by decide) (fun h => absurd h (nI_ge hp (by omega))) (fun _ => ?_)
    refine r_iload_n (i := 2) hK dX10_findEnds_10 rfl rfl ?_
    refine r_if_eq (tgt := 29) hK dX10_findEnds_11 (by decide) (fun h11 => ?_) (fun h11 => ?_)
    · refine r_aload_n (i := 0) hK dX10_findEnds_29 rfl rfl ?_
      have hown := B1_0.mp h11
      refine r_iload_n (i := 3) hK dX10_findEnds_30 rfl rfl ?_
      refine r_aload_n (i := 0) hK dX10_findEnds_31 rfl rfl ?_
      refine r_getA hK flX10_19 to_91 rfl dX10_findEnds_32 ?_
      refine r_iload_n (i := 3) hK dX10_findEnds_35 rfl rfl ?_
      refine r_ialN hK to_95 rfl (by omega) (by decide) ((congrFun (hfr.1 95 (by decide)) _).trans r1) dX10_findEnds_36 ?_
      refine r_iload_n (i := 1) hK dX10_findEnds_37 rfl rfl ?_
      refine r_ci3 hK hnn (c_mSaidBy hX1 rfl hp rfl p1 rfl ht) moX10_saidBy mlX10_277 to_91 rfl rfl dX10_findEnds_38 (Nat.le_of_ble_eq_true rfl) (Nat.le_of_ble_eq_true rfl) (fun v38 g38 q38 => ?_)
      obtain ⟨f1, f2, f3, v2, rfl, hMP, rfl⟩ := q38
      refine r_loc ?_ (h41 _ (saX X p (X.2.2.1.2.1 p) t) (hfr.tr FM_pM) (MR_pM hMP) (by unfold sX; rw [hown]; rfl) pM112b pM113b)
      rfl
    · refine r_aload_n (i := 0) hK dX10_findEnds_14 rfl rfl ?_
      have hown := B1_n.mp h11
      refine r_iload_n (i := 3) hK dX10_findEnds_15 rfl rfl ?_
      refine r_aload_n (i := 0) hK dX10_findEnds_16 rfl rfl ?_
      refine r_getA hK flX10_19 to_91 rfl dX10_findEnds_17 ?_
      refine r_iload_n (i := 3) hK dX10_findEnds_20 rfl rfl ?_
      refine r_ialN hK to_95 rfl (by omega) (by decide) ((congrFun (hfr.1 95 (by decide)) _).trans r1) dX10_findEnds_21 ?_
      refine r_iload_n (i := 1) hK dX10_findEnds_22 rfl rfl ?_
      refine r_ci3 hK hnn (c_mOwnBy hX1 rfl hp rfl p1 rfl ht) moX10_ownBy mlX10_292 to_91 rfl rfl dX10_findEnds_23 (Nat.le_of_ble_eq_true rfl) (Nat.le_of_ble_eq_true rfl) (fun v23 g23 q23 => ?_)
      obtain ⟨f1, f2, f3, v2, rfl, hMP, rfl⟩ := q23
      refine r_goto (tgt := 41) hK dX10_findEnds_26 (by decide) ?_
      refine r_loc ?_ (h41 _ (owX X p (X.2.2.1.2.1 p) t) (hfr.tr (FM_pM.fl rfl)) (MR_36 (MR_pM hMP)) (by unfold sX; rw [hown, if_pos rfl]) (pM112 _) (pM113 _))
      rfl
set_option maxHeartbeats 4000000 in
set_option maxRecDepth 100000 in
theorem c_mFindEnds {ad : Nat → Nat} {g : St} {X : LN} (hX : MC g X) {t : Nat} {own : Bool} {x y : Int32} (hx : x = nI t) (ht : t < X.1) (hy : y = B1 own) : Cv 5 mX10_findEnds [.ref 91, .int x, .int y] ad g (fun g' => FM g g' ∧ MG g' (vX X t own) X.2.2.1.1) := by
  subst hx; subst hy
  refine Cm.mk rfl (Nat.le_of_ble_eq_true rfl) (fun K hK hR hm hnn => ?_)
  refine r_iconst (v := 0) hK dX10_findEnds_0 (by decide) ?_
  refine r_istore_n (i := 3) hK hm dX10_findEnds_1 rfl (by decide) ?_
  refine r_loc ?_ (lm_fE hX ht (fun p => vX_1) (fun p => vX_2) hK hm hnn hR X.2.2.1.1 0 (by omega) g FM.rf (fun q hq => absurd hq (Nat.not_lt_zero _)))
  rfl
set_option maxHeartbeats 4000000 in
set_option maxRecDepth 100000 in
theorem c_mLeads {ad : Nat → Nat} {g : St} {X : LN} (hPs : MPC g X.2.2.1 X.2.2.2.1 X.2.2.2.2.1) (h6 : X.2.2.1.1 ≤ 6) (hhm : ∀ p, p < X.2.2.1.1 → X.2.2.1.2.1 p < 10) {V : VT} (hG : MG g V X.2.2.1.1) {p set here : Nat} {x y z : Int32} (hx : x = nI p) (hp : p < X.2.2.1.1) (hy : y = nI set) (hs : set < 2 ^ 31) (hz : z = nI here) (hh : here < 2 ^ 31) : Ci 2 mX10_leads [.ref 91, .int x, .int y, .int z] ad g (fun v g' => v = B1 (ldB X.2.2.1 V here set p) ∧ g' = g) := by
  subst hx; subst hy; subst hz
  have hhp := hhm p hp
  refine Cm.mk rfl (Nat.le_of_ble_eq_true rfl) (fun K hK hR hm hnn => ?_)
  refine r_iload_n (i := 2) hK dX10_leads_0 rfl rfl ?_
  refine r_iload_n (i := 1) hK dX10_leads_1 rfl rfl ?_
  refine r_si2 hK hnn (c_mHas rfl hs rfl (by omega)) moX10_has mlX10_210 dX10_leads_2 (Nat.le_of_ble_eq_true rfl) (Nat.le_of_ble_eq_true rfl) (eqI ?_)
  refine r_if_ne (tgt := 31) hK dX10_leads_5 (by decide) (fun h5 => ?_) (fun h5 => ?_)
  · refine r_iconst (v := 0) hK dX10_leads_31 (by decide) ?_
    refine q_zret hK hR dX10_leads_32 (by first | exact Or.inl rfl | exact Or.inr rfl | assumption) ?_
    refine ⟨?_, rfl⟩
    unfold ldB
    first
      | (rw [B1_n.mp h5]; simp; done)
      | (rw [decide_eq_false (fun z : X.2.2.1.2.1 p = here => h15 (congrArg nI z))]; rfl)
      | (have hn : ¬ V.1 p < 10 := (fun z => absurd (enI_in z ▸ h24) (nI_pos (n := V.1 p) (by omega))); rw [decide_eq_false hn]; simp; done)
      | (rw [B1_0.mp h5, decide_eq_true (nI_inj (by omega) hh h15), decide_eq_true (Classical.byContradiction (fun z => h24 (by rw [enI_m1.mpr z]; decide)))]; rfl)
  · refine r_aload_n (i := 0) hK dX10_leads_8 rfl rfl ?_
    refine r_getA hK flX10_19 to_91 rfl dX10_leads_9 ?_
    refine r_iload_n (i := 1) hK dX10_leads_12 rfl rfl ?_
    refine r_ialN hK to_95 rfl (by omega) (by decide) (hPs.2 p hp).1 dX10_leads_13 ?_
    refine r_iload_n (i := 3) hK dX10_leads_14 rfl rfl ?_
    refine r_icmp_ne (tgt := 31) hK dX10_leads_15 (by decide) (fun h15 => ?_) (fun h15 => ?_)
    · refine r_iconst (v := 0) hK dX10_leads_31 (by decide) ?_
      refine q_zret hK hR dX10_leads_32 (by first | exact Or.inl rfl | exact Or.inr rfl | assumption) ?_
      refine ⟨?_, rfl⟩
      unfold ldB
      first
        | (rw [B1_n.mp h5]; simp; done)
        | (rw [decide_eq_false (fun z : X.2.2.1.2.1 p = here => h15 (congrArg nI z))]; rfl)
        | (have hn : ¬ V.1 p < 10 := (fun z => absurd (enI_in z ▸ h24) (nI_pos (n := V.1 p) (by omega))); rw [decide_eq_false hn]; simp; done)
        | (rw [B1_0.mp h5, decide_eq_true (nI_inj (by omega) hh h15), decide_eq_true (Classical.byContradiction (fun z => h24 (by rw [enI_m1.mpr z]; decide)))]; rfl)
    · refine r_aload_n (i := 0) hK dX10_leads_18 rfl rfl ?_
      refine r_getA hK flX10_74 to_91 rfl dX10_leads_19 ?_
      refine r_iload_n (i := 1) hK dX10_leads_22 rfl rfl ?_
      refine r_ialN hK to_112 rfl (by omega) (by decide) (hG p hp).1 dX10_leads_23 ?_
      refine r_if_lt (tgt := 31) hK dX10_leads_24 (by decide) (fun h24 => ?_) (fun h24 => ?_)
      · refine r_iconst (v := 0) hK dX10_leads_31 (by decide) ?_
        refine q_zret hK hR dX10_leads_32 (by first | exact Or.inl rfl | exact Or.inr rfl | assumption) ?_
        refine ⟨?_, rfl⟩
        unfold ldB
        first
          | (rw [B1_n.mp h5]; simp; done)
          | (rw [decide_eq_false (fun z : X.2.2.1.2.1 p = here => h15 (congrArg nI z))]; rfl)
          | (have hn : ¬ V.1 p < 10 := (fun z => absurd (enI_in z ▸ h24) (nI_pos (n := V.1 p) (by omega))); rw [decide_eq_false hn]; simp; done)
          | (rw [B1_0.mp h5, decide_eq_true (nI_inj (by omega) hh h15), decide_eq_true (Classical.byContradiction (fun z => h24 (by rw [enI_m1.mpr z]; decide)))]; rfl)
      · refine r_iconst (v := 1) hK dX10_leads_27 (by decide) ?_
        refine r_goto (tgt := 32) hK dX10_leads_28 (by decide) ?_
        refine q_zret hK hR dX10_leads_32 (by first | exact Or.inl rfl | exact Or.inr rfl | assumption) ?_
        refine ⟨?_, rfl⟩
        unfold ldB
        first
          | (rw [B1_n.mp h5]; simp; done)
          | (rw [decide_eq_false (fun z : X.2.2.1.2.1 p = here => h15 (congrArg nI z))]; rfl)
          | (have hn : ¬ V.1 p < 10 := (fun z => absurd (enI_in z ▸ h24) (nI_pos (n := V.1 p) (by omega))); rw [decide_eq_false hn]; simp; done)
          | (rw [B1_0.mp h5, decide_eq_true (nI_inj (by omega) hh h15), decide_eq_true (Classical.byContradiction (fun z => h24 (by rw [enI_m1.mpr z]; decide)))]; rfl)
set_option maxHeartbeats 4000000 in
set_option maxRecDepth 100000 in
theorem lm_cL {K : KT} {ad : Nat → Nat} {g : St} {X : LN} (hPs : MPC g X.2.2.1 X.2.2.2.1 X.2.2.2.2.1) (h6 : X.2.2.1.1 ≤ 6) (hhm : ∀ p, p < X.2.2.1.1 → X.2.2.1.2.1 p < 10) {V : VT} (hG : MG g V X.2.2.1.1) {set here : Nat} (hs : set < 2 ^ 31) (hh : here < 2 ^ 31) {b : Nat → Bool} (hb : ∀ p, b p = ldB X.2.2.1 V here set p) (hK : Cx K RX10 cX10_countLeads 3 ad) (hm : K.2.2.1.2.maxLocals = 5) (hnn : Nn K 0 0)
    (hR : Rt K 0 0 TT ad (some .int) (Qi ad (fun v g' => v = nI (sp_cn b X.2.2.1.1) ∧ g' = g))) :
    ∀ m p, p + m = X.2.2.1.1 → Wp K 0 0 TT ad g 5 [(0, .ref 91), (1, .int (nI set)), (2, .int (nI here)), (3, .int (nI (sp_cn b p))), (4, .int (nI p))] [] := by
  intro m
  induction m with
  | zero =>
    intro p hpm
    have e : p = X.2.2.1.1 := by omega
    subst e
    refine r_iload (i := 4) hK dX10_countLeads_5 rfl ?_
    refine r_aload_n (i := 0) hK dX10_countLeads_7 rfl rfl ?_
    refine r_getI hK flX10_131 to_91 rfl dX10_countLeads_8 ?_
    refine r_top (y := nI X.2.2.1.1) hPs.1 ?_
    refine r_icmp_ge (tgt := 39) hK dX10_countLeads_11 (by decide) (fun _ => ?_) (fun h => absurd (nI_le (Nat.le_refl _) (by omega)) h)
    refine r_iload_n (i := 3) hK dX10_countLeads_39 rfl rfl ?_
    refine q_iret hK hR dX10_countLeads_40 ?_
    exact ⟨rfl, rfl⟩
  | succ m ih =>
    intro p hpm
    have hp : p < X.2.2.1.1 := by omega
    have ih2 := ih (p + 1) (by omega)
    clear ih
    refine r_iload (i := 4) hK dX10_countLeads_5 rfl ?_
    refine r_aload_n (i := 0) hK dX10_countLeads_7 rfl rfl ?_
    refine r_getI hK flX10_131 to_91 rfl dX10_countLeads_8 ?_
    refine r_top (y := nI X.2.2.1.1) hPs.1 ?_
    refine r_icmp_ge (tgt := 39) hK dX10_countLeads_11 (by decide) (fun h => absurd h (nI_ge hp (by omega))) (fun _ => ?_)
    refine r_iload_n (i := 3) hK dX10_countLeads_14 rfl rfl ?_
    refine r_aload_n (i := 0) hK dX10_countLeads_15 rfl rfl ?_
    refine r_iload (i := 4) hK dX10_countLeads_16 rfl ?_
    refine r_iload_n (i := 1) hK dX10_countLeads_18 rfl rfl ?_
    refine r_iload_n (i := 2) hK dX10_countLeads_19 rfl rfl ?_
    refine r_ci3 hK hnn (c_mLeads hPs h6 hhm hG rfl hp rfl hs rfl hh) moX10_leads mlX10_299 to_91 rfl rfl dX10_countLeads_20 (Nat.le_of_ble_eq_true rfl) (Nat.le_of_ble_eq_true rfl) (eqI ?_)
    refine r_if_eq (tgt := 30) hK dX10_countLeads_23 (by decide) (fun h23 => ?_) (fun h23 => ?_)
    · refine r_iconst (v := 0) hK dX10_countLeads_30 (by decide) ?_
      refine r_iadd hK dX10_countLeads_31 ?_
      refine r_istore_n (i := 3) hK hm dX10_countLeads_32 rfl (by decide) ?_
      refine r_iincN (i := 4) hK hm dX10_countLeads_33 rfl (by decide) ?_
      refine r_goto (tgt := 5) hK dX10_countLeads_36 (by decide) ?_
      first
        | (have e9 : sp_cn b (p + 1) = sp_cn b p + 1 := (by rw [sp_cn_succ, hb, if_pos (B1_n.mp h23)]); rw [e9, nI_succ] at ih2; refine r_loc ?_ ih2; rfl)
        | (have e9 : sp_cn b (p + 1) = sp_cn b p + 0 := (by rw [sp_cn_succ, hb, if_neg (by rw [B1_0.mp h23]; decide)]); rw [e9, ← nI_add] at ih2; refine r_loc ?_ ih2; rfl)
    · refine r_iconst (v := 1) hK dX10_countLeads_26 (by decide) ?_
      refine r_goto (tgt := 31) hK dX10_countLeads_27 (by decide) ?_
      refine r_iadd hK dX10_countLeads_31 ?_
      refine r_istore_n (i := 3) hK hm dX10_countLeads_32 rfl (by decide) ?_
      refine r_iincN (i := 4) hK hm dX10_countLeads_33 rfl (by decide) ?_
      refine r_goto (tgt := 5) hK dX10_countLeads_36 (by decide) ?_
      first
        | (have e9 : sp_cn b (p + 1) = sp_cn b p + 1 := (by rw [sp_cn_succ, hb, if_pos (B1_n.mp h23)]); rw [e9, nI_succ] at ih2; refine r_loc ?_ ih2; rfl)
        | (have e9 : sp_cn b (p + 1) = sp_cn b p + 0 := (by rw [sp_cn_succ, hb, if_neg (by rw [B1_0.mp h23]; decide)]); rw [e9, ← nI_add] at ih2; refine r_loc ?_ ih2; rfl)
set_option maxHeartbeats 4000000 in
set_option maxRecDepth 100000 in
theorem c_mCount {ad : Nat → Nat} {g : St} {X : LN} (hPs : MPC g X.2.2.1 X.2.2.2.1 X.2.2.2.2.1) (h6 : X.2.2.1.1 ≤ 6) (hhm : ∀ p, p < X.2.2.1.1 → X.2.2.1.2.1 p < 10) {V : VT} (hG : MG g V X.2.2.1.1) {set here : Nat} {x y : Int32} (hx : x = nI set) (hs : set < 2 ^ 31) (hy : y = nI here) (hh : here < 2 ^ 31) : Ci 3 mX10_countLeads [.ref 91, .int x, .int y] ad g (fun v g' => v = nI (sp_cn (ldB X.2.2.1 V here set) X.2.2.1.1) ∧ g' = g) := by
  subst hx; subst hy
  refine Cm.mk rfl (Nat.le_of_ble_eq_true rfl) (fun K hK hR hm hnn => ?_)
  refine r_iconst (v := 0) hK dX10_countLeads_0 (by decide) ?_
  refine r_istore_n (i := 3) hK hm dX10_countLeads_1 rfl (by decide) ?_
  refine r_iconst (v := 0) hK dX10_countLeads_2 (by decide) ?_
  refine r_istore (i := 4) hK hm dX10_countLeads_3 (by decide) ?_
  refine r_loc ?_ (lm_cL hPs h6 hhm hG hs hh (b := ldB X.2.2.1 V here set) (fun p => rfl) hK hm hnn hR X.2.2.1.1 0 (by omega))
  rfl
