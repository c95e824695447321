theorem sg_lo {g : St} {o j : Nat} {e m f1 f2 f3 : Nat → Int32} {v : Int32} (ho : 27 ≤ o) (hj : j ≤ 21) : (gE (pG g f1 f2 f3 v) o e m).1 j = g.1 j := by rw [gE_n (by omega) (by omega), pG_n (by omega)]
theorem gE_nrm {g : St} {o p : Nat} (ho : 27 ≤ o) {e m f1 f2 f3 e1 e2 e3 : Nat → Int32} {v x X Y : Int32} : gE (pG (gE (pG g f1 f2 f3 v) o e m) e1 e2 e3 x) o (upd ((pG (gE (pG g f1 f2 f3 v) o e m) e1 e2 e3 x).1 (o + 1)) p X) (upd ((pG (gE (pG g f1 f2 f3 v) o e m) e1 e2 e3 x).1 (o + 2)) p Y) = gE (pG g e1 e2 e3 x) o (upd e p X) (upd m p Y) := by
  rw [gE_pG ho, pG_pG, gE_gE, gE_1, gE_2]
theorem gE_nrm2 {g : St} {o p : Nat} (ho : 27 ≤ o) {e m f1 f2 f3 e1 e2 e3 : Nat → Int32} {v x X Y : Int32} : gE (pG (gE (pG g f1 f2 f3 v) o e m) e1 e2 e3 x) o (upd ((gE (pG g f1 f2 f3 v) o e m).1 (o + 1)) p X) (upd ((gE (pG g f1 f2 f3 v) o e m).1 (o + 2)) p Y) = gE (pG g e1 e2 e3 x) o (upd e p X) (upd m p Y) := by
  rw [gE_pG ho, pG_pG, gE_gE, gE_1, gE_2]
/-- what the guides at o say -/
def GdC (g : St) (o : Nat) (P : PD) (V : VT) : Prop := ∀ p, p < P.1 → g.1 (o + 1) p = enI (V.1 p) ∧ g.1 (o + 2) p = nI (V.2 p)
theorem GdC_of {g g' : St} {o : Nat} {P : PD} {V : VT} (h : GdC g o P V) (h1 : g'.1 (o + 1) = g.1 (o + 1)) (h2 : g'.1 (o + 2) = g.1 (o + 2)) : GdC g' o P V := by
  unfold GdC at *; rw [h1, h2]; exact h

set_option maxHeartbeats 4000000 in
set_option maxRecDepth 100000 in
theorem l_gt {K : KT} {ad : Nat → Nat} {g : St} {o : Nat} {D : WD} {P : PD} {ha kn : Nat → Nat} {np t law : Nat} {own : Bool} (hok : wOk np D) (hpo : pOk np P ha kn) (hW : WyC g 13 D) (hPs : PsC g P ha kn) (ht : t < np) (hl : law ≤ 3) (hG : GdP o) (hK : Cx K RX1 cX1_gather 6 ad) (hm : K.2.2.1.2.maxLocals = 5) (hnn : Nn K 0 0)
    (hR : Rt K 0 0 TT ad none (Qv ad (fun g' => ∃ f1 f2 f3 v e m, g' = gE (pG g f1 f2 f3 v) o e m ∧ ∀ p, p < P.1 → e p = enI ((VV D P ha kn law t own).1 p) ∧ m p = nI ((VV D P ha kn law t own).2 p)))) :
    ∀ m p, p + m = P.1 → ∀ (f1 f2 f3 : Nat → Int32) (v : Int32) (e mm : Nat → Int32), (∀ q, q < p → e q = enI ((VV D P ha kn law t own).1 q) ∧ mm q = nI ((VV D P ha kn law t own).2 q)) → Wp K 0 0 TT ad (gE (pG g f1 f2 f3 v) o e mm) 3 [(0, .ref o), (1, .int (nI t)), (2, .int (if own = true then 1 else 0)), (3, .int (nI law)), (4, .int (nI p))] [] := by
  obtain ⟨o1, o2, o3, t0, t1, t2, t3⟩ := hG
  have h6 := hpo.1
  have h10 := hok.2.1
  intro m
  induction m with
  | zero =>
    intro p hpm f1 f2 f3 v e mm hem
    have hPs' := PsC_of hPs (g' := gE (pG g f1 f2 f3 v) o e mm) (fun j hj => sg_lo o1 hj)
    have ep : p = P.1 := by omega
    subst ep
    refine r_iload (i := 4) hK dX1_gather_3 rfl ?_
    refine r_aload_n (i := 0) hK dX1_gather_5 rfl rfl ?_
    refine r_getA hK flX1_21 t0 rfl dX1_gather_6 ?_
    refine r_getI hK flX1_29 to_13 rfl dX1_gather_9 ?_
    refine r_top (y := nI P.1) hPs'.1 ?_
    refine r_icmp_ge (tgt := 121) hK dX1_gather_12 (by decide) (fun _ => ?_) (fun h => absurd (nI_le (Nat.le_refl _) (by omega)) h)
    exact q_vret hK hR dX1_gather_121 ⟨f1, f2, f3, v, e, mm, rfl, hem⟩
  | succ m ih =>
    intro p hpm f1 f2 f3 v e mm hem
    have hPs' := PsC_of hPs (g' := gE (pG g f1 f2 f3 v) o e mm) (fun j hj => sg_lo o1 hj)
    have hW' := WyC_of hW (g' := gE (pG g f1 f2 f3 v) o e mm) (fun j hj => sg_lo o1 hj)
    have hp : p < P.1 := by omega
    obtain ⟨p1, p2, p3, p4, p5⟩ := hpo.2 p hp
    obtain ⟨r1, r2, r3, r4, r5⟩ := hPs'.2 p hp
    refine r_iload (i := 4) hK dX1_gather_3 rfl ?_
    refine r_aload_n (i := 0) hK dX1_gather_5 rfl rfl ?_
    refine r_getA hK flX1_21 t0 rfl dX1_gather_6 ?_
    refine r_getI hK flX1_29 to_13 rfl dX1_gather_9 ?_
    refine r_top (y := nI P.1) hPs'.1 ?_
    refine r_icmp_ge (tgt := 121) hK dX1_gather_12 (by decide) (fun h => absurd h (nI_ge hp (by omega))) (fun _ => ?_)
    refine r_iload_n (i := 2) hK dX1_gather_15 rfl rfl ?_
    refine r_if_eq (tgt := 96) hK dX1_gather_16 (by decide) (fun h16 => ?_) (fun h16 => ?_)
    · refine r_aload_n (i := 0) hK dX1_gather_96 rfl rfl ?_
      refine r_iload (i := 4) hK dX1_gather_97 rfl ?_
      refine r_aload_n (i := 0) hK dX1_gather_99 rfl rfl ?_
      refine r_getA hK flX1_21 t0 rfl dX1_gather_100 ?_
      refine r_getA hK flX1_35 to_13 rfl dX1_gather_103 ?_
      refine r_iload (i := 4) hK dX1_gather_106 rfl ?_
      refine r_si2 hK hnn (c_atE to_21 (by decide) rfl (by omega) r5) moX9_at mlX1_38 dX1_gather_108 (Nat.le_of_ble_eq_true rfl) (Nat.le_of_ble_eq_true rfl) (eqI ?_)
      refine r_iload_n (i := 1) hK dX1_gather_111 rfl rfl ?_
      refine r_cv3 hK hnn (c_ask hok hpo hW' hPs' ht ⟨o1, o2, o3, t0, t1, t2, t3⟩ rfl hp (Nat.lt_trans p5 (by decide))) moX1_ask mlX1_65 t0 rfl rfl dX1_gather_112 (Nat.le_of_ble_eq_true rfl) (Nat.le_of_ble_eq_true rfl) (fun g112 q112 => ?_)
      obtain ⟨e1, e2, e3, x, rfl⟩ := q112
      rw [gE_nrm2 o1]
      have eo : own = false := by
        cases own with
        | false => rfl
        | true => exact absurd h16 (by decide)
      refine r_iincN (i := 4) hK hm dX1_gather_115 rfl (by decide) ?_
      refine r_goto (tgt := 3) hK dX1_gather_118 (by decide) ?_
      refine r_loc ?_ (ih (p + 1) (by omega) _ _ _ _ _ _ (fun q hq => ?_))
      · rfl
      · by_cases e1 : q = p
        · subst e1
          rw [upd_s, upd_s, eo]
          exact ⟨rfl, rfl⟩
        · rw [upd_n e1, upd_n e1]
          exact hem q (by omega)
    · refine r_aload_n (i := 0) hK dX1_gather_19 rfl rfl ?_
      refine r_getA hK flX1_25 t0 rfl dX1_gather_20 ?_
      refine r_aload_n (i := 0) hK dX1_gather_23 rfl rfl ?_
      refine r_getA hK flX1_21 t0 rfl dX1_gather_24 ?_
      refine r_aload_n (i := 0) hK dX1_gather_27 rfl rfl ?_
      refine r_getA hK flX1_21 t0 rfl dX1_gather_28 ?_
      refine r_getA hK flX1_35 to_13 rfl dX1_gather_31 ?_
      refine r_iload (i := 4) hK dX1_gather_34 rfl ?_
      refine r_si2 hK hnn (c_atE to_21 (by decide) rfl (by omega) r5) moX9_at mlX1_38 dX1_gather_36 (Nat.le_of_ble_eq_true rfl) (Nat.le_of_ble_eq_true rfl) (eqI ?_)
      refine r_aload_n (i := 0) hK dX1_gather_39 rfl rfl ?_
      refine r_getA hK flX1_21 t0 rfl dX1_gather_40 ?_
      refine r_getA hK flX1_42 to_13 rfl dX1_gather_43 ?_
      refine r_iload (i := 4) hK dX1_gather_46 rfl ?_
      refine r_si2 hK hnn (c_atE to_17 (by decide) rfl (by omega) r1) moX9_at mlX1_38 dX1_gather_48 (Nat.le_of_ble_eq_true rfl) (Nat.le_of_ble_eq_true rfl) (eqI ?_)
      refine r_iload_n (i := 1) hK dX1_gather_51 rfl rfl ?_
      refine r_cv4 hK hnn (c_seek (D := D) hok hW' (Nat.lt_trans p5 (by decide)) p1 ht) moX6_seek mlX1_45 to_22 rfl rfl dX1_gather_52 (Nat.le_of_ble_eq_true rfl) (Nat.le_of_ble_eq_true rfl) (fun g52 q52 => ?_)
      obtain ⟨e1, e2, e3, x, rfl, hPth⟩ := q52
      have hPc : PthC (pG (gE (pG g f1 f2 f3 v) o e mm) e1 e2 e3 x) D (knb (kn p)) t (P.2.1 p) := hPth
      have hPs2 := PsC_of hPs' (g' := pG (gE (pG g f1 f2 f3 v) o e mm) e1 e2 e3 x) (fun j hj => pG_n (by omega))
      obtain ⟨u1, u2, u3, u4, u5⟩ := hPs2.2 p hp
      refine r_aload_n (i := 0) hK dX1_gather_55 rfl rfl ?_
      refine r_iload (i := 4) hK dX1_gather_56 rfl ?_
      refine r_aload_n (i := 0) hK dX1_gather_58 rfl rfl ?_
      refine r_getA hK flX1_25 t0 rfl dX1_gather_59 ?_
      refine r_iload_n (i := 3) hK dX1_gather_62 rfl rfl ?_
      refine r_aload_n (i := 0) hK dX1_gather_63 rfl rfl ?_
      refine r_getA hK flX1_21 t0 rfl dX1_gather_64 ?_
      refine r_getA hK flX1_51 to_13 rfl dX1_gather_67 ?_
      refine r_iload (i := 4) hK dX1_gather_70 rfl ?_
      refine r_si2 hK hnn (c_atE to_18 (by decide) rfl (by omega) u2) moX9_at mlX1_38 dX1_gather_72 (Nat.le_of_ble_eq_true rfl) (Nat.le_of_ble_eq_true rfl) (eqI ?_)
      refine r_aload_n (i := 0) hK dX1_gather_75 rfl rfl ?_
      refine r_getA hK flX1_21 t0 rfl dX1_gather_76 ?_
      refine r_getA hK flX1_54 to_13 rfl dX1_gather_79 ?_
      refine r_iload (i := 4) hK dX1_gather_82 rfl ?_
      refine r_si2 hK hnn (c_atE to_19 (by decide) rfl (by omega) u3) moX9_at mlX1_38 dX1_gather_84 (Nat.le_of_ble_eq_true rfl) (Nat.le_of_ble_eq_true rfl) (eqI ?_)
      refine r_ci3 hK hnn (c_dearest hok p1 hPc rfl hl rfl (by omega) rfl p3) moX6_dearest mlX1_57 to_22 rfl rfl dX1_gather_87 (Nat.le_of_ble_eq_true rfl) (Nat.le_of_ble_eq_true rfl) (eqI ?_)
      refine r_cv2 hK hnn (c_hear hok p1 hPc ⟨o1, o2, o3, t0, t1, t2, t3⟩ rfl (by omega) rfl ownF_le) moX1_hear mlX1_61 t0 rfl rfl dX1_gather_90 (Nat.le_of_ble_eq_true rfl) (Nat.le_of_ble_eq_true rfl) (eqV ?_)
      rw [gE_nrm o1]
      refine r_goto (tgt := 115) hK dX1_gather_93 (by decide) ?_
      have eo : own = true := by
        cases own with
        | true => rfl
        | false => exact absurd rfl h16
      refine r_iincN (i := 4) hK hm dX1_gather_115 rfl (by decide) ?_
      refine r_goto (tgt := 3) hK dX1_gather_118 (by decide) ?_
      refine r_loc ?_ (ih (p + 1) (by omega) _ _ _ _ _ _ (fun q hq => ?_))
      · rfl
      · by_cases e1 : q = p
        · subst e1
          rw [upd_s, upd_s, eo]
          exact ⟨rfl, rfl⟩
        · rw [upd_n e1, upd_n e1]
          exact hem q (by omega)
set_option maxHeartbeats 4000000 in
set_option maxRecDepth 100000 in
theorem c_gather {ad : Nat → Nat} {g : St} {D : WD} {P : PD} {ha kn : Nat → Nat} {np t law : Nat} {own : Bool} (hok : wOk np D) (hpo : pOk np P ha kn) (hW : WyC g 13 D) (hPs : PsC g P ha kn) (ht : t < np) (hl : law ≤ 3) {o : Nat} (hG : GdP o) : Cv 6 mX1_gather [.ref o, .int (nI t), .int (if own = true then 1 else 0), .int (nI law)] ad g (fun g' => ∃ f1 f2 f3 v e m, g' = gE (pG g f1 f2 f3 v) o e m ∧ ∀ p, p < P.1 → e p = enI ((VV D P ha kn law t own).1 p) ∧ m p = nI ((VV D P ha kn law t own).2 p)) := by
  refine Cm.mk rfl (Nat.le_of_ble_eq_true rfl) (fun K hK hR hm hnn => ?_)
  refine r_iconst (v := 0) hK dX1_gather_0 (by decide) ?_
  refine r_istore (i := 4) hK hm dX1_gather_1 (by decide) ?_
  refine r_g (g' := gE (pG g (g.1 23) (g.1 24) (g.1 25) (g.1 22 3)) o (g.1 (o + 1)) (g.1 (o + 2))) ?_ ?_
  · rw [pG_id, gE_id]
  · refine r_loc ?_ (l_gt hok hpo hW hPs ht hl hG hK hm hnn hR P.1 0 (by omega) _ _ _ _ _ _ (fun q hq => by omega))
    rfl
/-- what is known around a question to the guides at o -/
def GsC (g : St) (o np : Nat) (P : PD) (V : VT) : Prop := vOk np P V ∧ g.1 13 10 = nI P.1 ∧ (∀ p, p < P.1 → g.1 17 p = nI (P.2.1 p)) ∧ GdC g o P V
theorem GsC_of {g g' : St} {o np : Nat} {P : PD} {V : VT} (h : GsC g o np P V) (h0 : g'.1 13 = g.1 13) (h3 : g'.1 17 = g.1 17) (h1 : g'.1 (o + 1) = g.1 (o + 1)) (h2 : g'.1 (o + 2) = g.1 (o + 2)) : GsC g' o np P V := by
  unfold GsC GdC at *; rw [h0, h3, h1, h2]; exact h
theorem enI_m1 {e : Nat} : enI e = -1 ↔ ¬ e < 10 := by
  unfold enI
  split
  · rename_i h
    exact ⟨fun z => absurd z (nI_m1 (by omega)), fun z => absurd h z⟩
  · rename_i h
    exact ⟨fun _ => h, fun _ => rfl⟩
theorem enI_in {e : Nat} (h : e < 10) : enI e = nI e := by unfold enI; rw [if_pos h]

set_option maxHeartbeats 4000000 in
set_option maxRecDepth 100000 in
theorem c_leads {ad : Nat → Nat} {g : St} {np : Nat} {P : PD} {V : VT} {o : Nat} (hG : GdP o) (hs : GsC g o np P V) {p here set : Nat} {x y z : Int32} (hx : x = nI p) (hp : p < P.1) (hy : y = nI here) (hh : here < 2 ^ 31) (hz : z = nI set) (hset : set < 2 ^ 31) : Ci 2 mX1_leads [.ref o, .int x, .int y, .int z] ad g (fun v g' => v = (if ldB P V here set p = true then 1 else 0) ∧ g' = g) := by
  obtain ⟨o1, o2, o3, t0, t1, t2, t3⟩ := hG
  obtain ⟨hv, s1, s2, s3⟩ := id hs
  have h6 := hv.2.1
  subst hx; subst hy; subst hz
  have h7 := (hv.2.2 p hp).1
  have h8 := hv.1
  refine Cm.mk rfl (Nat.le_of_ble_eq_true rfl) (fun K hK hR hm hnn => ?_)
  refine r_aload_n (i := 0) hK dX1_leads_0 rfl rfl ?_
  refine r_getA hK flX1_21 t0 rfl dX1_leads_1 ?_
  refine r_getA hK flX1_42 to_13 rfl dX1_leads_4 ?_
  refine r_iload_n (i := 1) hK dX1_leads_7 rfl rfl ?_
  refine r_si2 hK hnn (c_atE to_17 (by decide) rfl (by omega) (s2 p hp)) moX9_at mlX1_38 dX1_leads_8 (Nat.le_of_ble_eq_true rfl) (Nat.le_of_ble_eq_true rfl) (eqI ?_)
  refine r_iload_n (i := 2) hK dX1_leads_11 rfl rfl ?_
  refine r_icmp_ne (tgt := 39) hK dX1_leads_12 (by decide) (fun h12 => ?_) (fun h12 => ?_)
  · refine r_iconst (v := 0) hK dX1_leads_39 (by decide) ?_
    refine q_zret hK hR dX1_leads_40 (by first | exact Or.inl rfl | exact Or.inr rfl) ?_
    refine ⟨?_, rfl⟩
    first
      | (rw [if_neg]; intro z; rw [ldB_iff] at z; exact absurd (by rw [z.1] : nI (P.2.1 p) = nI here) (by assumption))
      | (rw [if_neg]; intro z; rw [ldB_iff] at z; exact absurd z.2.1 (enI_m1.mp (by assumption)))
      | (rw [if_neg]; intro z; rw [ldB_iff] at z; rw [tb_if hset (by omega), z.2.2] at h32; exact absurd rfl h32)
      | (rw [if_pos]; rw [ldB_iff]; refine ⟨nI_inj (by omega) hh (by assumption), Decidable.byContradiction (fun z => absurd (enI_m1.mpr z) (by assumption)), ?_⟩; rw [tb_if hset (by omega)] at h32; cases e : set.testBit p with | false => rfl | true => (rw [e] at h32; exact absurd h32 (by decide)))
  · refine r_aload_n (i := 0) hK dX1_leads_15 rfl rfl ?_
    refine r_getA hK flX1_9 t0 rfl dX1_leads_16 ?_
    refine r_iload_n (i := 1) hK dX1_leads_19 rfl rfl ?_
    refine r_si2 hK hnn (c_atE t1 (by decide) rfl (by omega) (s3 p hp).1) moX9_at mlX1_38 dX1_leads_20 (Nat.le_of_ble_eq_true rfl) (Nat.le_of_ble_eq_true rfl) (eqI ?_)
    refine r_iconst (v := (-1)) hK dX1_leads_23 (by decide) ?_
    refine r_icmp_eq (tgt := 39) hK dX1_leads_24 (by decide) (fun h24 => ?_) (fun h24 => ?_)
    · refine r_iconst (v := 0) hK dX1_leads_39 (by decide) ?_
      refine q_zret hK hR dX1_leads_40 (by first | exact Or.inl rfl | exact Or.inr rfl) ?_
      refine ⟨?_, rfl⟩
      first
        | (rw [if_neg]; intro z; rw [ldB_iff] at z; exact absurd (by rw [z.1] : nI (P.2.1 p) = nI here) (by assumption))
        | (rw [if_neg]; intro z; rw [ldB_iff] at z; exact absurd z.2.1 (enI_m1.mp (by assumption)))
        | (rw [if_neg]; intro z; rw [ldB_iff] at z; rw [tb_if hset (by omega), z.2.2] at h32; exact absurd rfl h32)
        | (rw [if_pos]; rw [ldB_iff]; refine ⟨nI_inj (by omega) hh (by assumption), Decidable.byContradiction (fun z => absurd (enI_m1.mpr z) (by assumption)), ?_⟩; rw [tb_if hset (by omega)] at h32; cases e : set.testBit p with | false => rfl | true => (rw [e] at h32; exact absurd h32 (by decide)))
    · refine r_iload_n (i := 3) hK dX1_leads_27 rfl rfl ?_
      refine r_iload_n (i := 1) hK dX1_leads_28 rfl rfl ?_
      refine r_ishr hK dX1_leads_29 ?_
      refine r_iconst (v := 1) hK dX1_leads_30 (by decide) ?_
      refine r_iand hK dX1_leads_31 ?_
      refine r_if_ne (tgt := 39) hK dX1_leads_32 (by decide) (fun h32 => ?_) (fun h32 => ?_)
      · refine r_iconst (v := 0) hK dX1_leads_39 (by decide) ?_
        refine q_zret hK hR dX1_leads_40 (by first | exact Or.inl rfl | exact Or.inr rfl) ?_
        refine ⟨?_, rfl⟩
        first
          | (rw [if_neg]; intro z; rw [ldB_iff] at z; exact absurd (by rw [z.1] : nI (P.2.1 p) = nI here) (by assumption))
          | (rw [if_neg]; intro z; rw [ldB_iff] at z; exact absurd z.2.1 (enI_m1.mp (by assumption)))
          | (rw [if_neg]; intro z; rw [ldB_iff] at z; rw [tb_if hset (by omega), z.2.2] at h32; exact absurd rfl h32)
          | (rw [if_pos]; rw [ldB_iff]; refine ⟨nI_inj (by omega) hh (by assumption), Decidable.byContradiction (fun z => absurd (enI_m1.mpr z) (by assumption)), ?_⟩; rw [tb_if hset (by omega)] at h32; cases e : set.testBit p with | false => rfl | true => (rw [e] at h32; exact absurd h32 (by decide)))
      · refine r_iconst (v := 1) hK dX1_leads_35 (by decide) ?_
        refine r_goto (tgt := 40) hK dX1_leads_36 (by decide) ?_
        refine q_zret hK hR dX1_leads_40 (by first | exact Or.inl rfl | exact Or.inr rfl) ?_
        refine ⟨?_, rfl⟩
        first
          | (rw [if_neg]; intro z; rw [ldB_iff] at z; exact absurd (by rw [z.1] : nI (P.2.1 p) = nI here) (by assumption))
          | (rw [if_neg]; intro z; rw [ldB_iff] at z; exact absurd z.2.1 (enI_m1.mp (by assumption)))
          | (rw [if_neg]; intro z; rw [ldB_iff] at z; rw [tb_if hset (by omega), z.2.2] at h32; exact absurd rfl h32)
          | (rw [if_pos]; rw [ldB_iff]; refine ⟨nI_inj (by omega) hh (by assumption), Decidable.byContradiction (fun z => absurd (enI_m1.mpr z) (by assumption)), ?_⟩; rw [tb_if hset (by omega)] at h32; cases e : set.testBit p with | false => rfl | true => (rw [e] at h32; exact absurd h32 (by decide)))
theorem sp_cn_succ (p : Nat → Bool) (n : Nat) : sp_cn p (n + 1) = sp_cn p n + (if p n = true then 1 else 0) := rfl
set_option maxHeartbeats 4000000 in
set_option maxRecDepth 100000 in
theorem l_hM {K : KT} {ad : Nat → Nat} {g : St} {np : Nat} {P : PD} {V : VT} {o : Nat} (hG : GdP o) (hs : GsC g o np P V) {here set : Nat} (hh : here < 2 ^ 31) (hset : set < 2 ^ 31) (hK : Cx K RX1 cX1_howMany 3 ad) (hm : K.2.2.1.2.maxLocals = 5) (hnn : Nn K 0 0)
    (hR : Rt K 0 0 TT ad (some .int) (Qi ad (fun v g' => v = nI (sp_cn (ldB P V here set) P.1) ∧ g' = g))) :
    ∀ m p, p + m = P.1 → Wp K 0 0 TT ad g 5 [(0, .ref o), (1, .int (nI here)), (2, .int (nI set)), (3, .int (nI (sp_cn (ldB P V here set) p))), (4, .int (nI p))] [] := by
  obtain ⟨o1, o2, o3, t0, t1, t2, t3⟩ := hG
  obtain ⟨hv, s1, s2, s3⟩ := id hs
  have h6 := hv.2.1
  intro m
  induction m with
  | zero =>
    intro p hpm
    have ep : p = P.1 := by omega
    subst ep
    refine r_iload (i := 4) hK dX1_howMany_5 rfl ?_
    refine r_aload_n (i := 0) hK dX1_howMany_7 rfl rfl ?_
    refine r_getA hK flX1_21 t0 rfl dX1_howMany_8 ?_
    refine r_getI hK flX1_29 to_13 rfl dX1_howMany_11 ?_
    refine r_top (y := nI P.1) s1 ?_
    refine r_icmp_ge (tgt := 42) hK dX1_howMany_14 (by decide) (fun _ => ?_) (fun h => absurd (nI_le (Nat.le_refl _) (by omega)) h)
    refine r_iload_n (i := 3) hK dX1_howMany_42 rfl rfl ?_
    exact q_iret hK hR dX1_howMany_43 ⟨rfl, rfl⟩
  | succ m ih =>
    intro p hpm
    have hp : p < P.1 := by omega
    refine r_iload (i := 4) hK dX1_howMany_5 rfl ?_
    refine r_aload_n (i := 0) hK dX1_howMany_7 rfl rfl ?_
    refine r_getA hK flX1_21 t0 rfl dX1_howMany_8 ?_
    refine r_getI hK flX1_29 to_13 rfl dX1_howMany_11 ?_
    refine r_top (y := nI P.1) s1 ?_
    refine r_icmp_ge (tgt := 42) hK dX1_howMany_14 (by decide) (fun h => absurd h (nI_ge hp (by omega))) (fun _ => ?_)
    refine r_iload_n (i := 3) hK dX1_howMany_17 rfl rfl ?_
    refine r_aload_n (i := 0) hK dX1_howMany_18 rfl rfl ?_
    refine r_iload (i := 4) hK dX1_howMany_19 rfl ?_
    refine r_iload_n (i := 1) hK dX1_howMany_21 rfl rfl ?_
    refine r_iload_n (i := 2) hK dX1_howMany_22 rfl rfl ?_
    refine r_ci3 hK hnn (c_leads ⟨o1, o2, o3, t0, t1, t2, t3⟩ hs rfl hp rfl hh rfl hset) moX1_leads mlX1_87 t0 rfl rfl dX1_howMany_23 (Nat.le_of_ble_eq_true rfl) (Nat.le_of_ble_eq_true rfl) (eqI ?_)
    refine r_if_eq (tgt := 33) hK dX1_howMany_26 (by decide) (fun h26 => ?_) (fun h26 => ?_)
    · refine r_iconst (v := 0) hK dX1_howMany_33 (by decide) ?_
      refine r_iadd hK dX1_howMany_34 ?_
      have hb : (ldB P V here set) p = false := by
        cases e : (ldB P V here set) p with
        | false => rfl
        | true => rw [e] at h26; exact absurd h26 (by decide)
      refine r_top (y := nI (sp_cn (ldB P V here set) p + 0)) (by rw [show (0 : Int32) = nI 0 from rfl, nI_add]) ?_
      refine r_istore_n (i := 3) hK hm dX1_howMany_35 rfl (by decide) ?_
      refine r_iincN (i := 4) hK hm dX1_howMany_36 rfl (by decide) ?_
      refine r_goto (tgt := 5) hK dX1_howMany_39 (by decide) ?_
      refine r_loc ?_ (ih (p + 1) (by omega))
      simp only [List.map_cons, List.map_nil]
      rw [sp_cn_succ, hb]
      rfl
    · refine r_iconst (v := 1) hK dX1_howMany_29 (by decide) ?_
      refine r_goto (tgt := 34) hK dX1_howMany_30 (by decide) ?_
      refine r_iadd hK dX1_howMany_34 ?_
      have hb : (ldB P V here set) p = true := by
        cases e : (ldB P V here set) p with
        | true => rfl
        | false => rw [e] at h26; exact absurd rfl h26
      refine r_top (y := nI (sp_cn (ldB P V here set) p + 1)) (by rw [show (1 : Int32) = nI 1 from rfl, nI_add]) ?_
      refine r_istore_n (i := 3) hK hm dX1_howMany_35 rfl (by decide) ?_
      refine r_iincN (i := 4) hK hm dX1_howMany_36 rfl (by decide) ?_
      refine r_goto (tgt := 5) hK dX1_howMany_39 (by decide) ?_
      refine r_loc ?_ (ih (p + 1) (by omega))
      simp only [List.map_cons, List.map_nil]
      rw [sp_cn_succ, hb]
      rfl
set_option maxHeartbeats 4000000 in
set_option maxRecDepth 100000 in
theorem c_howMany {ad : Nat → Nat} {g : St} {np : Nat} {P : PD} {V : VT} {o : Nat} (hG : GdP o) (hs : GsC g o np P V) {here set : Nat} {y z : Int32} (hy : y = nI here) (hh : here < 2 ^ 31) (hz : z = nI set) (hset : set < 2 ^ 31) : Ci 3 mX1_howMany [.ref o, .int y, .int z] ad g (fun v g' => v = nI (sp_cn (ldB P V here set) P.1) ∧ g' = g) := by
  subst hy; subst hz
  refine Cm.mk rfl (Nat.le_of_ble_eq_true rfl) (fun K hK hR hm hnn => ?_)
  refine r_iconst (v := 0) hK dX1_howMany_0 (by decide) ?_
  refine r_istore_n (i := 3) hK hm dX1_howMany_1 rfl (by decide) ?_
  refine r_iconst (v := 0) hK dX1_howMany_2 (by decide) ?_
  refine r_istore (i := 4) hK hm dX1_howMany_3 (by decide) ?_
  refine r_loc ?_ (l_hM hG hs hh hset hK hm hnn hR P.1 0 (by omega))
  rfl
/-- the i-th of those who lead -/
def ldI (b : Nat → Bool) (n i : Nat) : Nat := fdF (fun p => b p && decide (sp_cn b p = i)) n 0
theorem fdF_succ (p : Nat → Bool) (n i : Nat) : fdF p (n + 1) i = if p i = true then i else fdF p n (i + 1) := rfl
set_option maxHeartbeats 4000000 in
set_option maxRecDepth 100000 in
theorem l_lr {K : KT} {ad : Nat → Nat} {g : St} {np : Nat} {P : PD} {V : VT} {o : Nat} (hG : GdP o) (hs : GsC g o np P V) {here set i : Nat} (hh : here < 2 ^ 31) (hset : set < 2 ^ 31) (hi : i < 2 ^ 31) (hK : Cx K RX1 cX1_leader 3 ad) (hm : K.2.2.1.2.maxLocals = 6) (hnn : Nn K 0 0)
    (hR : Rt K 0 0 TT ad (some .int) (Qi ad (fun v g' => v = (if ldI (ldB P V here set) P.1 i < P.1 then nI (ldI (ldB P V here set) P.1 i) else -1) ∧ g' = g))) :
    ∀ m p, p + m = P.1 → fdF (fun p => (ldB P V here set) p && decide (sp_cn (ldB P V here set) p = i)) m p = ldI (ldB P V here set) P.1 i → Wp K 0 0 TT ad g 6 [(0, .ref o), (1, .int (nI here)), (2, .int (nI set)), (3, .int (nI i)), (4, .int (nI (sp_cn (ldB P V here set) p))), (5, .int (nI p))] [] := by
  obtain ⟨o1, o2, o3, t0, t1, t2, t3⟩ := hG
  obtain ⟨hv, s1, s2, s3⟩ := id hs
  have h6 := hv.2.1
  intro m
  induction m with
  | zero =>
    intro p hpm hf
    have ep : p = P.1 := by omega
    subst ep
    refine r_iload (i := 5) hK dX1_leader_6 rfl ?_
    refine r_aload_n (i := 0) hK dX1_leader_8 rfl rfl ?_
    refine r_getA hK flX1_21 t0 rfl dX1_leader_9 ?_
    refine r_getI hK flX1_29 to_13 rfl dX1_leader_12 ?_
    refine r_top (y := nI P.1) s1 ?_
    refine r_icmp_ge (tgt := 47) hK dX1_leader_15 (by decide) (fun _ => ?_) (fun h => absurd (nI_le (Nat.le_refl _) (by omega)) h)
    refine r_iconst (v := (-1)) hK dX1_leader_47 (by decide) ?_
    refine q_iret hK hR dX1_leader_48 ⟨?_, rfl⟩
    have e2 : ldI (ldB P V here set) P.1 i = P.1 := hf.symm
    rw [e2, if_neg (Nat.lt_irrefl _)]
  | succ m ih =>
    intro p hpm hf
    have hp : p < P.1 := by omega
    refine r_iload (i := 5) hK dX1_leader_6 rfl ?_
    refine r_aload_n (i := 0) hK dX1_leader_8 rfl rfl ?_
    refine r_getA hK flX1_21 t0 rfl dX1_leader_9 ?_
    refine r_getI hK flX1_29 to_13 rfl dX1_leader_12 ?_
    refine r_top (y := nI P.1) s1 ?_
    refine r_icmp_ge (tgt := 47) hK dX1_leader_15 (by decide) (fun h => absurd h (nI_ge hp (by omega))) (fun _ => ?_)
    refine r_aload_n (i := 0) hK dX1_leader_18 rfl rfl ?_
    refine r_iload (i := 5) hK dX1_leader_19 rfl ?_
    refine r_iload_n (i := 1) hK dX1_leader_21 rfl rfl ?_
    refine r_iload_n (i := 2) hK dX1_leader_22 rfl rfl ?_
    refine r_ci3 hK hnn (c_leads ⟨o1, o2, o3, t0, t1, t2, t3⟩ hs rfl hp rfl hh rfl hset) moX1_leads mlX1_87 t0 rfl rfl dX1_leader_23 (Nat.le_of_ble_eq_true rfl) (Nat.le_of_ble_eq_true rfl) (eqI ?_)
    refine r_if_eq (tgt := 41) hK dX1_leader_26 (by decide) (fun h26 => ?_) (fun h26 => ?_)
    · have hb : (ldB P V here set) p = false := by
        cases e : (ldB P V here set) p with
        | false => rfl
        | true => rw [e] at h26; exact absurd h26 (by decide)
      have hnx : fdF (fun p => (ldB P V here set) p && decide (sp_cn (ldB P V here set) p = i)) m (p + 1) = ldI (ldB P V here set) P.1 i := by
        rw [← hf, fdF_succ, if_neg]
        simp only [Bool.and_eq_true, decide_eq_true_eq]
        rw [hb]; exact fun z => absurd z.1 (by decide)
      refine r_iincN (i := 5) hK hm dX1_leader_41 rfl (by decide) ?_
      refine r_goto (tgt := 6) hK dX1_leader_44 (by decide) ?_
      refine r_loc ?_ (ih (p + 1) (by omega) hnx)
      simp only [List.map_cons, List.map_nil]
      rw [sp_cn_succ, hb]
      rfl
    · refine r_iload (i := 4) hK dX1_leader_29 rfl ?_
      refine r_iload_n (i := 3) hK dX1_leader_31 rfl rfl ?_
      refine r_icmp_ne (tgt := 38) hK dX1_leader_32 (by decide) (fun h32 => ?_) (fun h32 => ?_)
      · refine r_iincN (i := 4) hK hm dX1_leader_38 rfl (by decide) ?_
        have hb : (ldB P V here set) p = true := by
          cases e : (ldB P V here set) p with
          | true => rfl
          | false => rw [e] at h26; exact absurd rfl h26
        have hnx : fdF (fun p => (ldB P V here set) p && decide (sp_cn (ldB P V here set) p = i)) m (p + 1) = ldI (ldB P V here set) P.1 i := by
          rw [← hf, fdF_succ, if_neg]
          simp only [Bool.and_eq_true, decide_eq_true_eq]
          exact fun z => h32 (by rw [z.2])
        refine r_iincN (i := 5) hK hm dX1_leader_41 rfl (by decide) ?_
        refine r_goto (tgt := 6) hK dX1_leader_44 (by decide) ?_
        refine r_loc ?_ (ih (p + 1) (by omega) hnx)
        simp only [List.map_cons, List.map_nil]
        rw [sp_cn_succ, hb]
        rfl
      · refine r_iload (i := 5) hK dX1_leader_35 rfl ?_
        refine q_iret hK hR dX1_leader_37 ?_
        have hb : (ldB P V here set) p = true := by
          cases e : (ldB P V here set) p with
          | true => rfl
          | false => rw [e] at h26; exact absurd rfl h26
        have hc2 : sp_cn (ldB P V here set) p = i := nI_inj (by have := sp_cn_le (ldB P V here set) p; omega) hi h32
        have e2 : ldI (ldB P V here set) P.1 i = p := by
          rw [← hf, fdF_succ, if_pos]
          simp only [Bool.and_eq_true, decide_eq_true_eq]
          exact ⟨hb, hc2⟩
        exact ⟨by rw [e2, if_pos hp], rfl⟩
set_option maxHeartbeats 4000000 in
set_option maxRecDepth 100000 in
theorem c_leader {ad : Nat → Nat} {g : St} {np : Nat} {P : PD} {V : VT} {o : Nat} (hG : GdP o) (hs : GsC g o np P V) {here set i : Nat} {y z u : Int32} (hy : y = nI here) (hh : here < 2 ^ 31) (hz : z = nI set) (hset : set < 2 ^ 31) (hu : u = nI i) (hi : i < 2 ^ 31) : Ci 3 mX1_leader [.ref o, .int y, .int z, .int u] ad g (fun v g' => v = (if ldI (ldB P V here set) P.1 i < P.1 then nI (ldI (ldB P V here set) P.1 i) else -1) ∧ g' = g) := by
  subst hy; subst hz; subst hu
  refine Cm.mk rfl (Nat.le_of_ble_eq_true rfl) (fun K hK hR hm hnn => ?_)
  refine r_iconst (v := 0) hK dX1_leader_0 (by decide) ?_
  refine r_istore (i := 4) hK hm dX1_leader_1 (by decide) ?_
  refine r_iconst (v := 0) hK dX1_leader_3 (by decide) ?_
  refine r_istore (i := 5) hK hm dX1_leader_4 (by decide) ?_
  refine r_loc ?_ (l_lr hG hs hh hset hi hK hm hnn hR P.1 0 (by omega) rfl)
  rfl
set_option maxHeartbeats 4000000 in
set_option maxRecDepth 100000 in
theorem c_keyBy {ad : Nat → Nat} {g : St} {np : Nat} {P : PD} {V : VT} {o : Nat} (hG : GdP o) (hs : GsC g o np P V) {p : Nat} {x : Int32} {Kc : Nat → Nat} (hx : x = nI p) (hp : p < P.1) (hv1 : V.1 p < 10) (hk : ∀ q, q < 10 → g.1 (o + 3) q = nI (Kc q)) : Ci 2 mX1_keyBy [.ref o, .int x] ad g (fun v g' => v = nI (Kc (V.1 p) + (16 * V.2 p + 1)) ∧ g' = g) := by
  obtain ⟨o1, o2, o3, t0, t1, t2, t3⟩ := hG
  obtain ⟨hv, s1, s2, s3⟩ := id hs
  have h6 := hv.2.1
  subst hx
  refine Cm.mk rfl (Nat.le_of_ble_eq_true rfl) (fun K hK hR hm hnn => ?_)
  refine r_aload_n (i := 0) hK dX1_keyBy_0 rfl rfl ?_
  refine r_getA hK flX1_18 t0 rfl dX1_keyBy_1 ?_
  refine r_aload_n (i := 0) hK dX1_keyBy_4 rfl rfl ?_
  refine r_getA hK flX1_9 t0 rfl dX1_keyBy_5 ?_
  refine r_iload_n (i := 1) hK dX1_keyBy_8 rfl rfl ?_
  refine r_si2 hK hnn (c_atE t1 (by decide) rfl (by omega) (s3 p hp).1) moX9_at mlX1_38 dX1_keyBy_9 (Nat.le_of_ble_eq_true rfl) (Nat.le_of_ble_eq_true rfl) (eqI ?_)
  rw [enI_in hv1]
  refine r_si2 hK hnn (c_atE t3 (by decide) rfl hv1 (hk _ hv1)) moX9_at mlX1_38 dX1_keyBy_12 (Nat.le_of_ble_eq_true rfl) (Nat.le_of_ble_eq_true rfl) (eqI ?_)
  refine r_aload_n (i := 0) hK dX1_keyBy_15 rfl rfl ?_
  refine r_getA hK flX1_15 t0 rfl dX1_keyBy_16 ?_
  refine r_iload_n (i := 1) hK dX1_keyBy_19 rfl rfl ?_
  refine r_si2 hK hnn (c_atE t2 (by decide) rfl (by omega) (s3 p hp).2) moX9_at mlX1_38 dX1_keyBy_20 (Nat.le_of_ble_eq_true rfl) (Nat.le_of_ble_eq_true rfl) (eqI ?_)
  refine r_bipush (v := 16) hK dX1_keyBy_23 (by decide) ?_
  refine r_imul hK dX1_keyBy_25 ?_
  refine r_top (y := nI (16 * V.2 p)) (by rw [show (16 : Int32) = nI 16 from rfl, pk_mul, Nat.mul_comm]) ?_
  refine r_iadd hK dX1_keyBy_26 ?_
  refine r_top (nI_add _ _) ?_
  refine r_iconst (v := 1) hK dX1_keyBy_27 (by decide) ?_
  refine r_iadd hK dX1_keyBy_28 ?_
  refine r_top (y := nI (Kc (V.1 p) + (16 * V.2 p + 1))) (by rw [nI_1, Nat.add_assoc]) ?_
  refine q_iret hK hR dX1_keyBy_29 ?_
  exact ⟨rfl, rfl⟩
