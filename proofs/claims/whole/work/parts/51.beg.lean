/-! LESSONS, the beginning -/
theorem VV_law {D : WD} {P : PD} {ha kn : Nat → Nat} {law t : Nat} (l2 : Nat) : VV D P ha kn law t false = VV D P ha kn l2 t false := by
  unfold VV
  simp only [Bool.false_eq_true, if_false]
/-- what Lessons keeps after its beginning -/
def LsC (g : St) (X : LN) (a t d : Nat) : Prop := LC g X ∧ GsC g 68 X.1 X.2.2.1 (vX X t false) ∧ (g.1 67 6 = nI a ∧ g.1 67 7 = nI t ∧ g.1 67 8 = nI d) ∧ ∀ p, p < X.2.2.1.1 → g.1 74 p = enI ((vX X t false).1 p) ∧ g.1 75 p = nI ((vX X t false).2 p)
theorem upd_n2 {g : St} {o k i : Nat} {x : Int32} (h : i ≠ k) : (upI g o k x).1 o i = g.1 o i := by
  rw [upI_s]
  unfold upd
  rw [if_neg h]

set_option maxHeartbeats 4000000 in
set_option maxRecDepth 100000 in
theorem c_begin {ad : Nat → Nat} {g : St} {X : LN} (hX : LC g X) {a t d : Nat} {x y z : Int32} (hx : x = nI a) (ha : a < X.1) (hy : y = nI t) (ht : t < X.1) (hz : z = nI d) (hd : d ≤ 999) : Cv 7 mX5_begin [.ref 67, .int x, .int y, .int z] ad g (fun g' => Fr g g' ∧ LsC g' X a t d ∧ g'.1 67 9 = (if inT X.2.2.1 (vX X t false) a t d = true then 0 else -1)) := by
  subst hx; subst hy; subst hz
  obtain ⟨hok, hpo, hlaw, x1, hW, hPs, x4⟩ := id hX
  have h10 := hok.2.1
  have h6 := hpo.1
  have h14 := hok.1
  have hX3 : LC (upI (upI (upI g 67 6 (nI a)) 67 7 (nI t)) 67 8 (nI d)) X := LC_lo hX (fun j hj => (upI_n (by omega)).trans ((upI_n (by omega)).trans (upI_n (by omega))))
  obtain ⟨-, -, -, -, hW3, hPs3, -⟩ := id hX3
  refine Cm.mk rfl (Nat.le_of_ble_eq_true rfl) (fun K hK hR hm hnn => ?_)
  refine r_aload_n (i := 0) hK dX5_begin_0 rfl rfl ?_
  refine r_iload_n (i := 1) hK dX5_begin_1 rfl rfl ?_
  refine r_putI hK flX5_32 ft5_6 to_67 rfl dX5_begin_2 ?_
  refine r_aload_n (i := 0) hK dX5_begin_5 rfl rfl ?_
  refine r_iload_n (i := 2) hK dX5_begin_6 rfl rfl ?_
  refine r_putI hK flX5_36 ft5_7 to_67 rfl dX5_begin_7 ?_
  refine r_aload_n (i := 0) hK dX5_begin_10 rfl rfl ?_
  refine r_iload_n (i := 3) hK dX5_begin_11 rfl rfl ?_
  refine r_putI hK flX5_39 ft5_8 to_67 rfl dX5_begin_12 ?_
  refine r_aload_n (i := 0) hK dX5_begin_15 rfl rfl ?_
  refine r_getA hK flX5_28 to_67 rfl dX5_begin_16 ?_
  refine r_iload_n (i := 2) hK dX5_begin_19 rfl rfl ?_
  refine r_iconst (v := 0) hK dX5_begin_20 (by decide) ?_
  refine r_iconst (v := 0) hK dX5_begin_21 (by decide) ?_
  refine r_cv3 hK hnn (c_gather (own := false) (law := 0) hok hpo hW3 hPs3 ht (by decide) gp_68) moX1_gather mlX5_42 to_68 rfl rfl dX5_begin_22 (Nat.le_of_ble_eq_true rfl) (Nat.le_of_ble_eq_true rfl) (fun g22 q22 => ?_)
  obtain ⟨f1, f2, f3, v, e, m, he, hem⟩ := q22
  rw [VV_law X.2.2.2.2.2] at hem
  have k6 : g22.1 67 6 = nI a := by rw [he, gE_n (by omega) (by omega), pG_n (by omega), upd_n2 (by decide), upd_n2 (by decide), upI_s, upd_s]
  have k7 : g22.1 67 7 = nI t := by rw [he, gE_n (by omega) (by omega), pG_n (by omega), upd_n2 (by decide), upI_s, upd_s]
  have k8 : g22.1 67 8 = nI d := by rw [he, gE_n (by omega) (by omega), pG_n (by omega), upI_s, upd_s]
  have kF : ∀ j, (j ≤ 21 ∨ 76 ≤ j) → g22.1 j = g.1 j := fun j hj => by rw [he, gE_n (by omega) (by omega), pG_n (by omega), upI_n (by omega), upI_n (by omega), upI_n (by omega)]
  have kL : ∀ j, (j ≤ 21 ∨ 76 ≤ j) → g22.2 j = g.2 j := fun j hj => by rw [he]; rfl
  have hs2 : GsC g22 68 X.1 X.2.2.1 (vX X t false) := ⟨VV_ok hok hpo _ _ _, (congrFun (kF 13 (by omega)) _).trans hPs.1, fun p hp => (congrFun (kF 17 (by omega)) _).trans (hPs.2 p hp).1, fun p hp => by rw [he, gE_1, gE_2]; exact hem p hp⟩
  refine r_aload_n (i := 0) hK dX5_begin_25 rfl rfl ?_
  refine r_getA hK flX5_28 to_67 rfl dX5_begin_26 ?_
  refine r_getA hK flX5_48 to_68 rfl dX5_begin_29 ?_
  refine r_aload_n (i := 0) hK dX5_begin_32 rfl rfl ?_
  refine r_getA hK flX5_18 to_67 rfl dX5_begin_33 ?_
  refine r_sv2 hK hnn (c_copy6 to_69 to_74) moX9_copy mlX5_49 dX5_begin_36 (Nat.le_of_ble_eq_true rfl) (Nat.le_of_ble_eq_true rfl) (eqV ?_)
  refine r_aload_n (i := 0) hK dX5_begin_39 rfl rfl ?_
  refine r_getA hK flX5_28 to_67 rfl dX5_begin_40 ?_
  refine r_getA hK flX5_53 to_68 rfl dX5_begin_43 ?_
  refine r_aload_n (i := 0) hK dX5_begin_46 rfl rfl ?_
  refine r_getA hK flX5_21 to_67 rfl dX5_begin_47 ?_
  refine r_sv2 hK hnn (c_copy6 to_70 to_75) moX9_copy mlX5_49 dX5_begin_50 (Nat.le_of_ble_eq_true rfl) (Nat.le_of_ble_eq_true rfl) (eqV ?_)
  rw [show (upR g22 74 (cp6 (g22.1 69) (g22.1 74))).1 70 = g22.1 70 from upR_n (by decide)]
  obtain ⟨g9, hg9⟩ : ∃ g9, g9 = upR (upR g22 74 (cp6 (g22.1 69) (g22.1 74))) 75 (cp6 (g22.1 70) ((upR g22 74 (cp6 (g22.1 69) (g22.1 74))).1 75)) := ⟨_, rfl⟩
  rw [← hg9]
  have n9 : ∀ j, j ≠ 74 → j ≠ 75 → g9.1 j = g22.1 j := fun j h1 h2 => by rw [hg9, upR_n h2, upR_n h1]
  have k6' : g9.1 67 6 = nI a := (congrFun (n9 67 (by decide) (by decide)) _).trans k6
  have k7' : g9.1 67 7 = nI t := (congrFun (n9 67 (by decide) (by decide)) _).trans k7
  have k8' : g9.1 67 8 = nI d := (congrFun (n9 67 (by decide) (by decide)) _).trans k8
  have hs3 : GsC g9 68 X.1 X.2.2.1 (vX X t false) := GsC_of hs2 (n9 13 (by decide) (by decide)) (n9 17 (by decide) (by decide)) (n9 69 (by decide) (by decide)) (n9 70 (by decide) (by decide))
  have k74 : ∀ p, p < X.2.2.1.1 → g9.1 74 p = enI ((vX X t false).1 p) := fun p hp => by rw [hg9, upR_n (by decide), upR_s, cp6_lt (by omega)]; exact (hs2.2.2.2 p hp).1
  have k75 : ∀ p, p < X.2.2.1.1 → g9.1 75 p = nI ((vX X t false).2 p) := fun p hp => by rw [hg9, upR_s, cp6_lt (by omega)]; exact (hs2.2.2.2 p hp).2
  refine r_aload_n (i := 0) hK dX5_begin_53 rfl rfl ?_
  refine r_aload_n (i := 0) hK dX5_begin_54 rfl rfl ?_
  refine r_ci0 hK hnn (c_isInTime hs3 (by omega) (by omega) hd k6' k7' k8') moX5_isInTime mlX5_54 to_67 rfl rfl dX5_begin_55 (Nat.le_of_ble_eq_true rfl) (Nat.le_of_ble_eq_true rfl) (fun v55 g55 q55 => ?_)
  obtain ⟨rfl, f9, rfl⟩ := q55
  refine r_if_eq (tgt := 65) hK dX5_begin_58 (by decide) (fun h58 => ?_) (fun h58 => ?_)
  · refine r_iconst (v := (-1)) hK dX5_begin_65 (by decide) ?_
    refine r_putI hK flX5_58 ft5_9 to_67 rfl dX5_begin_66 ?_
    refine q_vret hK hR dX5_begin_69 ?_
    have hfq : Fr g g9 := ⟨fun j hj => (n9 j (by omega) (by omega)).trans (kF j hj), fun j hj => by rw [hg9]; exact kL j hj⟩
    refine ⟨⟨fun j hj => ((upI_n (by omega)).trans (upR_n (by omega))).trans (hfq.1 j hj), fun j hj => hfq.2 j hj⟩, ⟨LC_lo hX (fun j hj => ((upI_n (by omega)).trans (upR_n (by omega))).trans (hfq.1 j (by omega))), GsC_of hs3 ((upI_n (by omega)).trans (upR_n (by omega))) ((upI_n (by omega)).trans (upR_n (by omega))) ((upI_n (by omega)).trans (upR_n (by omega))) ((upI_n (by omega)).trans (upR_n (by omega))), ⟨(upd_n2 (by decide)).trans ((congrFun (upR_n (by decide)) _).trans k6'), (upd_n2 (by decide)).trans ((congrFun (upR_n (by decide)) _).trans k7'), (upd_n2 (by decide)).trans ((congrFun (upR_n (by decide)) _).trans k8')⟩, fun p hp => ⟨(congrFun ((upI_n (by omega)).trans (upR_n (by omega))) _).trans (k74 p hp), (congrFun ((upI_n (by omega)).trans (upR_n (by omega))) _).trans (k75 p hp)⟩⟩, ?_⟩
    rw [upI_s, upd_s]
    first
      | (rw [if_pos (B1_n.mp h58)]; done)
      | (rw [if_neg (by rw [B1_0.mp h58]; decide)]; done)
  · refine r_iconst (v := 0) hK dX5_begin_61 (by decide) ?_
    refine r_goto (tgt := 66) hK dX5_begin_62 (by decide) ?_
    refine r_putI hK flX5_58 ft5_9 to_67 rfl dX5_begin_66 ?_
    refine q_vret hK hR dX5_begin_69 ?_
    have hfq : Fr g g9 := ⟨fun j hj => (n9 j (by omega) (by omega)).trans (kF j hj), fun j hj => by rw [hg9]; exact kL j hj⟩
    refine ⟨⟨fun j hj => ((upI_n (by omega)).trans (upR_n (by omega))).trans (hfq.1 j hj), fun j hj => hfq.2 j hj⟩, ⟨LC_lo hX (fun j hj => ((upI_n (by omega)).trans (upR_n (by omega))).trans (hfq.1 j (by omega))), GsC_of hs3 ((upI_n (by omega)).trans (upR_n (by omega))) ((upI_n (by omega)).trans (upR_n (by omega))) ((upI_n (by omega)).trans (upR_n (by omega))) ((upI_n (by omega)).trans (upR_n (by omega))), ⟨(upd_n2 (by decide)).trans ((congrFun (upR_n (by decide)) _).trans k6'), (upd_n2 (by decide)).trans ((congrFun (upR_n (by decide)) _).trans k7'), (upd_n2 (by decide)).trans ((congrFun (upR_n (by decide)) _).trans k8')⟩, fun p hp => ⟨(congrFun ((upI_n (by omega)).trans (upR_n (by omega))) _).trans (k74 p hp), (congrFun ((upI_n (by omega)).trans (upR_n (by omega))) _).trans (k75 p hp)⟩⟩, ?_⟩
    rw [upI_s, upd_s]
    first
      | (rw [if_pos (B1_n.mp h58)]; done)
      | (rw [if_neg (by rw [B1_0.mp h58]; decide)]; done)
