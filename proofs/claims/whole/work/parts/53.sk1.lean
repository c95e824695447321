/-! LESSONS, seekOne -/
def fo1 (X : LN) (a t d : Nat) : Nat := fdF (oneB X a t d) 84 0
def Q1 (g : St) (X : LN) (a t d : Nat) (g' : St) : Prop := Fr g g' ∧ ((fo1 X a t d < 84 ∧ g'.1 67 9 = 1 ∧ g'.1 67 10 = nI (fo1 X a t d)) ∨ (¬ fo1 X a t d < 84 ∧ LsC g' X a t d ∧ g'.1 67 9 = -1 ∧ TbC g' X t 84))
/-- what is asked is forgotten again -/
theorem LsC_back {g g9 : St} {X : LN} {a t d p e m : Nat} (hl : LsC g X a t d) (hp : p < X.2.2.1.1) (hs : GsC g9 68 X.1 X.2.2.1 (upV (vX X t false) p e m)) (hf : ∀ j, (j ≤ 21 ∨ j = 67 ∨ j = 74 ∨ j = 75) → g9.1 j = g.1 j) {f9 : Nat → Int32} : LsC (gE (upR g9 71 f9) 68 (upd ((upR g9 71 f9).1 69) p ((upR g9 71 f9).1 74 p)) (upd ((upR g9 71 f9).1 70) p ((upR g9 71 f9).1 75 p))) X a t d := by
  obtain ⟨hX, hgs, ⟨h6, h7, h8⟩, h74⟩ := hl
  obtain ⟨-, s1, s2, s3⟩ := hs
  have n : ∀ j, (j ≤ 21 ∨ j = 67 ∨ j = 74 ∨ j = 75) → (gE (upR g9 71 f9) 68 (upd ((upR g9 71 f9).1 69) p ((upR g9 71 f9).1 74 p)) (upd ((upR g9 71 f9).1 70) p ((upR g9 71 f9).1 75 p))).1 j = g.1 j := fun j hj => by
    rw [gE_n (by omega) (by omega), upR_n (by omega)]; exact hf j hj
  refine ⟨LC_lo hX (fun j hj => n j (Or.inl hj)), ⟨hgs.1, ?_, ?_, ?_⟩, ⟨by rw [n 67 (by omega)]; exact h6, by rw [n 67 (by omega)]; exact h7, by rw [n 67 (by omega)]; exact h8⟩, fun q hq => by rw [n 74 (by omega), n 75 (by omega)]; exact h74 q hq⟩
  · rw [n 13 (by omega)]; exact hgs.2.1
  · intro q hq
    rw [n 17 (by omega)]; exact hgs.2.2.1 q hq
  · intro q hq
    rw [gE_1, gE_2, upR_n (by decide), upR_n (by decide), upR_n (by decide), upR_n (by decide), hf 74 (by omega), hf 75 (by omega)]
    obtain ⟨e1, e2⟩ := s3 q hq
    obtain ⟨k1, k2⟩ := h74 p hp
    unfold upd
    by_cases h : q = p
    · rw [if_pos h, if_pos h, h]; exact ⟨k1, k2⟩
    · rw [if_neg h, if_neg h]
      have e1' : g9.1 69 q = enI (if q = p then e else (vX X t false).1 q) := e1
      have e2' : g9.1 70 q = nI (if q = p then m else (vX X t false).2 q) := e2
      rw [if_neg h] at e1' e2'
      exact ⟨e1', e2'⟩

set_option maxHeartbeats 4000000 in
set_option maxRecDepth 100000 in
theorem l_s1 {K : KT} {ad : Nat → Nat} {g : St} {X : LN} {a t d : Nat} (ha : a < X.1) (ht : t < X.1) (hd : d ≤ 999) (hK : Cx K RX5 cX5_seekOne 6 ad) (hm : K.2.2.1.2.maxLocals = 3) (hnn : Nn K 0 0)
    (hR : Rt K 0 0 TT ad none (Qv ad (fun g' => Q1 g X a t d g'))) :
    ∀ m k, k + m = 84 → fdF (oneB X a t d) m k = fdF (oneB X a t d) 84 0 → ∀ g1 : St, Fr g g1 → LsC g1 X a t d → TbC g1 X t k → g1.1 67 9 = -1 → Wp K 0 0 TT ad g1 2 [(0, .ref 67), (1, .int (nI k))] [] := by
  intro m
  induction m with
  | zero =>
    intro k hkm hfd g1 hfr hl hT hc9
    have ek : k = 84 := by omega
    subst ek
    refine r_iload_n (i := 1) hK dX5_seekOne_2 rfl rfl ?_
    refine r_bipush (v := 84) hK dX5_seekOne_3 (by decide) ?_
    refine r_icmp_ge (tgt := 118) hK dX5_seekOne_5 (by decide) (fun _ => ?_) (fun h => absurd (by decide) h)
    refine q_vret hK hR dX5_seekOne_118 ?_
    exact ⟨hfr, Or.inr ⟨by unfold fo1; rw [← hfd]; exact Nat.lt_irrefl 84, hl, hc9, hT⟩⟩
  | succ m ih =>
    intro k hkm hfd g1 hfr hl hT hc9
    have hk : k < 84 := by omega
    obtain ⟨hX1, hgs, ⟨h6, h7, h8⟩, h74⟩ := id hl
    obtain ⟨hok, hpo, hlaw, x1, hW, hPs, x4⟩ := id hX1
    have h10 := hok.2.1
    have hq6 := hpo.1
    refine r_iload_n (i := 1) hK dX5_seekOne_2 rfl rfl ?_
    refine r_bipush (v := 84) hK dX5_seekOne_3 (by decide) ?_
    refine r_icmp_ge (tgt := 118) hK dX5_seekOne_5 (by decide) (fun h => absurd h (nI_ge hk (by decide))) (fun _ => ?_)
    refine r_iload_n (i := 1) hK dX5_seekOne_8 rfl rfl ?_
    refine r_bipush (v := 14) hK dX5_seekOne_9 (by decide) ?_
    refine r_idiv hK dX5_seekOne_11 (by decide) ?_
    refine r_top (y := nI (k / 14)) (d14 hk) ?_
    refine r_istore_n (i := 2) hK hm dX5_seekOne_12 rfl (by decide) ?_
    refine r_aload_n (i := 0) hK dX5_seekOne_13 rfl rfl ?_
    refine r_iload_n (i := 1) hK dX5_seekOne_14 rfl rfl ?_
    refine r_ci1 hK hnn (c_canBeLearnt hX1 rfl hk) moX5_canBeLearnt mlX5_61 to_67 rfl rfl dX5_seekOne_15 (Nat.le_of_ble_eq_true rfl) (Nat.le_of_ble_eq_true rfl) (eqI ?_)
    refine r_if_eq (tgt := 112) hK dX5_seekOne_18 (by decide) (fun h18 => ?_) (fun h18 => ?_)
    · refine r_iincN (i := 1) hK hm dX5_seekOne_112 rfl (by decide) ?_
      refine r_goto (tgt := 2) hK dX5_seekOne_115 (by decide) ?_
      first
        | (have hz : ¬ oneB X a t d k = true := (by unfold oneB; rw [B1_0.mp h18]; simp); refine r_loc ?_ (ih (k + 1) (by omega) (by rw [← hfd, fdF_succ, if_neg hz]) g1 hfr hl (fun j hj hc => (Nat.lt_succ_iff_lt_or_eq.mp hj).elim (fun q => hT j q hc) (fun q => absurd (q ▸ hc) (by rw [B1_0.mp h18]; decide))) hc9); rfl)
        | (have hz : ¬ oneB X a t d k = true := (by unfold oneB; rw [B1_0.mp h93]; simp); refine r_loc ?_ (ih (k + 1) (by omega) (by rw [← hfd, fdF_succ, if_neg hz]) _ hfr3 hl3 hT3 hc3); rfl)
    · refine r_aload_n (i := 0) hK dX5_seekOne_21 rfl rfl ?_
      have hcb := B1_n.mp h18
      have hp : k / 14 < X.2.2.1.1 := by unfold cbL at hcb; simp only [Bool.and_eq_true, decide_eq_true_eq] at hcb; exact hcb.1
      have hkl : kL X k < 2 ^ 14 := Nat.or_lt_two_pow (hpo.2 _ hp).2.2.2.2 (by rw [Nat.one_shiftLeft]; exact Nat.pow_lt_pow_right (by decide) (by omega))
      refine r_getA hK flX5_28 to_67 rfl dX5_seekOne_22 ?_
      refine r_iload_n (i := 2) hK dX5_seekOne_25 rfl rfl ?_
      refine r_aload_n (i := 0) hK dX5_seekOne_26 rfl rfl ?_
      refine r_getA hK flX5_24 to_67 rfl dX5_seekOne_27 ?_
      refine r_getA hK flX5_65 to_13 rfl dX5_seekOne_30 ?_
      refine r_iload_n (i := 2) hK dX5_seekOne_33 rfl rfl ?_
      refine r_si2 hK hnn (c_atE to_21 (by decide) rfl (by omega) (hPs.2 _ hp).2.2.2.2) moX9_at mlX5_70 dX5_seekOne_34 (Nat.le_of_ble_eq_true rfl) (Nat.le_of_ble_eq_true rfl) (eqI ?_)
      refine r_iconst (v := 1) hK dX5_seekOne_37 (by decide) ?_
      refine r_iload_n (i := 1) hK dX5_seekOne_38 rfl rfl ?_
      refine r_bipush (v := 14) hK dX5_seekOne_39 (by decide) ?_
      refine r_irem hK dX5_seekOne_41 (by decide) ?_
      refine r_top (y := nI (k % 14)) (m14 hk) ?_
      refine r_ishl hK dX5_seekOne_42 ?_
      refine r_ior hK dX5_seekOne_43 ?_
      refine r_top (y := nI (kL X k)) (setbit (by omega)) ?_
      refine r_aload_n (i := 0) hK dX5_seekOne_44 rfl rfl ?_
      refine r_getI hK flX5_36 to_67 rfl dX5_seekOne_45 ?_
      refine r_top (y := nI t) h7 ?_
      refine r_cv3 hK hnn (c_ask (k := kL X k) hok hpo hW hPs ht gp_68 rfl hp (Nat.lt_trans hkl (by decide))) moX1_ask mlX5_74 to_68 rfl rfl dX5_seekOne_48 (Nat.le_of_ble_eq_true rfl) (Nat.le_of_ble_eq_true rfl) (fun g48 q48 => ?_)
      obtain ⟨f1, f2, f3, v, he⟩ := q48
      have hs2 : GsC g48 68 X.1 X.2.2.1 (upV (vX X t false) (k / 14) (lE X t (k / 14) (kL X k)) (lM X t (k / 14) (kL X k))) := by rw [he]; exact GsC_ask hok hpo (by omega) hgs hp
      have e69 : g48.1 69 (k / 14) = enI (lE X t (k / 14) (kL X k)) := by have q := (hs2.2.2.2 _ hp).1; unfold upV at q; dsimp only at q; rw [if_pos rfl] at q; exact q
      have e70 : g48.1 70 (k / 14) = nI (lM X t (k / 14) (kL X k)) := by have q := (hs2.2.2.2 _ hp).2; unfold upV at q; dsimp only at q; rw [if_pos rfl] at q; exact q
      have n48 : ∀ j, (j ≤ 21 ∨ j = 67 ∨ 72 ≤ j) → g48.1 j = g1.1 j := fun j hj => by rw [he, gE_n (by omega) (by omega), pG_n (by omega)]
      have l48 : g48.2 = g1.2 := by rw [he]; rfl
      refine r_aload_n (i := 0) hK dX5_seekOne_51 rfl rfl ?_
      refine r_getA hK flX5_11 to_67 rfl dX5_seekOne_52 ?_
      refine r_iload_n (i := 1) hK dX5_seekOne_55 rfl rfl ?_
      refine r_aload_n (i := 0) hK dX5_seekOne_56 rfl rfl ?_
      refine r_getA hK flX5_28 to_67 rfl dX5_seekOne_57 ?_
      refine r_getA hK flX5_48 to_68 rfl dX5_seekOne_60 ?_
      refine r_iload_n (i := 2) hK dX5_seekOne_63 rfl rfl ?_
      refine r_si2 hK hnn (c_atE to_69 (by decide) rfl (by omega) e69) moX9_at mlX5_70 dX5_seekOne_64 (Nat.le_of_ble_eq_true rfl) (Nat.le_of_ble_eq_true rfl) (eqI ?_)
      refine r_sv3 hK hnn (c_ptE to_72 (by decide) rfl (by omega) rfl) moX9_put mlX5_78 dX5_seekOne_67 (Nat.le_of_ble_eq_true rfl) (Nat.le_of_ble_eq_true rfl) (eqV ?_)
      refine r_aload_n (i := 0) hK dX5_seekOne_70 rfl rfl ?_
      refine r_getA hK flX5_15 to_67 rfl dX5_seekOne_71 ?_
      refine r_iload_n (i := 1) hK dX5_seekOne_74 rfl rfl ?_
      refine r_aload_n (i := 0) hK dX5_seekOne_75 rfl rfl ?_
      refine r_getA hK flX5_28 to_67 rfl dX5_seekOne_76 ?_
      refine r_getA hK flX5_53 to_68 rfl dX5_seekOne_79 ?_
      refine r_iload_n (i := 2) hK dX5_seekOne_82 rfl rfl ?_
      refine r_si2 hK hnn (c_atE to_70 (by decide) rfl (by omega) ((congrFun (upI_n (by decide)) _).trans e70)) moX9_at mlX5_70 dX5_seekOne_83 (Nat.le_of_ble_eq_true rfl) (Nat.le_of_ble_eq_true rfl) (eqI ?_)
      refine r_sv3 hK hnn (c_ptE to_73 (by decide) rfl (by omega) rfl) moX9_put mlX5_78 dX5_seekOne_86 (Nat.le_of_ble_eq_true rfl) (Nat.le_of_ble_eq_true rfl) (eqV ?_)
      obtain ⟨g9, hg9⟩ : ∃ g9, g9 = upI (upI g48 72 k (enI (lE X t (k / 14) (kL X k)))) 73 k (nI (lM X t (k / 14) (kL X k))) := ⟨_, rfl⟩
      rw [← hg9]
      have n9 : ∀ j, j ≠ 72 → j ≠ 73 → g9.1 j = g48.1 j := fun j h1 h2 => by rw [hg9, upI_n h2, upI_n h1]
      have l9 : g9.2 = g1.2 := by rw [hg9]; exact l48
      have hs3 : GsC g9 68 X.1 X.2.2.1 (upV (vX X t false) (k / 14) (lE X t (k / 14) (kL X k)) (lM X t (k / 14) (kL X k))) := GsC_of hs2 (n9 13 (by decide) (by decide)) (n9 17 (by decide) (by decide)) (n9 69 (by decide) (by decide)) (n9 70 (by decide) (by decide))
      have f9a : ∀ j, (j ≤ 21 ∨ j = 67 ∨ 74 ≤ j) → g9.1 j = g1.1 j := fun j hj => (n9 j (by omega) (by omega)).trans (n48 j (by omega))
      have k6 : g9.1 67 6 = nI a := (congrFun (f9a 67 (by omega)) _).trans h6
      have k7 : g9.1 67 7 = nI t := (congrFun (f9a 67 (by omega)) _).trans h7
      have k8 : g9.1 67 8 = nI d := (congrFun (f9a 67 (by omega)) _).trans h8
      refine r_aload_n (i := 0) hK dX5_seekOne_89 rfl rfl ?_
      refine r_ci0 hK hnn (c_isInTime hs3 (by omega) (by omega) hd k6 k7 k8) moX5_isInTime mlX5_54 to_67 rfl rfl dX5_seekOne_90 (Nat.le_of_ble_eq_true rfl) (Nat.le_of_ble_eq_true rfl) (fun v90 g90 q90 => ?_)
      obtain ⟨rfl, f9, rfl⟩ := q90
      refine r_if_eq (tgt := 107) hK dX5_seekOne_93 (by decide) (fun h93 => ?_) (fun h93 => ?_)
      · refine r_aload_n (i := 0) hK dX5_seekOne_107 rfl rfl ?_
        refine r_iload_n (i := 2) hK dX5_seekOne_108 rfl rfl ?_
        refine r_cv1 hK hnn (c_unlearn rfl (by omega)) moX5_unlearn mlX5_85 to_67 rfl rfl dX5_seekOne_109 (Nat.le_of_ble_eq_true rfl) (Nat.le_of_ble_eq_true rfl) (eqV ?_)
        have hl3 := LsC_back (f9 := f9) hl hp hs3 (fun j hj => f9a j (by omega))
        have u3 : ∀ j, j ≠ 69 → j ≠ 70 → j ≠ 71 → (gE (upR g9 71 f9) 68 (upd ((upR g9 71 f9).1 69) (k / 14) ((upR g9 71 f9).1 74 (k / 14))) (upd ((upR g9 71 f9).1 70) (k / 14) ((upR g9 71 f9).1 75 (k / 14)))).1 j = g9.1 j := fun j q1 q2 q3 => (gE_n q1 q2).trans (upR_n q3)
        have hfr3 : Fr g (gE (upR g9 71 f9) 68 (upd ((upR g9 71 f9).1 69) (k / 14) ((upR g9 71 f9).1 74 (k / 14))) (upd ((upR g9 71 f9).1 70) (k / 14) ((upR g9 71 f9).1 75 (k / 14)))) := ⟨fun j hj => ((u3 j (by omega) (by omega) (by omega)).trans (f9a j (by omega))).trans (hfr.1 j hj), fun j hj => (congrFun l9 j).trans (hfr.2 j hj)⟩
        have hc3 := (congrFun ((u3 67 (by decide) (by decide) (by decide)).trans (f9a 67 (by omega))) 9).trans hc9
        have hT3 : TbC (gE (upR g9 71 f9) 68 (upd ((upR g9 71 f9).1 69) (k / 14) ((upR g9 71 f9).1 74 (k / 14))) (upd ((upR g9 71 f9).1 70) (k / 14) ((upR g9 71 f9).1 75 (k / 14)))) X t (k + 1) := by
          intro j hj hc
          rw [u3 72 (by decide) (by decide) (by decide), u3 73 (by decide) (by decide) (by decide), hg9, upI_n (by decide), upI_s, upI_s, upI_n (by decide), n48 72 (by omega), n48 73 (by omega)]
          by_cases q : j = k
          · subst q; rw [upd_s, upd_s]; exact ⟨rfl, rfl⟩
          · unfold upd; rw [if_neg q, if_neg q]; exact hT j (by omega) hc
        refine r_iincN (i := 1) hK hm dX5_seekOne_112 rfl (by decide) ?_
        refine r_goto (tgt := 2) hK dX5_seekOne_115 (by decide) ?_
        first
          | (have hz : ¬ oneB X a t d k = true := (by unfold oneB; rw [B1_0.mp h18]; simp); refine r_loc ?_ (ih (k + 1) (by omega) (by rw [← hfd, fdF_succ, if_neg hz]) g1 hfr hl (fun j hj hc => (Nat.lt_succ_iff_lt_or_eq.mp hj).elim (fun q => hT j q hc) (fun q => absurd (q ▸ hc) (by rw [B1_0.mp h18]; decide))) hc9); rfl)
          | (have hz : ¬ oneB X a t d k = true := (by unfold oneB; rw [B1_0.mp h93]; simp); refine r_loc ?_ (ih (k + 1) (by omega) (by rw [← hfd, fdF_succ, if_neg hz]) _ hfr3 hl3 hT3 hc3); rfl)
      · refine r_aload_n (i := 0) hK dX5_seekOne_96 rfl rfl ?_
        refine r_iconst (v := 1) hK dX5_seekOne_97 (by decide) ?_
        refine r_putI hK flX5_58 ft5_9 to_67 rfl dX5_seekOne_98 ?_
        refine r_aload_n (i := 0) hK dX5_seekOne_101 rfl rfl ?_
        refine r_iload_n (i := 1) hK dX5_seekOne_102 rfl rfl ?_
        refine r_putI hK flX5_82 ft5_10 to_67 rfl dX5_seekOne_103 ?_
        refine q_vret hK hR dX5_seekOne_106 ?_
        have hz : oneB X a t d k = true := by unfold oneB; rw [B1_n.mp h18, B1_n.mp h93]; rfl
        have hfo : fo1 X a t d = k := by unfold fo1; rw [← hfd, fdF_succ, if_pos hz]
        refine ⟨⟨fun j hj => ((upI_n (by omega)).trans ((upI_n (by omega)).trans ((upR_n (by omega)).trans (f9a j (by omega))))).trans (hfr.1 j hj), fun j hj => (congrFun l9 j).trans (hfr.2 j hj)⟩, Or.inl ⟨by rw [hfo]; exact hk, ?_, ?_⟩⟩
        · rw [upd_n2 (by decide), upI_s, upd_s]
        · rw [hfo, upI_s, upd_s]
set_option maxHeartbeats 4000000 in
set_option maxRecDepth 100000 in
theorem c_seekOne {ad : Nat → Nat} {g : St} {X : LN} {a t d : Nat} (hl : LsC g X a t d) (ha : a < X.1) (ht : t < X.1) (hd : d ≤ 999) (hc9 : g.1 67 9 = -1) : Cv 6 mX5_seekOne [.ref 67] ad g (fun g' => Q1 g X a t d g') := by
  refine Cm.mk rfl (Nat.le_of_ble_eq_true rfl) (fun K hK hR hm hnn => ?_)
  refine r_iconst (v := 0) hK dX5_seekOne_0 (by decide) ?_
  refine r_istore_n (i := 1) hK hm dX5_seekOne_1 rfl (by decide) ?_
  refine r_loc ?_ (l_s1 ha ht hd hK hm hnn hR 84 0 (by omega) rfl g Fr.rf hl (fun j hj _ => absurd hj (Nat.not_lt_zero _)) hc9)
  rfl
