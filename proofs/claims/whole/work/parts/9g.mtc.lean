/-! THE MODEL: a clause taken -/
def MDr (g : St) (A : DR) : Prop := wOk A.1 A.2.1 ∧ pOk A.1 A.2.2.1 A.2.2.2.1 A.2.2.2.2 ∧ g.1 91 21 = nI A.1 ∧ (g.1 91 22 = nI A.2.1.1 ∧ ∀ w, w < A.2.1.1 → g.1 101 w = nI (A.2.1.2.1 w) ∧ g.1 102 w = nI (A.2.1.2.2.1 w) ∧ g.1 103 w = nI (A.2.1.2.2.2 w)) ∧ g.1 91 26 = nI A.2.2.1.1 ∧ ∀ p, p < A.2.2.1.1 → g.1 104 p = nI (A.2.2.1.2.1 p) ∧ g.1 105 p = nI (A.2.2.1.2.2.1 p) ∧ g.1 106 p = nI (A.2.2.1.2.2.2 p) ∧ g.1 107 p = nI (A.2.2.2.1 p) ∧ g.1 108 p = nI (A.2.2.2.2 p)
theorem MDr_of {g g' : St} {A : DR} (h : MDr g A) (hj : ∀ j, 101 ≤ j → j ≤ 108 → g'.1 j = g.1 j) (hk : ∀ k, k = 21 ∨ k = 22 ∨ k = 26 → g'.1 91 k = g.1 91 k) : MDr g' A := by
  obtain ⟨h1, h2, h3, h4, h5, h6⟩ := h
  refine ⟨h1, h2, (hk 21 (by decide)).trans h3, ⟨(hk 22 (by decide)).trans h4.1, ?_⟩, (hk 26 (by decide)).trans h5, ?_⟩
  · rw [hj 101 (by decide) (by decide), hj 102 (by decide) (by decide), hj 103 (by decide) (by decide)]; exact h4.2
  · rw [hj 104 (by decide) (by decide), hj 105 (by decide) (by decide), hj 106 (by decide) (by decide), hj 107 (by decide) (by decide), hj 108 (by decide) (by decide)]; exact h6
theorem MDr_hq {g g' : St} {A : DR} {s : Nat} (h : MDr g A) (hq : HQ g s g') : MDr g' A := MDr_of h (fun j a b => hq.1 j (by omega)) (fun k hk => hq.2.1 k (by omega))
theorem MDr_wq {c : CT} {g g' : St} {A : DR} {s i : Nat} (h : MDr g A) (hq : WQ c g s i g') : MDr g' A := MDr_of h (fun j a b => hq.1 j (by omega)) (fun k hk => hq.2.1 k (by omega) (by omega))
theorem MDr_16 {g : St} {A : DR} {x : Int32} (h : MDr g A) : MDr (upI g 91 16 x) A := MDr_of h (fun j a b => upI_n (by omega)) (fun k hk => upd_n2 (by omega))
theorem MDr_way {g g' : St} {A : DR} (h : MDr g A) (h14 : A.2.1.1 < 14) {a b m : Nat} (ha : a < A.1) (hb : b < A.1) (hab : a ≠ b) (hm : 1 ≤ m) (hm2 : m ≤ 99) (e1 : g'.1 101 = upd (g.1 101) A.2.1.1 (nI a)) (e2 : g'.1 102 = upd (g.1 102) A.2.1.1 (nI b)) (e3 : g'.1 103 = upd (g.1 103) A.2.1.1 (nI m)) (e22 : g'.1 91 22 = nI (A.2.1.1 + 1)) (e21 : g'.1 91 21 = g.1 91 21) (e26 : g'.1 91 26 = g.1 91 26) (ej : ∀ j, 104 ≤ j → j ≤ 108 → g'.1 j = g.1 j) : MDr g' (A.1, (A.2.1.1 + 1, upN A.2.1.2.1 A.2.1.1 a, upN A.2.1.2.2.1 A.2.1.1 b, upN A.2.1.2.2.2 A.2.1.1 m), A.2.2) := by
  obtain ⟨⟨h1, h1b, h1c⟩, h2, h3, ⟨h4, h5⟩, h6, h7⟩ := h
  refine ⟨⟨h14, h1b, fun w hw => ?_⟩, h2, e21.trans h3, ⟨e22, fun w hw => ?_⟩, e26.trans h6, fun p hp => ?_⟩
  · by_cases e : w = A.2.1.1
    · subst e
      show upN _ _ _ _ < A.1 ∧ upN _ _ _ _ < A.1 ∧ upN _ _ _ _ ≠ upN _ _ _ _ ∧ 1 ≤ upN _ _ _ _ ∧ upN _ _ _ _ ≤ 99
      rw [up_s, up_s, up_s]
      exact ⟨ha, hb, hab, hm, hm2⟩
    · show upN _ _ _ _ < A.1 ∧ upN _ _ _ _ < A.1 ∧ upN _ _ _ _ ≠ upN _ _ _ _ ∧ 1 ≤ upN _ _ _ _ ∧ upN _ _ _ _ ≤ 99
      rw [up_lt e, up_lt e, up_lt e]
      exact h1c w (by have : w < A.2.1.1 + 1 := hw; omega)
  · show g'.1 101 w = nI (upN _ _ _ _) ∧ g'.1 102 w = nI (upN _ _ _ _) ∧ g'.1 103 w = nI (upN _ _ _ _)
    rw [e1, e2, e3]
    by_cases e : w = A.2.1.1
    · subst e
      rw [upd_s, upd_s, upd_s, up_s, up_s, up_s]
      exact ⟨rfl, rfl, rfl⟩
    · rw [upd_e e, upd_e e, upd_e e, up_lt e, up_lt e, up_lt e]
      exact h5 w (by have : w < A.2.1.1 + 1 := hw; omega)
  · rw [ej 104 (by decide) (by decide), ej 105 (by decide) (by decide), ej 106 (by decide) (by decide), ej 107 (by decide) (by decide), ej 108 (by decide) (by decide)]
    exact h7 p hp
theorem MDr_per {g g' : St} {A : DR} (h : MDr g A) (h6 : A.2.2.1.1 < 6) {a b m ha kn : Nat} (h1 : a < A.1) (h2 : b < A.1) (h3 : m ≤ 99) (h4 : ha ≤ 3) (h5 : kn < 2 ^ 14) (e1 : g'.1 104 = upd (g.1 104) A.2.2.1.1 (nI a)) (e2 : g'.1 105 = upd (g.1 105) A.2.2.1.1 (nI b)) (e3 : g'.1 106 = upd (g.1 106) A.2.2.1.1 (nI m)) (e4 : g'.1 107 = upd (g.1 107) A.2.2.1.1 (nI ha)) (e5 : g'.1 108 = upd (g.1 108) A.2.2.1.1 (nI kn)) (e26 : g'.1 91 26 = nI (A.2.2.1.1 + 1)) (e21 : g'.1 91 21 = g.1 91 21) (e22 : g'.1 91 22 = g.1 91 22) (ej : ∀ j, 101 ≤ j → j ≤ 103 → g'.1 j = g.1 j) : MDr g' (A.1, A.2.1, (A.2.2.1.1 + 1, upN A.2.2.1.2.1 A.2.2.1.1 a, upN A.2.2.1.2.2.1 A.2.2.1.1 b, upN A.2.2.1.2.2.2 A.2.2.1.1 m), upN A.2.2.2.1 A.2.2.1.1 ha, upN A.2.2.2.2 A.2.2.1.1 kn) := by
  obtain ⟨g1, ⟨g2, g2b⟩, g3, ⟨g4, g5⟩, g6, g7⟩ := h
  refine ⟨g1, ⟨h6, fun p hp => ?_⟩, e21.trans g3, ⟨e22.trans g4, fun w hw => ?_⟩, e26, fun p hp => ?_⟩
  · show upN _ _ _ _ < A.1 ∧ upN _ _ _ _ < A.1 ∧ upN _ _ _ _ ≤ 99 ∧ upN _ _ _ _ ≤ 3 ∧ upN _ _ _ _ < 2 ^ 14
    by_cases e : p = A.2.2.1.1
    · subst e
      rw [up_s, up_s, up_s, up_s, up_s]
      exact ⟨h1, h2, h3, h4, h5⟩
    · rw [up_lt e, up_lt e, up_lt e, up_lt e, up_lt e]
      exact g2b p (by have : p < A.2.2.1.1 + 1 := hp; omega)
  · show g'.1 101 w = _ ∧ g'.1 102 w = _ ∧ g'.1 103 w = _
    rw [ej 101 (by decide) (by decide), ej 102 (by decide) (by decide), ej 103 (by decide) (by decide)]
    exact g5 w hw
  · show g'.1 104 p = nI (upN _ _ _ _) ∧ g'.1 105 p = nI (upN _ _ _ _) ∧ g'.1 106 p = nI (upN _ _ _ _) ∧ g'.1 107 p = nI (upN _ _ _ _) ∧ g'.1 108 p = nI (upN _ _ _ _)
    rw [e1, e2, e3, e4, e5]
    by_cases e : p = A.2.2.1.1
    · subst e
      rw [upd_s, upd_s, upd_s, upd_s, upd_s, up_s, up_s, up_s, up_s, up_s]
      exact ⟨rfl, rfl, rfl, rfl, rfl⟩
    · rw [upd_e e, upd_e e, upd_e e, upd_e e, upd_e e, up_lt e, up_lt e, up_lt e, up_lt e, up_lt e]
      exact g7 p (by have : p < A.2.2.1.1 + 1 := hp; omega)
theorem MDr_pl {g g' : St} {A : DR} {x : Nat} (h : MDr g A) (h0 : A.1 = 0) (hx : x ≤ 10) (e21 : g'.1 91 21 = nI x) (e22 : g'.1 91 22 = g.1 91 22) (e26 : g'.1 91 26 = g.1 91 26) (ej : ∀ j, 101 ≤ j → j ≤ 108 → g'.1 j = g.1 j) : MDr g' (x, A.2) := by
  obtain ⟨⟨h1, h1b, h1c⟩, ⟨h2, h2b⟩, h3, ⟨h4, h5⟩, h6, h7⟩ := h
  have hw0 : A.2.1.1 = 0 := Nat.eq_zero_of_not_pos (fun q => by have := (h1c 0 q).1; omega)
  have hp0 : A.2.2.1.1 = 0 := Nat.eq_zero_of_not_pos (fun q => by have := (h2b 0 q).1; omega)
  exact ⟨⟨h1, hx, fun w hw => absurd hw (by show ¬ w < A.2.1.1; omega)⟩, ⟨h2, fun p hp => absurd hp (by show ¬ p < A.2.2.1.1; omega)⟩, e21, ⟨e22.trans h4, fun w hw => absurd hw (by show ¬ w < A.2.1.1; omega)⟩, e26.trans h6, fun p hp => absurd hp (by show ¬ p < A.2.2.1.1; omega)⟩
/-- a way that has no fault -/
theorem wF_0 {c : CT} {D : WD} {np s : Nat} (hnp : 1 ≤ np) (hnp9 : np ≤ 10) (h : (wF c D np s).1 = 0) : tV c (nx c s) < np ∧ tV c (nx c (nx c s)) < np ∧ tV c (nx c s) ≠ tV c (nx c (nx c s)) ∧ 1 ≤ tV c (nx c (nx c (nx c s))) ∧ tV c (nx c (nx c (nx c s))) ≤ 99 := by
  unfold wF at h
  obtain ⟨-, v1, v2⟩ := se_v (by decide) (by decide) h
  have h3 := (seF_0 h).2.1
  unfold wF3 at h3
  split at h3
  · exact absurd h3 (bl_n (by decide))
  · rename_i hn
    obtain ⟨-, -, w2⟩ := se_v (lo := 0) (by omega) (by decide) h3
    obtain ⟨-, -, u2⟩ := se_v (lo := 0) (by omega) (by decide) (seF_0 h3).2.1
    exact ⟨by omega, by omega, fun z => hn (Or.inl z), v1, v2⟩
theorem knS_0 {c : CT} {wn : Nat} : ∀ m set (F : FP) s, (knS c wn m set F s).2.1.1 = 0 → F.1 = 0 := fun m set F s h => by
  by_cases hz : F.1 = 0
  · exact hz
  · rw [knS_n hz] at h; exact h
theorem pR_0 {n : Nat} {c : CT} (hT : tOk n c) {np wn s : Nat} (hs : s ≤ n) (hw : wn ≤ 14) (hnp : 1 ≤ np) (hnp9 : np ≤ 10) (h : (pR c np wn s).2.1.1 = 0) : tV c (nx c s) < np ∧ tV c (nx c (nx c s)) < np ∧ tV c (nx c (nx c (nx c s))) ≤ 99 ∧ habF c (nx c (nx c (nx c (nx c s)))) ≤ 3 ∧ (pR c np wn s).1 < 2 ^ 14 := by
  have hF : (pF c np s).1 = 0 := Decidable.byContradiction (fun z => z (by rw [pR_bad z] at h; exact h))
  have h4 : (pR c np wn s).1 < 2 ^ 14 := by
    unfold pR
    split
    · exact (knS_b hT hw 400 0 _ _ (by decide) (by omega) (nx_le hT (nx_le hT (nx_le hT (nx_le hT (nx_le hT hs).2).2).2).2).2).1
    · show (0 : Nat) < 2 ^ 14; decide
  unfold pF at hF
  obtain ⟨a1, a2⟩ := habG_0 hF
  obtain ⟨-, -, b2⟩ := se_v (by decide) (by decide) a2
  have a3 := (seF_0 a2).2.1
  obtain ⟨-, -, c2⟩ := se_v (lo := 0) (by omega) (by decide) a3
  have a4 := (seF_0 a3).2.1
  obtain ⟨-, -, d2⟩ := se_v (lo := 0) (by omega) (by decide) a4
  exact ⟨by omega, by omega, b2, by omega, h4⟩
theorem clS_wok {n : Nat} {c : CT} (hT : tOk n c) {A : DR} {s : Nat} (hs : s ≤ n) (h4 : A.2.1.1 ≤ 14) : (clS c A (0, 0) s).2.1.1 ≤ 4 := clS_ok hT hs h4 (by decide)
theorem wF_ok {c : CT} {D : WD} {np s : Nat} : (wF c D np s).1 ≤ 4 := by
  unfold wF wF3
  refine seF_ok ?_
  split
  · exact bl_ok (seF_ok (seF_ok (by decide))) (by decide)
  · exact seF_ok (seF_ok (by decide))
theorem pR_ok {n : Nat} {c : CT} (hT : tOk n c) {np wn s : Nat} (hs : s ≤ n) (hw : wn ≤ 14) : (pR c np wn s).2.1.1 ≤ 4 ∧ (pR c np wn s).2.2 ≤ n := by
  have hF : (pF c np s).1 ≤ 4 := by unfold pF; exact habG_ok (seF_ok (seF_ok (seF_ok (by decide))))
  have h5 := (nx_le hT (nx_le hT (nx_le hT (nx_le hT (nx_le hT hs).2).2).2).2).2
  unfold pR
  split
  · exact (knS_b hT hw 400 0 _ _ (by decide) hF h5).2
  · exact ⟨hF, h5⟩
def TcQ (c : CT) (g : St) (R : CR) (v : Int32) (g' : St) : Prop := PK g g' ∧ v = nI R.2.1.1 ∧ (R.2.1.1 ≠ 0 → g'.1 91 15 = nI R.2.1.2) ∧ (R.2.1.1 = 0 → g'.1 91 15 = g.1 91 15 ∧ (∃ p, p ≤ 400 ∧ g'.1 91 16 = nI p ∧ sk c p = R.2.2) ∧ MDr g' R.1)
theorem sk_ge (c : CT) (p : Nat) : p ≤ sk c p := (fdF_le _ 400 p).1
theorem sgn_tl {c : CT} {s k : Nat} (h : sgn c s k = true) : tL c s = 1 := by
  unfold sgn at h
  simp only [Bool.and_eq_true, decide_eq_true_eq] at h
  exact h.1
theorem clS_p {c : CT} {A : DR} {F : FP} {s : Nat} (h : isW c s 0 = true) : clS c A F s = clP c A F s := by unfold clS; rw [if_pos h]
theorem clS_w {c : CT} {A : DR} {F : FP} {s : Nat} (h0 : ¬ isW c s 0 = true) (h : isW c s 1 = true) (hA : 0 < A.1) : clS c A F s = clW c A F s := by unfold clS; rw [if_neg h0, if_pos ⟨hA, h⟩]
theorem clS_q {c : CT} {A : DR} {F : FP} {s : Nat} (h0 : ¬ isW c s 0 = true) (h1 : ¬ isW c s 1 = true) (h : isW c s 2 = true) (hA : 0 < A.1) : clS c A F s = clQ c A F s := by unfold clS; rw [if_neg h0, if_neg (fun z => h1 z.2), if_pos ⟨hA, h⟩]
theorem clS_n {c : CT} {A : DR} {F : FP} {s : Nat} (h0 : ¬ isW c s 0 = true) (h : ¬ 0 < A.1 ∨ (¬ isW c s 1 = true ∧ ¬ isW c s 2 = true)) : clS c A F s = (A, bl F 1 s, s) := by
  unfold clS
  rw [if_neg h0, if_neg (fun z => h.elim (fun a => a z.1) (fun a => a.1 z.2)), if_neg (fun z => h.elim (fun a => a z.1) (fun a => a.2 z.2))]
theorem TcQ_bad {c : CT} {g g' : St} {A : DR} {R : CR} {v : Int32} {k s : Nat} (hp : PK g g') (hR : R = (A, bl (0, 0) k s, s)) (hk : k ≠ 0) (hv : v = nI k) (h15 : g'.1 91 15 = nI s) : TcQ c g R v g' := by
  subst hR
  exact ⟨hp, hv, fun _ => h15, fun z => absurd z hk⟩

set_option maxHeartbeats 4000000 in
set_option maxRecDepth 100000 in
theorem lm_tc {K : KT} {ad : Nat → Nat} {g gb : St} {n s4 : Nat} {c : CT} {A' : DR} {F : FP} {R : CR} {y : Int32} (hT : MTx g n c) (hK : Cx K RX10 cX10_takeClause 5 ad) (hm : K.2.2.1.2.maxLocals = 3) (hnn : Nn K 0 0)
    (hR : Rt K 0 0 TT ad (some .int) (Qi ad (fun v g' => TcQ c g R v g')))
    (hs4 : s4 ≤ n) (hF4 : F.1 ≤ 4) (hpk : PK g gb) (h15 : ¬ F.1 = 0 → gb.1 91 15 = nI F.2) (h0 : F.1 = 0 → gb.1 91 15 = g.1 91 15 ∧ (∃ p, p ≤ 400 ∧ gb.1 91 16 = nI p ∧ sk c p = s4) ∧ MDr gb A') (hcl : R = (A', sgF c F s4 59, nx c s4)) : Wp K 0 0 TT ad gb 220 [(0, .ref 91), (1, .int y), (2, .int (nI F.1))] [] := by
  have cb : ∀ i, c i < 256 ∨ c i = 999 := fun i => by rcases Nat.lt_or_ge i n with z | z; exact Or.inl (hT.1.2.1 i z); exact Or.inr (hT.1.2.2 i z)
  refine r_iload_n (i := 2) hK dX10_takeClause_220 rfl rfl ?_
  refine r_if_ne (tgt := 243) hK dX10_takeClause_221 (by decide) (fun h221 => ?_) (fun h221 => ?_)
  · refine r_aload_n (i := 0) hK dX10_takeClause_243 rfl rfl ?_
    have hz : ¬ F.1 = 0 := fun z => h221 (by rw [z]; rfl)
    refine r_dup hK dX10_takeClause_244 rfl ?_
    refine r_getI hK flX10_143 to_91 rfl dX10_takeClause_245 ?_
    refine r_iconst (v := 1) hK dX10_takeClause_248 (by decide) ?_
    refine r_iadd hK dX10_takeClause_249 ?_
    refine r_putI hK flX10_143 ft10_16 to_91 rfl dX10_takeClause_250 ?_
    refine r_iload_n (i := 2) hK dX10_takeClause_253 rfl rfl ?_
    refine q_iret hK hR dX10_takeClause_254 ?_
    refine ⟨hpk.fl (by omega), by rw [hcl]; show _ = nI (sgF c F s4 59).1; rw [sgF_st hz], fun _ => ?_, fun z => ?_⟩
    · rw [upd_n2 (by decide), hcl]; show _ = nI (sgF c F s4 59).2; rw [sgF_st hz]; exact h15 hz
    · rw [hcl] at z; exact absurd ((sgF_0 z).2.1) hz
  · refine r_aload_n (i := 0) hK dX10_takeClause_224 rfl rfl ?_
    have hz : F.1 = 0 := nI_inj (by omega) (by decide) h221
    obtain ⟨q15, ⟨p4, hp400, hp16, hps4⟩, hM⟩ := h0 hz
    have hpn : p4 ≤ n := by have := sk_ge c p4; omega
    refine r_ci0 hK hnn (c_mHere (MTx_p hT hpk) hpn hp16) moX10_here mlX10_146 to_91 rfl rfl dX10_takeClause_225 (Nat.le_of_ble_eq_true rfl) (Nat.le_of_ble_eq_true rfl) (fun v225 g225 q225 => ?_)
    obtain ⟨rfl, hq⟩ := q225
    rw [hps4] at hq
    refine r_top (y := cI (c s4)) (by rw [hps4]) ?_
    refine r_bipush (v := 59) hK dX10_takeClause_228 (by decide) ?_
    refine r_top (y := nI 59) rfl ?_
    refine r_icmp_eq (tgt := 243) hK dX10_takeClause_230 (by decide) (fun h230 => ?_) (fun h230 => ?_)
    · refine r_aload_n (i := 0) hK dX10_takeClause_243 rfl rfl ?_
      refine r_dup hK dX10_takeClause_244 rfl ?_
      refine r_getI hK flX10_143 to_91 rfl dX10_takeClause_245 ?_
      refine r_iconst (v := 1) hK dX10_takeClause_248 (by decide) ?_
      refine r_iadd hK dX10_takeClause_249 ?_
      refine r_top (y := nI (s4 + 1)) (by rw [hq.2.2.2]; exact nI_add s4 1) ?_
      refine r_putI hK flX10_143 ft10_16 to_91 rfl dX10_takeClause_250 ?_
      refine r_iload_n (i := 2) hK dX10_takeClause_253 rfl rfl ?_
      refine q_iret hK hR dX10_takeClause_254 ?_
      have hsg : sgn c s4 59 = true := (sgn_c (Or.inr rfl)).mpr ((cI_eq (cb s4) (by decide)).mp h230)
      have htl := sgn_tl hsg
      have hle4 := tL_le hT.1 hs4
      have hn4 := hT.1.1
      have hsf : sgF c F s4 59 = F := if_pos hsg
      refine ⟨(hpk.tr hq.pk).fl (by omega), by rw [hcl]; show _ = nI (sgF c F s4 59).1; rw [hsf, hz], fun z => ?_, fun _ => ⟨?_, ⟨s4 + 1, by omega, ?_, ?_⟩, ?_⟩⟩
      · rw [hcl] at z; exact absurd (by show (sgF c F s4 59).1 = 0; rw [hsf]; exact hz) z
      · rw [upd_n2 (by decide)]; exact (hq.2.1 15 (by decide)).trans q15
      · rw [upI_s, upd_s]
      · rw [hcl]; show sk c (s4 + 1) = nx c s4; unfold nx; rw [htl]
      · rw [hcl]; exact MDr_16 (MDr_hq hM hq)
    · refine r_aload_n (i := 0) hK dX10_takeClause_233 rfl rfl ?_
      refine r_iconst (v := 1) hK dX10_takeClause_234 (by decide) ?_
      refine r_aload_n (i := 0) hK dX10_takeClause_235 rfl rfl ?_
      refine r_getI hK flX10_143 to_91 rfl dX10_takeClause_236 ?_
      refine r_top (y := nI s4) hq.2.2.2 ?_
      refine r_ci2 hK hnn c_mFails moX10_fails mlX10_173 to_91 rfl rfl dX10_takeClause_239 (Nat.le_of_ble_eq_true rfl) (Nat.le_of_ble_eq_true rfl) (eqI ?_)
      refine q_iret hK hR dX10_takeClause_242 ?_
      have hns : ¬ sgn c s4 59 = true := fun z => h230 (by rw [(sgn_c (Or.inr rfl)).mp z]; decide)
      have hsf : sgF c F s4 59 = (1, s4) := by unfold sgF bl; rw [if_neg hns, if_pos hz]
      refine ⟨(hpk.tr hq.pk).fl (by omega), by rw [hcl]; show _ = nI (sgF c F s4 59).1; rw [hsf]; rfl, fun _ => ?_, fun z => ?_⟩
      · rw [upI_s, upd_s, hcl]; show _ = nI (sgF c F s4 59).2; rw [hsf]
      · rw [hcl] at z; exact absurd ((sgF_0 z).2.2) hns
theorem nI_nz {k : Nat} (h : 0 < k) (h2 : k < 2 ^ 31) : ¬ nI k = 0 := fun z => by have := nI_inj h2 (by decide) (z.trans (show (0 : Int32) = nI 0 from rfl)); omega
set_option maxHeartbeats 4000000 in
set_option maxRecDepth 100000 in
theorem c_mTakeClause {ad : Nat → Nat} {g : St} {n s : Nat} {c : CT} {A : DR} (hT : MTx g n c) (hM : MDr g A) (hpo : g.1 91 16 = nI s) (hs : s ≤ n) (hss : sk c s = s) : Ci 5 mX10_takeClause [.ref 91] ad g (fun v g' => TcQ c g (clS c A (0, 0) s) v g') := by
  have hst := tL_le hT.1 hs
  have s1n := (nx_le hT.1 hs).2
  have s2n := (nx_le hT.1 s1n).2
  have s4n := (nx_le hT.1 (nx_le hT.1 s2n).2).2
  refine Cm.mk rfl (Nat.le_of_ble_eq_true rfl) (fun K hK hR hm hnn => ?_)
  refine r_aload_n (i := 0) hK dX10_takeClause_0 rfl rfl ?_
  refine r_cv0 hK hnn (c_mReadWord hT hs (hpo)) moX10_readWord mlX10_196 to_91 rfl rfl dX10_takeClause_1 (Nat.le_of_ble_eq_true rfl) (Nat.le_of_ble_eq_true rfl) (fun g1 q1 => ?_)
  rw [hss] at q1
  have hf := q1
  obtain ⟨hwo, hpo9, h21, ⟨h22, hW9⟩, h26, hP9⟩ := id (MDr_wq hM hf)
  have hnp9 := hwo.2.1
  have h14 := hwo.1
  have h6 := hpo9.1
  refine r_aload_n (i := 0) hK dX10_takeClause_4 rfl rfl ?_
  refine r_getL hK flX10_150 to_91 rfl dX10_takeClause_5 ?_
  refine r_topL (y := lN (wc c s (wl c s))) hf.2.2.2.2.2 ?_
  refine r_bipush (v := 112) hK dX10_takeClause_8 (by decide) ?_
  refine r_bipush (v := 108) hK dX10_takeClause_10 (by decide) ?_
  refine r_bipush (v := 97) hK dX10_takeClause_12 (by decide) ?_
  refine r_sl3 hK hnn (c_mCode rfl rfl rfl (by decide) (by decide) (by decide)) moX10_code mlX10_199 dX10_takeClause_14 (Nat.le_of_ble_eq_true rfl) (Nat.le_of_ble_eq_true rfl) (eqL ?_)
  refine r_bipush (v := 99) hK dX10_takeClause_17 (by decide) ?_
  refine r_bipush (v := 101) hK dX10_takeClause_19 (by decide) ?_
  refine r_sl3 hK hnn (c_mLong2 rfl rfl rfl (by decide) (by decide)) moX10_longer mlX10_203 dX10_takeClause_21 (Nat.le_of_ble_eq_true rfl) (Nat.le_of_ble_eq_true rfl) (eqL ?_)
  refine r_bipush (v := 115) hK dX10_takeClause_24 (by decide) ?_
  refine r_iconst (v := 0) hK dX10_takeClause_26 (by decide) ?_
  refine r_sl3 hK hnn (c_mLong1 rfl rfl rfl (by decide)) moX10_longer mlX10_203 dX10_takeClause_27 (Nat.le_of_ble_eq_true rfl) (Nat.le_of_ble_eq_true rfl) (eqL ?_)
  refine r_topL (y := lN (cw (cN 0) (sxLen.getD 0 0))) (congrArg lN (by decide)) ?_
  refine r_lcmp hK dX10_takeClause_30 ?_
  refine r_if_ne (tgt := 38) hK dX10_takeClause_31 (by decide) (fun h31 => ?_) (fun h31 => ?_)
  · refine r_aload_n (i := 0) hK dX10_takeClause_38 rfl rfl ?_
    have n0 : ¬ isW c s 0 = true := fun z => h31 ((lc_w (k := 0) hT.1 (by decide)).mpr z)
    refine r_getL hK flX10_150 to_91 rfl dX10_takeClause_39 ?_
    refine r_topL (y := lN (wc c s (wl c s))) hf.2.2.2.2.2 ?_
    refine r_bipush (v := 119) hK dX10_takeClause_42 (by decide) ?_
    refine r_bipush (v := 97) hK dX10_takeClause_44 (by decide) ?_
    refine r_bipush (v := 121) hK dX10_takeClause_46 (by decide) ?_
    refine r_sl3 hK hnn (c_mCode rfl rfl rfl (by decide) (by decide) (by decide)) moX10_code mlX10_199 dX10_takeClause_48 (Nat.le_of_ble_eq_true rfl) (Nat.le_of_ble_eq_true rfl) (eqL ?_)
    refine r_topL (y := lN (cw (cN 1) (sxLen.getD 1 0))) (congrArg lN (by decide)) ?_
    refine r_lcmp hK dX10_takeClause_51 ?_
    refine r_if_ne (tgt := 59) hK dX10_takeClause_52 (by decide) (fun h52 => ?_) (fun h52 => ?_)
    · refine r_aload_n (i := 0) hK dX10_takeClause_59 rfl rfl ?_
      have n1 : ¬ isW c s 1 = true := fun z => h52 ((lc_w (k := 1) hT.1 (by decide)).mpr z)
      refine r_getL hK flX10_150 to_91 rfl dX10_takeClause_60 ?_
      refine r_topL (y := lN (wc c s (wl c s))) hf.2.2.2.2.2 ?_
      refine r_bipush (v := 112) hK dX10_takeClause_63 (by decide) ?_
      refine r_bipush (v := 101) hK dX10_takeClause_65 (by decide) ?_
      refine r_bipush (v := 114) hK dX10_takeClause_67 (by decide) ?_
      refine r_sl3 hK hnn (c_mCode rfl rfl rfl (by decide) (by decide) (by decide)) moX10_code mlX10_199 dX10_takeClause_69 (Nat.le_of_ble_eq_true rfl) (Nat.le_of_ble_eq_true rfl) (eqL ?_)
      refine r_bipush (v := 115) hK dX10_takeClause_72 (by decide) ?_
      refine r_bipush (v := 111) hK dX10_takeClause_74 (by decide) ?_
      refine r_sl3 hK hnn (c_mLong2 rfl rfl rfl (by decide) (by decide)) moX10_longer mlX10_203 dX10_takeClause_76 (Nat.le_of_ble_eq_true rfl) (Nat.le_of_ble_eq_true rfl) (eqL ?_)
      refine r_bipush (v := 110) hK dX10_takeClause_79 (by decide) ?_
      refine r_iconst (v := 0) hK dX10_takeClause_81 (by decide) ?_
      refine r_sl3 hK hnn (c_mLong1 rfl rfl rfl (by decide)) moX10_longer mlX10_203 dX10_takeClause_82 (Nat.le_of_ble_eq_true rfl) (Nat.le_of_ble_eq_true rfl) (eqL ?_)
      refine r_topL (y := lN (cw (cN 2) (sxLen.getD 2 0))) (congrArg lN (by decide)) ?_
      refine r_lcmp hK dX10_takeClause_85 ?_
      refine r_if_ne (tgt := 93) hK dX10_takeClause_86 (by decide) (fun h86 => ?_) (fun h86 => ?_)
      · refine r_iconst (v := (-1)) hK dX10_takeClause_93 (by decide) ?_
        have n2 : ¬ isW c s 2 = true := fun z => h86 ((lc_w (k := 2) hT.1 (by decide)).mpr z)
        refine r_istore_n (i := 1) hK hm dX10_takeClause_94 rfl (by decide) ?_
        refine r_iload_n (i := 1) hK dX10_takeClause_95 rfl rfl ?_
        refine r_if_lt (tgt := 110) hK dX10_takeClause_96 (by decide) (fun _ => ?_) (fun h => absurd (by decide) h)
        refine r_aload_n (i := 0) hK dX10_takeClause_110 rfl rfl ?_
        refine r_iconst (v := 1) hK dX10_takeClause_111 (by decide) ?_
        refine r_aload_n (i := 0) hK dX10_takeClause_112 rfl rfl ?_
        refine r_getI hK flX10_143 to_91 rfl dX10_takeClause_113 ?_
        refine r_top (y := nI s) hf.2.2.2.1 ?_
        refine r_ci2 hK hnn c_mFails moX10_fails mlX10_173 to_91 rfl rfl dX10_takeClause_116 (Nat.le_of_ble_eq_true rfl) (Nat.le_of_ble_eq_true rfl) (eqI ?_)
        refine q_iret hK hR dX10_takeClause_119 ?_
        exact TcQ_bad (hf.pk.fl (by omega)) (clS_n n0 (Or.inr ⟨n1, n2⟩)) (by decide) rfl (by rw [upI_s, upd_s])
      · refine r_iconst (v := 2) hK dX10_takeClause_89 (by decide) ?_
        have p2 : isW c s 2 = true := (lc_w (k := 2) hT.1 (by decide)).mp h86
        have htl := isW_tl hT.1 (k := 2) (by decide) p2
        refine r_goto (tgt := 94) hK dX10_takeClause_90 (by decide) ?_
        refine r_istore_n (i := 1) hK hm dX10_takeClause_94 rfl (by decide) ?_
        refine r_iload_n (i := 1) hK dX10_takeClause_95 rfl rfl ?_
        refine r_if_lt (tgt := 110) hK dX10_takeClause_96 (by decide) (fun h => absurd h (by decide)) (fun _ => ?_)
        refine r_iload_n (i := 1) hK dX10_takeClause_99 rfl rfl ?_
        refine r_if_le (tgt := 120) hK dX10_takeClause_100 (by decide) (fun h => absurd h (by decide)) (fun _ => ?_)
        refine r_aload_n (i := 0) hK dX10_takeClause_103 rfl rfl ?_
        refine r_getI hK flX10_189 to_91 rfl dX10_takeClause_104 ?_
        refine r_top (y := nI A.1) h21 ?_
        refine r_if_ne (tgt := 120) hK dX10_takeClause_107 (by decide) (fun h107 => ?_) (fun h107 => ?_)
        · refine r_iload_n (i := 1) hK dX10_takeClause_120 rfl rfl ?_
          have hA0 : 0 < A.1 := Nat.pos_of_ne_zero (fun z => h107 (by rw [z]; rfl))
          refine r_if_ne (tgt := 134) hK dX10_takeClause_121 (by decide) (fun _ => ?_) (fun h => absurd h (by decide))
          refine r_iload_n (i := 1) hK dX10_takeClause_134 rfl rfl ?_
          refine r_iconst (v := 1) hK dX10_takeClause_135 (by decide) ?_
          refine r_icmp_ne (tgt := 151) hK dX10_takeClause_136 (by decide) (fun _ => ?_) (fun h => absurd h (by decide))
          refine r_aload_n (i := 0) hK dX10_takeClause_151 rfl rfl ?_
          refine r_getI hK flX10_207 to_91 rfl dX10_takeClause_152 ?_
          refine r_top (y := nI A.2.2.1.1) h26 ?_
          refine r_bipush (v := 6) hK dX10_takeClause_155 (by decide) ?_
          refine r_top (y := nI 6) rfl ?_
          refine r_icmp_ne (tgt := 170) hK dX10_takeClause_157 (by decide) (fun h157 => ?_) (fun h157 => ?_)
          · refine r_aload_n (i := 0) hK dX10_takeClause_170 rfl rfl ?_
            refine r_aload_n (i := 0) hK dX10_takeClause_171 rfl rfl ?_
            refine r_getI hK flX10_154 to_91 rfl dX10_takeClause_172 ?_
            refine r_top (y := nI (s + tL c s)) (by rw [hf.2.2.2.2.1, htl]) ?_
            refine r_putI hK flX10_143 ft10_16 to_91 rfl dX10_takeClause_175 ?_
            refine r_iconst (v := 0) hK dX10_takeClause_178 (by decide) ?_
            refine r_istore_n (i := 2) hK hm dX10_takeClause_179 rfl (by decide) ?_
            refine r_iload_n (i := 1) hK dX10_takeClause_180 rfl rfl ?_
            refine r_if_ne (tgt := 203) hK dX10_takeClause_181 (by decide) (fun _ => ?_) (fun h => absurd h (by decide))
            refine r_iload_n (i := 1) hK dX10_takeClause_203 rfl rfl ?_
            refine r_iconst (v := 1) hK dX10_takeClause_204 (by decide) ?_
            refine r_icmp_ne (tgt := 215) hK dX10_takeClause_205 (by decide) (fun _ => ?_) (fun h => absurd h (by decide))
            refine r_aload_n (i := 0) hK dX10_takeClause_215 rfl rfl ?_
            have hk6 : A.2.2.1.1 < 6 := by rcases Nat.lt_or_ge A.2.2.1.1 6 with z | z; exact z; exact absurd (congrArg nI (show A.2.2.1.1 = 6 by omega)) h157
            refine r_ci0 hK hnn (c_mTakePerson (np := A.1) (k := A.2.2.1.1) (wn := A.2.1.1) (s := s) (p := s + tL c s) (MTx_p hT (hf.pk.fl (by omega))) ((upd_n2 (by decide)).trans h21) hA0 hnp9 ((upd_n2 (by decide)).trans h22) h14 ((upd_n2 (by decide)).trans h26) hk6 (by rw [upI_s, upd_s]) rfl hs) moX10_takePerson mlX10_223 to_91 rfl rfl dX10_takeClause_216 (Nat.le_of_ble_eq_true rfl) (Nat.le_of_ble_eq_true rfl) (fun v216 g216 q216 => ?_)
            have hW := q216
            refine r_top (y := nI (pR c A.1 A.2.1.1 s).2.1.1) hW.2.1 ?_
            refine r_istore_n (i := 2) hK hm dX10_takeClause_219 rfl (by decide) ?_
            refine r_loc ?_ (lm_tc hT hK hm hnn hR (y := 2) (s4 := (pR c A.1 A.2.1.1 s).2.2) (F := (pR c A.1 A.2.1.1 s).2.1) (pR_ok hT.1 hs h14).2 (pR_ok hT.1 hs h14).1 ((hf.pk.fl (by omega)).tr hW.1) hW.2.2.1 (fun z => ?_) ((clS_q n0 n1 p2 hA0).trans (clQ_p (by omega))))
            · rfl
            · obtain ⟨y1, y2, y3, y4, y5, y6, y7, y8, y9, y10, y11⟩ := hW.2.2.2 z
              obtain ⟨u1, u2, u3, u4, u5⟩ := pR_0 hT.1 hs h14 hA0 hnp9 z
              exact ⟨y1.trans ((upd_n2 (by decide)).trans (hf.2.1 15 (by decide) (by decide))), y2, MDr_per (MDr_16 (MDr_wq hM hf)) hk6 u1 u2 u3 u4 u5 y3 y4 y5 y6 y7 y8 y9 y10 y11⟩
          · refine r_aload_n (i := 0) hK dX10_takeClause_160 rfl rfl ?_
            refine r_iconst (v := 3) hK dX10_takeClause_161 (by decide) ?_
            refine r_aload_n (i := 0) hK dX10_takeClause_162 rfl rfl ?_
            refine r_getI hK flX10_143 to_91 rfl dX10_takeClause_163 ?_
            refine r_top (y := nI s) hf.2.2.2.1 ?_
            refine r_ci2 hK hnn c_mFails moX10_fails mlX10_173 to_91 rfl rfl dX10_takeClause_166 (Nat.le_of_ble_eq_true rfl) (Nat.le_of_ble_eq_true rfl) (eqI ?_)
            refine q_iret hK hR dX10_takeClause_169 ?_
            have e6 : A.2.2.1.1 = 6 := nI_inj (by omega) (by decide) h157
            exact TcQ_bad (A := A) (hf.pk.fl (by omega)) ((clS_q n0 n1 p2 hA0).trans (by unfold clQ; rw [if_pos (by omega)])) (by decide) rfl (by rw [upI_s, upd_s])
        · refine r_aload_n (i := 0) hK dX10_takeClause_110 rfl rfl ?_
          refine r_iconst (v := 1) hK dX10_takeClause_111 (by decide) ?_
          refine r_aload_n (i := 0) hK dX10_takeClause_112 rfl rfl ?_
          refine r_getI hK flX10_143 to_91 rfl dX10_takeClause_113 ?_
          refine r_top (y := nI s) hf.2.2.2.1 ?_
          refine r_ci2 hK hnn c_mFails moX10_fails mlX10_173 to_91 rfl rfl dX10_takeClause_116 (Nat.le_of_ble_eq_true rfl) (Nat.le_of_ble_eq_true rfl) (eqI ?_)
          refine q_iret hK hR dX10_takeClause_119 ?_
          exact TcQ_bad (hf.pk.fl (by omega)) (clS_n n0 (Or.inl (fun z => nI_nz z (by omega) h107))) (by decide) rfl (by rw [upI_s, upd_s])
    · refine r_iconst (v := 1) hK dX10_takeClause_55 (by decide) ?_
      have p1 : isW c s 1 = true := (lc_w (k := 1) hT.1 (by decide)).mp h52
      have htl := isW_tl hT.1 (k := 1) (by decide) p1
      refine r_goto (tgt := 94) hK dX10_takeClause_56 (by decide) ?_
      refine r_istore_n (i := 1) hK hm dX10_takeClause_94 rfl (by decide) ?_
      refine r_iload_n (i := 1) hK dX10_takeClause_95 rfl rfl ?_
      refine r_if_lt (tgt := 110) hK dX10_takeClause_96 (by decide) (fun h => absurd h (by decide)) (fun _ => ?_)
      refine r_iload_n (i := 1) hK dX10_takeClause_99 rfl rfl ?_
      refine r_if_le (tgt := 120) hK dX10_takeClause_100 (by decide) (fun h => absurd h (by decide)) (fun _ => ?_)
      refine r_aload_n (i := 0) hK dX10_takeClause_103 rfl rfl ?_
      refine r_getI hK flX10_189 to_91 rfl dX10_takeClause_104 ?_
      refine r_top (y := nI A.1) h21 ?_
      refine r_if_ne (tgt := 120) hK dX10_takeClause_107 (by decide) (fun h107 => ?_) (fun h107 => ?_)
      · refine r_iload_n (i := 1) hK dX10_takeClause_120 rfl rfl ?_
        have hA0 : 0 < A.1 := Nat.pos_of_ne_zero (fun z => h107 (by rw [z]; rfl))
        refine r_if_ne (tgt := 134) hK dX10_takeClause_121 (by decide) (fun _ => ?_) (fun h => absurd h (by decide))
        refine r_iload_n (i := 1) hK dX10_takeClause_134 rfl rfl ?_
        refine r_iconst (v := 1) hK dX10_takeClause_135 (by decide) ?_
        refine r_icmp_ne (tgt := 151) hK dX10_takeClause_136 (by decide) (fun h => absurd (by decide) h) (fun _ => ?_)
        refine r_aload_n (i := 0) hK dX10_takeClause_139 rfl rfl ?_
        refine r_getI hK flX10_186 to_91 rfl dX10_takeClause_140 ?_
        refine r_top (y := nI A.2.1.1) h22 ?_
        refine r_bipush (v := 14) hK dX10_takeClause_143 (by decide) ?_
        refine r_top (y := nI 14) rfl ?_
        refine r_icmp_ne (tgt := 170) hK dX10_takeClause_145 (by decide) (fun h145 => ?_) (fun h145 => ?_)
        · refine r_aload_n (i := 0) hK dX10_takeClause_170 rfl rfl ?_
          refine r_aload_n (i := 0) hK dX10_takeClause_171 rfl rfl ?_
          refine r_getI hK flX10_154 to_91 rfl dX10_takeClause_172 ?_
          refine r_top (y := nI (s + tL c s)) (by rw [hf.2.2.2.2.1, htl]) ?_
          refine r_putI hK flX10_143 ft10_16 to_91 rfl dX10_takeClause_175 ?_
          refine r_iconst (v := 0) hK dX10_takeClause_178 (by decide) ?_
          refine r_istore_n (i := 2) hK hm dX10_takeClause_179 rfl (by decide) ?_
          refine r_iload_n (i := 1) hK dX10_takeClause_180 rfl rfl ?_
          refine r_if_ne (tgt := 203) hK dX10_takeClause_181 (by decide) (fun _ => ?_) (fun h => absurd h (by decide))
          refine r_iload_n (i := 1) hK dX10_takeClause_203 rfl rfl ?_
          refine r_iconst (v := 1) hK dX10_takeClause_204 (by decide) ?_
          refine r_icmp_ne (tgt := 215) hK dX10_takeClause_205 (by decide) (fun h => absurd (by decide) h) (fun _ => ?_)
          refine r_aload_n (i := 0) hK dX10_takeClause_208 rfl rfl ?_
          have hk14 : A.2.1.1 < 14 := by rcases Nat.lt_or_ge A.2.1.1 14 with z | z; exact z; exact absurd (congrArg nI (show A.2.1.1 = 14 by omega)) h145
          refine r_ci0 hK hnn (c_mTakeWay (D := A.2.1) (np := A.1) (k := A.2.1.1) (s := s) (p := s + tL c s) (MTx_p hT (hf.pk.fl (by omega))) ((upd_n2 (by decide)).trans h21) hA0 hnp9 ((upd_n2 (by decide)).trans h22) rfl hk14 (fun w hw => by obtain ⟨b1, b2, b3⟩ := hwo.2.2 w hw; omega) (fun w hw => by rw [upI_n (by decide), upI_n (by decide)]; exact ⟨(hW9 w hw).1, (hW9 w hw).2.1⟩) (by rw [upI_s, upd_s]) rfl hs) moX10_takeWay mlX10_220 to_91 rfl rfl dX10_takeClause_209 (Nat.le_of_ble_eq_true rfl) (Nat.le_of_ble_eq_true rfl) (fun v209 g209 q209 => ?_)
          have hW := q209
          refine r_top (y := nI (wF c A.2.1 A.1 s).1) hW.2.1 ?_
          refine r_goto (tgt := 219) hK dX10_takeClause_212 (by decide) ?_
          refine r_istore_n (i := 2) hK hm dX10_takeClause_219 rfl (by decide) ?_
          refine r_loc ?_ (lm_tc hT hK hm hnn hR (y := 1) (s4 := nx c (nx c (nx c (nx c s)))) (F := wF c A.2.1 A.1 s) s4n wF_ok ((hf.pk.fl (by omega)).tr hW.1) hW.2.2.1 (fun z => ?_) ((clS_w n0 p1 hA0).trans (clW_w (by omega))))
          · rfl
          · obtain ⟨y1, y2, y3, y4, y5, y6, y7, y8, y9⟩ := hW.2.2.2 z
            obtain ⟨u1, u2, u3, u4, u5⟩ := wF_0 hA0 hnp9 z
            exact ⟨y1.trans ((upd_n2 (by decide)).trans (hf.2.1 15 (by decide) (by decide))), y2, MDr_way (MDr_16 (MDr_wq hM hf)) hk14 u1 u2 u3 u4 u5 y3 y4 y5 y6 y7 y8 y9⟩
        · refine r_goto (tgt := 160) hK dX10_takeClause_148 (by decide) ?_
          refine r_aload_n (i := 0) hK dX10_takeClause_160 rfl rfl ?_
          refine r_iconst (v := 3) hK dX10_takeClause_161 (by decide) ?_
          refine r_aload_n (i := 0) hK dX10_takeClause_162 rfl rfl ?_
          refine r_getI hK flX10_143 to_91 rfl dX10_takeClause_163 ?_
          refine r_top (y := nI s) hf.2.2.2.1 ?_
          refine r_ci2 hK hnn c_mFails moX10_fails mlX10_173 to_91 rfl rfl dX10_takeClause_166 (Nat.le_of_ble_eq_true rfl) (Nat.le_of_ble_eq_true rfl) (eqI ?_)
          refine q_iret hK hR dX10_takeClause_169 ?_
          have e14 : A.2.1.1 = 14 := nI_inj (by omega) (by decide) h145
          exact TcQ_bad (A := A) (hf.pk.fl (by omega)) ((clS_w n0 p1 hA0).trans (by unfold clW; rw [if_pos (by omega)])) (by decide) rfl (by rw [upI_s, upd_s])
      · refine r_aload_n (i := 0) hK dX10_takeClause_110 rfl rfl ?_
        refine r_iconst (v := 1) hK dX10_takeClause_111 (by decide) ?_
        refine r_aload_n (i := 0) hK dX10_takeClause_112 rfl rfl ?_
        refine r_getI hK flX10_143 to_91 rfl dX10_takeClause_113 ?_
        refine r_top (y := nI s) hf.2.2.2.1 ?_
        refine r_ci2 hK hnn c_mFails moX10_fails mlX10_173 to_91 rfl rfl dX10_takeClause_116 (Nat.le_of_ble_eq_true rfl) (Nat.le_of_ble_eq_true rfl) (eqI ?_)
        refine q_iret hK hR dX10_takeClause_119 ?_
        exact TcQ_bad (hf.pk.fl (by omega)) (clS_n n0 (Or.inl (fun z => nI_nz z (by omega) h107))) (by decide) rfl (by rw [upI_s, upd_s])
  · refine r_iconst (v := 0) hK dX10_takeClause_34 (by decide) ?_
    have p0 : isW c s 0 = true := (lc_w (k := 0) hT.1 (by decide)).mp h31
    have htl := isW_tl hT.1 (k := 0) (by decide) p0
    refine r_goto (tgt := 94) hK dX10_takeClause_35 (by decide) ?_
    refine r_istore_n (i := 1) hK hm dX10_takeClause_94 rfl (by decide) ?_
    refine r_iload_n (i := 1) hK dX10_takeClause_95 rfl rfl ?_
    refine r_if_lt (tgt := 110) hK dX10_takeClause_96 (by decide) (fun h => absurd h (by decide)) (fun _ => ?_)
    refine r_iload_n (i := 1) hK dX10_takeClause_99 rfl rfl ?_
    refine r_if_le (tgt := 120) hK dX10_takeClause_100 (by decide) (fun _ => ?_) (fun h => absurd (by decide) h)
    refine r_iload_n (i := 1) hK dX10_takeClause_120 rfl rfl ?_
    refine r_if_ne (tgt := 134) hK dX10_takeClause_121 (by decide) (fun h => absurd (by decide) h) (fun _ => ?_)
    refine r_aload_n (i := 0) hK dX10_takeClause_124 rfl rfl ?_
    refine r_getI hK flX10_189 to_91 rfl dX10_takeClause_125 ?_
    refine r_top (y := nI A.1) h21 ?_
    refine r_if_le (tgt := 170) hK dX10_takeClause_128 (by decide) (fun h128 => ?_) (fun h128 => ?_)
    · refine r_aload_n (i := 0) hK dX10_takeClause_170 rfl rfl ?_
      refine r_aload_n (i := 0) hK dX10_takeClause_171 rfl rfl ?_
      refine r_getI hK flX10_154 to_91 rfl dX10_takeClause_172 ?_
      refine r_top (y := nI (s + tL c s)) (by rw [hf.2.2.2.2.1, htl]) ?_
      refine r_putI hK flX10_143 ft10_16 to_91 rfl dX10_takeClause_175 ?_
      refine r_iconst (v := 0) hK dX10_takeClause_178 (by decide) ?_
      refine r_istore_n (i := 2) hK hm dX10_takeClause_179 rfl (by decide) ?_
      refine r_iload_n (i := 1) hK dX10_takeClause_180 rfl rfl ?_
      refine r_if_ne (tgt := 203) hK dX10_takeClause_181 (by decide) (fun h => absurd (by decide) h) (fun _ => ?_)
      refine r_aload_n (i := 0) hK dX10_takeClause_184 rfl rfl ?_
      have hA1 : A.1 = 0 := Nat.eq_zero_of_not_pos (fun z => absurd h128 (nI_nle z (by omega)))
      refine r_iconst (v := 1) hK dX10_takeClause_185 (by decide) ?_
      refine r_top (y := nI 1) rfl ?_
      refine r_bipush (v := 10) hK dX10_takeClause_186 (by decide) ?_
      refine r_top (y := nI 10) rfl ?_
      refine r_ci2 hK hnn (c_mTakeNumber (MTx_p hT (hf.pk.fl (by omega))) hst (by rw [upI_s, upd_s])) moX10_takeNumber mlX10_183 to_91 rfl rfl dX10_takeClause_188 (Nat.le_of_ble_eq_true rfl) (Nat.le_of_ble_eq_true rfl) (fun v188 g188 q188 => ?_)
      have hN : NQ c (upI g1 91 16 (nI (s + tL c s))) (nx c s) (nI 1) (nI 10) v188 g188 := q188
      refine r_top (y := nI (seF c (0, 0) (nx c s) (nI 1) (nI 10)).1) hN.2.2.2.1 ?_
      refine r_istore_n (i := 2) hK hm dX10_takeClause_191 rfl (by decide) ?_
      refine r_aload_n (i := 0) hK dX10_takeClause_192 rfl rfl ?_
      refine r_aload_n (i := 0) hK dX10_takeClause_193 rfl rfl ?_
      refine r_getI hK flX10_180 to_91 rfl dX10_takeClause_194 ?_
      refine r_putI hK flX10_189 ft10_21 to_91 rfl dX10_takeClause_197 ?_
      refine r_goto (tgt := 220) hK dX10_takeClause_200 (by decide) ?_
      refine r_loc ?_ (lm_tc hT hK hm hnn hR (y := 0) (s4 := nx c (nx c s)) (F := seF c (0, 0) (nx c s) (nI 1) (nI 10)) s2n (seF_ok (by decide)) ((hf.pk.fl (by omega)).tr (hN.pk.fl (by omega))) (fun z => ?_) (fun z => ?_) ((clS_p p0).trans (if_neg (by omega))))
      · rfl
      · exact (upd_n2 (by decide)).trans ((hN.2.2.2.2.1 z).trans (congrArg nI (congrArg Prod.snd (seF_2 z)).symm))
      · obtain ⟨y1, y2, y3, y4⟩ := hN.2.2.2.2.2 z
        have kk := se_v (c := c) (F := (0, 0)) (s := nx c s) (lo := 1) (hi := 10) (by decide) (by decide) z
        have mm := seF_v (c := c) (s := nx c s) (lo := nI 1) (hi := nI 10) z
        have hpA := tL_le hT.1 s1n
        have hn4 := hT.1.1
        exact ⟨(upd_n2 (by decide)).trans (y1.trans ((upd_n2 (by decide)).trans (hf.2.1 15 (by decide) (by decide)))), ⟨_, by omega, (upd_n2 (by decide)).trans y2, rfl⟩, MDr_pl (MDr_16 (MDr_wq hM hf)) hA1 kk.2.2 (by rw [upI_s, upd_s, y3, mm.1.symm.trans kk.1]) ((upd_n2 (by decide)).trans (hN.2.1 22 (by decide) (by decide) (by decide) (by decide))) ((upd_n2 (by decide)).trans (hN.2.1 26 (by decide) (by decide) (by decide) (by decide))) (fun j a b => (upI_n (by omega)).trans (hN.1 j (by omega)))⟩
    · refine r_goto (tgt := 160) hK dX10_takeClause_131 (by decide) ?_
      refine r_aload_n (i := 0) hK dX10_takeClause_160 rfl rfl ?_
      refine r_iconst (v := 3) hK dX10_takeClause_161 (by decide) ?_
      refine r_aload_n (i := 0) hK dX10_takeClause_162 rfl rfl ?_
      refine r_getI hK flX10_143 to_91 rfl dX10_takeClause_163 ?_
      refine r_top (y := nI s) hf.2.2.2.1 ?_
      refine r_ci2 hK hnn c_mFails moX10_fails mlX10_173 to_91 rfl rfl dX10_takeClause_166 (Nat.le_of_ble_eq_true rfl) (Nat.le_of_ble_eq_true rfl) (eqI ?_)
      refine q_iret hK hR dX10_takeClause_169 ?_
      have hA1 : 0 < A.1 := Nat.pos_of_ne_zero (fun z => h128 (by rw [z]; decide))
      exact TcQ_bad (A := A) (hf.pk.fl (by omega)) ((clS_p p0).trans (if_pos hA1)) (by decide) rfl (by rw [upI_s, upd_s])
