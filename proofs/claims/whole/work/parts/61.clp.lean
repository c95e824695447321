/-! THE READER'S CLAUSES: places and ways -/
abbrev DR : Type := Nat × WD × PD × (Nat → Nat) × (Nat → Nat)
/-- the draft -/
def DrC (g : St) (A : DR) : Prop := wOk A.1 A.2.1 ∧ pOk A.1 A.2.2.1 A.2.2.2.1 A.2.2.2.2 ∧ g.1 4 8 = nI A.1 ∧ WyC g 4 A.2.1 ∧ g.1 4 10 = nI A.2.2.1.1 ∧ ∀ p, p < A.2.2.1.1 → g.1 8 p = nI (A.2.2.1.2.1 p) ∧ g.1 9 p = nI (A.2.2.1.2.2.1 p) ∧ g.1 10 p = nI (A.2.2.1.2.2.2 p) ∧ g.1 11 p = nI (A.2.2.2.1 p) ∧ g.1 12 p = nI (A.2.2.2.2 p)
theorem DrC_of {g g' : St} {A : DR} (h : DrC g A) (hk : ∀ j, 4 ≤ j → j ≤ 12 → g'.1 j = g.1 j) : DrC g' A := by
  obtain ⟨h1, h2, h3, ⟨h4, h5⟩, h6, h7⟩ := h
  refine ⟨h1, h2, by rw [hk 4 (by decide) (by decide)]; exact h3, ⟨by rw [hk 4 (by decide) (by decide)]; exact h4, fun w hw => ?_⟩, by rw [hk 4 (by decide) (by decide)]; exact h6, fun p hp => ?_⟩
  · show g'.1 5 w = _ ∧ g'.1 6 w = _ ∧ g'.1 7 w = _
    rw [hk 5 (by decide) (by decide), hk 6 (by decide) (by decide), hk 7 (by decide) (by decide)]; exact h5 w hw
  · rw [hk 8 (by decide) (by decide), hk 9 (by decide) (by decide), hk 10 (by decide) (by decide), hk 11 (by decide) (by decide), hk 12 (by decide) (by decide)]; exact h7 p hp
def Kp (g g' : St) : Prop := (∀ j, (j < 4 ∨ 12 < j) → g'.1 j = g.1 j) ∧ g'.2 = g.2
theorem Kp.rf {g : St} : Kp g g := ⟨fun _ _ => rfl, rfl⟩
theorem Kp.up {g g' : St} {j k : Nat} {x : Int32} (h : Kp g g') (hj : 4 ≤ j) (hj2 : j ≤ 12) : Kp g (upI g' j k x) := ⟨fun i hi => (upI_n (by omega)).trans (h.1 i hi), h.2⟩
theorem Kp.tr {g g' g2 : St} (h : Kp g g') (h2 : Kp g' g2) : Kp g g2 := ⟨fun j hj => (h2.1 j hj).trans (h.1 j hj), h2.2.trans h.2⟩
theorem TxC_kp {g g' : St} {n : Nat} {c : CT} (h : TxC g n c) (hk : Kp g g') : TxC g' n c := TxC_of h (hk.1 1 (by decide)) (hk.1 2 (by decide)) (congrFun (hk.1 3 (by decide)) 1)
/-- the number ahead -/
def tV (c : CT) (s : Nat) : Nat := (vI c s (tL c s - 1)).toNatClampNeg
theorem bl_st {F : FP} {k s : Nat} (h : ¬ F.1 = 0) : bl F k s = F := if_neg h
theorem bl_n {F : FP} {k s : Nat} (hk : 0 < k) : ¬ (bl F k s).1 = 0 := by
  unfold bl
  split
  · exact Nat.ne_of_gt hk
  · assumption
theorem seF_st {c : CT} {F : FP} {s : Nat} {lo hi : Int32} (h : ¬ F.1 = 0) : seF c F s lo hi = F := by
  unfold seF
  rw [bl_st h, bl_st h, ite_self, ite_self]
theorem sgF_st {c : CT} {F : FP} {s k : Nat} (h : ¬ F.1 = 0) : sgF c F s k = F := by
  unfold sgF
  rw [bl_st h, ite_self]
theorem sgF_ok {c : CT} {F : FP} {s k : Nat} (h : F.1 ≤ 4) : (sgF c F s k).1 ≤ 4 := by
  unfold sgF
  split
  · exact h
  · exact bl_ok h (by decide)
theorem sgF_0 {c : CT} {F : FP} {s k : Nat} (h : (sgF c F s k).1 = 0) : sgF c F s k = F ∧ F.1 = 0 ∧ sgn c s k = true := by
  unfold sgF at h ⊢
  split
  · rename_i q; rw [if_pos q] at h; exact ⟨rfl, h, q⟩
  · rename_i q; rw [if_neg q] at h; exact absurd h (bl_n (by decide))
theorem seF_0 {c : CT} {F : FP} {s : Nat} {lo hi : Int32} (h : (seF c F s lo hi).1 = 0) : seF c F s lo hi = F ∧ F.1 = 0 ∧ fg (c s) = true ∧ ¬ 3 < tL c s ∧ ¬ vI c s (tL c s - 1) < lo ∧ ¬ hi < vI c s (tL c s - 1) := by
  unfold seF at h ⊢
  split
  · rename_i q
    rw [if_pos q] at h
    split
    · rename_i q2; rw [if_pos q2] at h; exact absurd h (bl_n (by decide))
    · rename_i q2
      rw [if_neg q2] at h
      exact ⟨rfl, h, q, fun z => q2 (Or.inl z), fun z => q2 (Or.inr (Or.inl z)), fun z => q2 (Or.inr (Or.inr z))⟩
  · rename_i q; rw [if_neg q] at h; exact absurd h (bl_n (by decide))
theorem nI_bd {x : Int32} {lo hi : Nat} (hh : hi < 2 ^ 30) (h1 : ¬ x < nI lo) (h2 : ¬ nI hi < x) (hl : lo < 2 ^ 31) : x = nI x.toNatClampNeg ∧ lo ≤ x.toNatClampNeg ∧ x.toNatClampNeg ≤ hi := by
  rw [Int32.lt_iff_toInt_lt, nI_toInt hl] at h1
  rw [Int32.lt_iff_toInt_lt, nI_toInt (by omega)] at h2
  have h3 : isB x (hi + 1) = true := by
    unfold isB
    have e1 : ¬ x < 0 := by rw [Int32.lt_iff_toInt_lt]; show ¬ x.toInt < 0; omega
    have e2 : x < nI (hi + 1) := by rw [Int32.lt_iff_toInt_lt, nI_toInt (by omega)]; omega
    rw [decide_eq_false e1, decide_eq_true e2]; rfl
  have e4 : x.toNatClampNeg = x.toInt.toNat := rfl
  exact ⟨(isB_cl (by omega) h3).2, by omega, by omega⟩

/-- a number in its bounds -/
theorem se_v {c : CT} {F : FP} {s lo hi : Nat} (hh : hi < 2 ^ 30) (hl : lo < 2 ^ 30) (h : (seF c F s (nI lo) (nI hi)).1 = 0) : seV c (seF c F s (nI lo) (nI hi)) s = nI (tV c s) ∧ lo ≤ tV c s ∧ tV c s ≤ hi := by
  obtain ⟨e, -, -, -, h5, h6⟩ := seF_0 h
  unfold seV
  rw [if_pos h]
  exact nI_bd hh h5 h6 (by omega)
/-- two places joined -/
def jnI (g : St) (k : Nat) (a b : Int32) : Bool := decide (fdF (fun w => decide (oeV (atF (g.1 5) 14 (nI w)) (atF (g.1 6) 14 (nI w)) a = b)) k 0 < k)
def jn (D : WD) (a b : Nat) : Bool := decide (fdF (fun w => decide (oE D w a = b)) D.1 0 < D.1)
theorem fdF_cg {p q : Nat → Bool} : ∀ n i, (∀ j, i ≤ j → j < i + n → p j = q j) → fdF p n i = fdF q n i
  | 0, i, h => rfl
  | n + 1, i, h => by
    unfold fdF
    rw [h i (Nat.le_refl _) (by omega), fdF_cg n (i + 1) (fun j h1 h2 => h j (by omega) (by omega))]
theorem jn_eq {g : St} {D : WD} {np a b : Nat} (hok : wOk np D) (hW : WyC g 4 D) (ha : a < 2 ^ 31) (hb : b < 10) : jnI g D.1 (nI a) (nI b) = jn D a b := by
  have h1 := hok.1
  have h2 := hok.2.1
  unfold jnI jn
  rw [fdF_cg (q := fun w => decide (oE D w a = b)) D.1 0 (fun w _ hw => ?_)]
  obtain ⟨q1, q2, q3, q4, q5⟩ := hok.2.2 w (by omega)
  obtain ⟨e1, e2, e3⟩ := hW.2 w (by omega)
  rw [atF_in (by omega) (by decide), atF_in (by omega) (by decide), show g.1 5 w = _ from e1, show g.1 6 w = _ from e2]
  apply decide_eq_decide.mpr
  unfold oeV oE
  have i1 : nI (D.2.1 w) = nI a ↔ D.2.1 w = a := nI_eq (by omega) ha
  have i2 : nI (D.2.2.1 w) = nI a ↔ D.2.2.1 w = a := nI_eq (by omega) ha
  by_cases c1 : D.2.1 w = a
  · rw [if_pos (i1.mpr c1), if_pos c1]; exact nI_eq (by omega) (by omega)
  · rw [if_neg (fun z => c1 (i1.mp z)), if_neg c1]
    by_cases c2 : D.2.2.1 w = a
    · rw [if_pos (i2.mpr c2), if_pos c2]; exact nI_eq (by omega) (by omega)
    · rw [if_neg (fun z => c2 (i2.mp z)), if_neg c2]
      exact ⟨fun z => absurd z.symm (nI_m1 (by omega)), fun z => by omega⟩

set_option maxHeartbeats 4000000 in
set_option maxRecDepth 100000 in
theorem l_jn {K : KT} {ad : Nat → Nat} {g : St} {k : Nat} {a b : Int32} (hk : g.1 4 9 = nI k) (hk14 : k ≤ 14) (hK : Cx K RX4 cX4_areJoined 3 ad) (hm : K.2.2.1.2.maxLocals = 4) (hnn : Nn K 0 0)
    (hR : Rt K 0 0 TT ad (some .boolean) (Qi ad (fun v g' => v = B1 (jnI g k a b) ∧ g' = g))) :
    ∀ m w, w + m = k → fdF (fun w => decide (oeV (atF (g.1 5) 14 (nI w)) (atF (g.1 6) 14 (nI w)) a = b)) m w = fdF (fun w => decide (oeV (atF (g.1 5) 14 (nI w)) (atF (g.1 6) 14 (nI w)) a = b)) k 0 → Wp K 0 0 TT ad g 2 [(0, .ref 4), (1, .int a), (2, .int b), (3, .int (nI w))] [] := by
  intro m
  induction m with
  | zero =>
    intro w hw hfd
    have e : w = k := by omega
    subst e
    refine r_iload_n (i := 3) hK dX4_areJoined_2 rfl rfl ?_
    refine r_aload_n (i := 0) hK dX4_areJoined_3 rfl rfl ?_
    refine r_getI hK flX4_40 to_4 rfl dX4_areJoined_4 ?_
    refine r_top (y := nI w) hk ?_
    refine r_icmp_ge (tgt := 28) hK dX4_areJoined_7 (by decide) (fun _ => ?_) (fun h => absurd (nI_le (Nat.le_refl _) (by omega)) h)
    refine r_iconst (v := 0) hK dX4_areJoined_28 (by decide) ?_
    refine q_zret hK hR dX4_areJoined_29 (Or.inl rfl) ?_
    refine ⟨?_, rfl⟩
    unfold jnI
    rw [← hfd, show fdF (fun w => decide (oeV (atF (g.1 5) 14 (nI w)) (atF (g.1 6) 14 (nI w)) a = b)) 0 w = w from rfl, decide_eq_false (Nat.lt_irrefl w)]
    rfl
  | succ m ih =>
    intro w hw hfd
    refine r_iload_n (i := 3) hK dX4_areJoined_2 rfl rfl ?_
    refine r_aload_n (i := 0) hK dX4_areJoined_3 rfl rfl ?_
    refine r_getI hK flX4_40 to_4 rfl dX4_areJoined_4 ?_
    refine r_top (y := nI k) hk ?_
    refine r_icmp_ge (tgt := 28) hK dX4_areJoined_7 (by decide) (fun h => absurd h (nI_ge (show w < k by omega) (by omega))) (fun _ => ?_)
    refine r_aload_n (i := 0) hK dX4_areJoined_10 rfl rfl ?_
    refine r_iload_n (i := 3) hK dX4_areJoined_11 rfl rfl ?_
    refine r_iload_n (i := 1) hK dX4_areJoined_12 rfl rfl ?_
    refine r_ci2 hK hnn (c_otherEnd lp_4) moX4_otherEnd mlX4_54 to_4 rfl rfl dX4_areJoined_13 (Nat.le_of_ble_eq_true rfl) (Nat.le_of_ble_eq_true rfl) (eqI ?_)
    refine r_iload_n (i := 2) hK dX4_areJoined_16 rfl rfl ?_
    refine r_icmp_ne (tgt := 22) hK dX4_areJoined_17 (by decide) (fun h17 => ?_) (fun h17 => ?_)
    · refine r_iincN (i := 3) hK hm dX4_areJoined_22 rfl (by decide) ?_
      refine r_goto (tgt := 2) hK dX4_areJoined_25 (by decide) ?_
      refine r_loc ?_ (ih (w + 1) (by omega) (by rw [← hfd, fdF_succ, if_neg (by rw [decide_eq_true_eq]; exact h17)]))
      rfl
    · refine r_iconst (v := 1) hK dX4_areJoined_20 (by decide) ?_
      refine q_zret hK hR dX4_areJoined_21 (Or.inr rfl) ?_
      refine ⟨?_, rfl⟩
      unfold jnI
      rw [← hfd, fdF_succ, if_pos (by rw [decide_eq_true_eq]; exact h17), decide_eq_true (by omega)]
      rfl
set_option maxHeartbeats 4000000 in
set_option maxRecDepth 100000 in
theorem c_areJoined {ad : Nat → Nat} {g : St} {k : Nat} {a b : Int32} (hk : g.1 4 9 = nI k) (hk14 : k ≤ 14) : Ci 3 mX4_areJoined [.ref 4, .int a, .int b] ad g (fun v g' => v = B1 (jnI g k a b) ∧ g' = g) := by
  refine Cm.mk rfl (Nat.le_of_ble_eq_true rfl) (fun K hK hR hm hnn => ?_)
  refine r_iconst (v := 0) hK dX4_areJoined_0 (by decide) ?_
  refine r_istore_n (i := 3) hK hm dX4_areJoined_1 rfl (by decide) ?_
  refine r_loc ?_ (l_jn hk hk14 hK hm hnn hR k 0 (by omega) rfl)
  rfl
set_option maxHeartbeats 4000000 in
set_option maxRecDepth 100000 in
theorem c_empty {ad : Nat → Nat} {g : St}  : Cv 1 mX4_empty [.ref 4] ad g (fun g' => g' = upI (upI (upI g 4 8 0) 4 9 0) 4 10 0) := by
  refine Cm.mk rfl (Nat.le_of_ble_eq_true rfl) (fun K hK hR hm hnn => ?_)
  refine r_aload_n (i := 0) hK dX4_empty_0 rfl rfl ?_
  refine r_iconst (v := 0) hK dX4_empty_1 (by decide) ?_
  refine r_putI hK flX4_36 ft4_8 to_4 rfl dX4_empty_2 ?_
  refine r_aload_n (i := 0) hK dX4_empty_5 rfl rfl ?_
  refine r_iconst (v := 0) hK dX4_empty_6 (by decide) ?_
  refine r_putI hK flX4_40 ft4_9 to_4 rfl dX4_empty_7 ?_
  refine r_aload_n (i := 0) hK dX4_empty_10 rfl rfl ?_
  refine r_iconst (v := 0) hK dX4_empty_11 (by decide) ?_
  refine r_putI hK flX4_43 ft4_10 to_4 rfl dX4_empty_12 ?_
  refine q_vret hK hR dX4_empty_15 ?_
  rfl
abbrev CR : Type := DR × FP × Nat
def clP (c : CT) (A : DR) (F : FP) (s : Nat) : CR := if 0 < A.1 then (A, bl F 3 s, s) else ((tV c (nx c s), A.2), sgF c (seF c F (nx c s) (nI 1) (nI 10)) (nx c (nx c s)) 59, nx c (nx c (nx c s)))
def QC (g : St) (n : Nat) (c : CT) (R : CR) (g' : St) : Prop := ∃ g1 s', s' ≤ n ∧ Kp g g1 ∧ g' = rs g1 c R.2.1 s' ∧ (R.2.1.1 = 0 → s' = R.2.2 ∧ DrC g1 R.1)
def clW (c : CT) (A : DR) (F : FP) (s : Nat) : CR :=
  if 14 ≤ A.2.1.1 then (A, bl F 3 s, s) else
  let s1 := nx c s; let s2 := nx c s1; let s3 := nx c s2; let s4 := nx c s3
  let F2 := seF c (seF c F s1 (nI 0) (nI (A.1 - 1))) s2 (nI 0) (nI (A.1 - 1))
  let F3 := if tV c s1 = tV c s2 ∨ jn A.2.1 (tV c s1) (tV c s2) = true then bl F2 4 s2 else F2
  ((A.1, (A.2.1.1 + 1, upN A.2.1.2.1 A.2.1.1 (tV c s1), upN A.2.1.2.2.1 A.2.1.1 (tV c s2), upN A.2.1.2.2.2 A.2.1.1 (tV c s3)), A.2.2), sgF c (seF c F3 s3 (nI 1) (nI 99)) s4 59, nx c s4)
theorem clW_g {c : CT} {A : DR} {F : FP} {s s1 s2 s3 s4 : Nat} {F1 F2 F3 F4 : FP} (h : ¬ 14 ≤ A.2.1.1) (e1 : s1 = nx c s) (e2 : s2 = nx c s1) (e3 : s3 = nx c s2) (e4 : s4 = nx c s3) (q1 : F1 = seF c F s1 (nI 0) (nI (A.1 - 1))) (q2 : F2 = seF c F1 s2 (nI 0) (nI (A.1 - 1))) (q3 : F3 = if tV c s1 = tV c s2 ∨ jn A.2.1 (tV c s1) (tV c s2) = true then bl F2 4 s2 else F2) (q4 : F4 = seF c F3 s3 (nI 1) (nI 99)) : clW c A F s = ((A.1, (A.2.1.1 + 1, upN A.2.1.2.1 A.2.1.1 (tV c s1), upN A.2.1.2.2.1 A.2.1.1 (tV c s2), upN A.2.1.2.2.2 A.2.1.1 (tV c s3)), A.2.2), sgF c F4 s4 59, nx c s4) := by
  subst e1 e2 e3 e4 q1 q2 q3 q4
  unfold clW
  rw [if_neg h]
theorem up_lt {f : Nat → Nat} {k x j : Nat} (h : j ≠ k) : upN f k x j = f j := if_neg h
theorem up_s {f : Nat → Nat} {k x : Nat} : upN f k x k = x := if_pos rfl
theorem upd_e {f : Nat → Int32} {k j : Nat} {x : Int32} (h : j ≠ k) : upd f k x j = f j := if_neg h
theorem pOk_np {np np' : Nat} {P : PD} {ha kn : Nat → Nat} (h : pOk np P ha kn) (h0 : P.1 = 0) : pOk np' P ha kn := ⟨h.1, fun p hp => by omega⟩

set_option maxHeartbeats 4000000 in
set_option maxRecDepth 100000 in
theorem c_readPlaces {ad : Nat → Nat} {g : St} {n s : Nat} {c : CT} {A : DR} {F : FP} (hT : TxC g n c) (hs : s ≤ n) (hF : F.1 = 0) (hA : DrC g A) (h0 : A.1 = 0 → A.2.1.1 = 0 ∧ A.2.2.1.1 = 0) : Cv 5 mX7_readPlaces [.ref 3] ad (rs g c F s) (fun g' => QC g n c (clP c A F s) g') := by
  obtain ⟨hwo, hpo, x8, hW, x10, hP⟩ := id hA
  have hnp := hwo.2.1
  have h14 := hwo.1
  have h6 := hpo.1
  have hF4 : F.1 ≤ 4 := by omega
  have s1 := (nx_le hT.1 hs).2
  have s2 := (nx_le hT.1 s1).2
  have s3 := (nx_le hT.1 s2).2
  refine Cm.mk rfl (Nat.le_of_ble_eq_true rfl) (fun K hK hR hm hnn => ?_)
  refine r_aload_n (i := 0) hK dX7_readPlaces_0 rfl rfl ?_
  refine r_getA hK flX7_12 to_3 rfl dX7_readPlaces_1 ?_
  refine r_getI hK flX7_50 to_4 rfl dX7_readPlaces_4 ?_
  refine r_top (y := nI A.1) ((congrFun (rs_n (by decide)) _).trans x8) ?_
  refine r_if_le (tgt := 16) hK dX7_readPlaces_7 (by decide) (fun h7 => ?_) (fun h7 => ?_)
  · refine r_aload_n (i := 0) hK dX7_readPlaces_16 rfl rfl ?_
    refine r_cv0 hK hnn (c_stepR hT hs) moX7_step mlX7_38 to_3 rfl rfl dX7_readPlaces_17 (Nat.le_of_ble_eq_true rfl) (Nat.le_of_ble_eq_true rfl) (eqV ?_)
    refine r_aload_n (i := 0) hK dX7_readPlaces_20 rfl rfl ?_
    refine r_iconst (v := 1) hK dX7_readPlaces_21 (by decide) ?_
    refine r_bipush (v := 10) hK dX7_readPlaces_22 (by decide) ?_
    refine r_ci2 hK hnn (c_takeNumber hT s1 hF4) moX7_takeNumber mlX7_66 to_3 rfl rfl dX7_readPlaces_24 (Nat.le_of_ble_eq_true rfl) (Nat.le_of_ble_eq_true rfl) (eqI ?_)
    refine r_istore_n (i := 1) hK hm dX7_readPlaces_27 rfl (by decide) ?_
    refine r_aload_n (i := 0) hK dX7_readPlaces_28 rfl rfl ?_
    refine r_bipush (v := 59) hK dX7_readPlaces_29 (by decide) ?_
    refine r_cv1 hK hnn (c_takeSign hT s2 (seF_ok hF4) rfl (by decide)) moX7_takeSign mlX7_70 to_3 rfl rfl dX7_readPlaces_31 (Nat.le_of_ble_eq_true rfl) (Nat.le_of_ble_eq_true rfl) (eqV ?_)
    refine r_aload_n (i := 0) hK dX7_readPlaces_34 rfl rfl ?_
    refine r_getA hK flX7_12 to_3 rfl dX7_readPlaces_35 ?_
    refine r_iload_n (i := 1) hK dX7_readPlaces_38 rfl rfl ?_
    refine r_putI hK flX7_50 ft4_8 to_4 rfl dX7_readPlaces_39 ?_
    refine r_g (rs_up (by decide)) ?_
    refine q_vret hK hR dX7_readPlaces_42 ?_
    have hz : A.1 = 0 := by rcases Nat.eq_zero_or_pos A.1 with z | z; exact z; exact absurd h7 (nI_nle z (by omega))
    have hc : clP c A F s = ((tV c (nx c s), A.2), sgF c (seF c F (nx c s) (nI 1) (nI 10)) (nx c (nx c s)) 59, nx c (nx c (nx c s))) := by unfold clP; rw [if_neg (by omega)]
    rw [hc]
    refine ⟨_, _, s3, Kp.rf.up (by decide) (by decide), rfl, fun hz5 => ⟨rfl, ?_⟩⟩
    obtain ⟨-, hz4, -⟩ := sgF_0 hz5
    obtain ⟨v1, v2, v3⟩ := se_v (hi := 10) (lo := 1) (by decide) (by decide) hz4
    obtain ⟨w0, p0⟩ := h0 hz
    refine ⟨⟨by show A.2.1.1 ≤ 14; omega, v3, fun w hw => absurd (show w < A.2.1.1 from hw) (by omega)⟩, pOk_np hpo p0, ?_, ⟨?_, fun w hw => absurd (show w < A.2.1.1 from hw) (by omega)⟩, ?_, fun p hp => absurd (show p < A.2.2.1.1 from hp) (by omega)⟩
    · rw [upI_s, upd_s]; exact v1
    · rw [upI_s, upd_e (by decide)]; exact hW.1
    · rw [upI_s, upd_e (by decide)]; exact x10
  · refine r_aload_n (i := 0) hK dX7_readPlaces_10 rfl rfl ?_
    refine r_iconst (v := 3) hK dX7_readPlaces_11 (by decide) ?_
    refine r_cv1 hK hnn (c_blame hF4 rfl (by decide)) moX7_blame mlX7_62 to_3 rfl rfl dX7_readPlaces_12 (Nat.le_of_ble_eq_true rfl) (Nat.le_of_ble_eq_true rfl) (eqV ?_)
    refine q_vret hK hR dX7_readPlaces_15 ?_
    have hc : clP c A F s = (A, bl F 3 s, s) := by unfold clP; rw [if_pos (Nat.pos_of_ne_zero (fun z => h7 (by rw [z]; decide)))]
    rw [hc]
    exact ⟨g, s, hs, Kp.rf, rfl, fun z => absurd z (bl_n (by decide))⟩
theorem c_tkN {ad : Nat → Nat} {g : St} {n s s' : Nat} {c : CT} {F F' : FP} {lo hi : Int32} (hT : TxC g n c) (hs : s ≤ n) (hF : F.1 ≤ 4) (e1 : F' = seF c F s lo hi) (e2 : s' = nx c s) : Ci 4 mX7_takeNumber [.ref 3, .int lo, .int hi] ad (rs g c F s) (fun v g' => v = seV c F' s ∧ g' = rs g c F' s') := by
  subst e1 e2; exact c_takeNumber hT hs hF
theorem c_seN {ad : Nat → Nat} {g : St} {n s : Nat} {c : CT} {F F' : FP} {lo hi : Int32} (hT : TxC g n c) (hs : s ≤ n) (hF : F.1 ≤ 4) (e1 : F' = seF c F s lo hi) : Ci 2 mX7_seeNumber [.ref 3, .int lo, .int hi] ad (rs g c F s) (fun v g' => v = seV c F' s ∧ g' = rs g c F' s) := by
  subst e1; exact c_seeNumber hT hs hF
theorem c_tkS {ad : Nat → Nat} {g : St} {n s s' k : Nat} {c : CT} {F F' : FP} {x : Int32} (hT : TxC g n c) (hs : s ≤ n) (hF : F.1 ≤ 4) (hx : x = nI k) (hk : k < 256) (e1 : F' = sgF c F s k) (e2 : s' = nx c s) : Cv 4 mX7_takeSign [.ref 3, .int x] ad (rs g c F s) (fun g' => g' = rs g c F' s') := by
  subst e1 e2; exact c_takeSign hT hs hF hx hk
theorem c_stp {ad : Nat → Nat} {g : St} {n s s' : Nat} {c : CT} {F : FP} (hT : TxC g n c) (hs : s ≤ n) (e2 : s' = nx c s) : Cv 3 mX7_step [.ref 3] ad (rs g c F s) (fun g' => g' = rs g c F s') := by
  subst e2; exact c_stepR hT hs
theorem DrC_way {g : St} {A : DR} (h : DrC g A) (h14 : A.2.1.1 < 14) {a b m : Nat} {x y z : Int32} (ha : a < A.1) (hb : b < A.1) (hab : a ≠ b) (hm : 1 ≤ m) (hm2 : m ≤ 99) (hx : x = nI a) (hy : y = nI b) (hz : z = nI m) : DrC (upI (upI (upI (upI g 5 A.2.1.1 x) 6 A.2.1.1 y) 7 A.2.1.1 z) 4 9 (nI (A.2.1.1 + 1))) (A.1, (A.2.1.1 + 1, upN A.2.1.2.1 A.2.1.1 a, upN A.2.1.2.2.1 A.2.1.1 b, upN A.2.1.2.2.2 A.2.1.1 m), A.2.2) := by
  obtain ⟨⟨h1, h1b, h1c⟩, h2, h3, ⟨h4, h5⟩, h6, h7⟩ := h
  obtain ⟨S, hS⟩ : ∃ S, S = (upI (upI (upI (upI g 5 A.2.1.1 x) 6 A.2.1.1 y) 7 A.2.1.1 z) 4 9 (nI (A.2.1.1 + 1))) := ⟨_, rfl⟩
  rw [← hS]
  have m4 : S.1 4 = upd (g.1 4) 9 (nI (A.2.1.1 + 1)) := by rw [hS, upI_s, upI_n (by decide), upI_n (by decide), upI_n (by decide)]
  have m5 : S.1 5 = upd (g.1 5) A.2.1.1 x := by rw [hS, upI_n (by decide), upI_n (by decide), upI_n (by decide), upI_s]
  have m6 : S.1 6 = upd (g.1 6) A.2.1.1 y := by rw [hS, upI_n (by decide), upI_n (by decide), upI_s, upI_n (by decide)]
  have m7 : S.1 7 = upd (g.1 7) A.2.1.1 z := by rw [hS, upI_n (by decide), upI_s, upI_n (by decide), upI_n (by decide)]
  have mo : ∀ j, 8 ≤ j → S.1 j = g.1 j := fun j hj => by rw [hS, upI_n (by omega), upI_n (by omega), upI_n (by omega), upI_n (by omega)]
  refine ⟨⟨h14, h1b, fun w hw => ?_⟩, h2, ?_, ⟨?_, fun w hw => ?_⟩, ?_, fun p hp => ?_⟩
  · by_cases e : w = A.2.1.1
    · subst e
      show upN _ _ _ _ < A.1 ∧ upN _ _ _ _ < A.1 ∧ upN _ _ _ _ ≠ upN _ _ _ _ ∧ 1 ≤ upN _ _ _ _ ∧ upN _ _ _ _ ≤ 99
      rw [up_s, up_s, up_s]
      exact ⟨ha, hb, hab, hm, hm2⟩
    · show upN _ _ _ _ < A.1 ∧ upN _ _ _ _ < A.1 ∧ upN _ _ _ _ ≠ upN _ _ _ _ ∧ 1 ≤ upN _ _ _ _ ∧ upN _ _ _ _ ≤ 99
      rw [up_lt e, up_lt e, up_lt e]
      exact h1c w (by have : w < A.2.1.1 + 1 := hw; omega)
  · rw [m4, upd_e (by decide)]; exact h3
  · rw [m4, upd_s]
  · show S.1 5 w = nI (upN _ _ _ _) ∧ S.1 6 w = nI (upN _ _ _ _) ∧ S.1 7 w = nI (upN _ _ _ _)
    rw [m5, m6, m7]
    by_cases e : w = A.2.1.1
    · subst e
      rw [upd_s, upd_s, upd_s, up_s, up_s, up_s]
      exact ⟨hx, hy, hz⟩
    · rw [upd_e e, upd_e e, upd_e e, up_lt e, up_lt e, up_lt e]
      exact h5 w (by have : w < A.2.1.1 + 1 := hw; omega)
  · rw [m4, upd_e (by decide)]; exact h6
  · rw [mo 8 (by decide), mo 9 (by decide), mo 10 (by decide), mo 11 (by decide), mo 12 (by decide)]
    exact h7 p hp
set_option maxHeartbeats 4000000 in
set_option maxRecDepth 100000 in
theorem c_readWay {ad : Nat → Nat} {g : St} {n s : Nat} {c : CT} {A : DR} {F : FP} (hT : TxC g n c) (hs : s ≤ n) (hF : F.1 = 0) (hA : DrC g A) (h0 : 0 < A.1) : Cv 5 mX7_readWay [.ref 3] ad (rs g c F s) (fun g' => QC g n c (clW c A F s) g') := by
  obtain ⟨hwo, hpo, x8, hW, x10, hP⟩ := id hA
  have hnp := hwo.2.1
  have h14 := hwo.1
  have h6 := hpo.1
  have hF4 : F.1 ≤ 4 := by omega
  refine Cm.mk rfl (Nat.le_of_ble_eq_true rfl) (fun K hK hR hm hnn => ?_)
  obtain ⟨s1, e1⟩ : ∃ x, x = nx c s := ⟨_, rfl⟩
  obtain ⟨s2, e2⟩ : ∃ x, x = nx c s1 := ⟨_, rfl⟩
  obtain ⟨s3, e3⟩ : ∃ x, x = nx c s2 := ⟨_, rfl⟩
  obtain ⟨s4, e4⟩ : ∃ x, x = nx c s3 := ⟨_, rfl⟩
  obtain ⟨s5, e5⟩ : ∃ x, x = nx c s4 := ⟨_, rfl⟩
  obtain ⟨F1, q1⟩ : ∃ x, x = seF c F s1 (nI 0) (nI (A.1 - 1)) := ⟨_, rfl⟩
  obtain ⟨F2, q2⟩ : ∃ x, x = seF c F1 s2 (nI 0) (nI (A.1 - 1)) := ⟨_, rfl⟩
  obtain ⟨F3, q3⟩ : ∃ x, x = (if tV c s1 = tV c s2 ∨ jn A.2.1 (tV c s1) (tV c s2) = true then bl F2 4 s2 else F2) := ⟨_, rfl⟩
  obtain ⟨F4, q4⟩ : ∃ x, x = seF c F3 s3 (nI 1) (nI 99) := ⟨_, rfl⟩
  have b1 : s1 ≤ n := by rw [e1]; exact (nx_le hT.1 hs).2
  have b2 : s2 ≤ n := by rw [e2]; exact (nx_le hT.1 b1).2
  have b3 : s3 ≤ n := by rw [e3]; exact (nx_le hT.1 b2).2
  have b4 : s4 ≤ n := by rw [e4]; exact (nx_le hT.1 b3).2
  have b5 : s5 ≤ n := by rw [e5]; exact (nx_le hT.1 b4).2
  have k1 : F1.1 ≤ 4 := by rw [q1]; exact seF_ok hF4
  have k2 : F2.1 ≤ 4 := by rw [q2]; exact seF_ok k1
  have k3 : F3.1 ≤ 4 := by rw [q3]; split; exact bl_ok k2 (by decide); exact k2
  have k4 : F4.1 ≤ 4 := by rw [q4]; exact seF_ok k3
  have hv : F2.1 = 0 → (seV c F1 s1 = nI (tV c s1) ∧ tV c s1 ≤ A.1 - 1) ∧ (seV c F2 s2 = nI (tV c s2) ∧ tV c s2 ≤ A.1 - 1) := fun hz => by
    rw [q2] at hz
    have r2 := se_v (by omega) (by omega) hz
    obtain ⟨-, hz1, -⟩ := seF_0 hz
    rw [q1] at hz1
    have r1 := se_v (by omega) (by omega) hz1
    rw [q2]
    rw [← q1] at r1
    exact ⟨⟨r1.1, r1.2.2⟩, r2.1, r2.2.2⟩
  have hjr : ∀ x y, jnI (rs g c F2 s2) A.2.1.1 x y = jnI g A.2.1.1 x y := fun x y => by unfold jnI; rw [rs_n (by decide), rs_n (by decide)]
  have hF3a : seV c F1 s1 = seV c F2 s2 → bl F2 4 s2 = F3 := fun h => by
    by_cases hz : F2.1 = 0
    · obtain ⟨⟨v1, b1⟩, v2, b2⟩ := hv hz
      rw [v1, v2] at h
      rw [q3, if_pos (Or.inl (nI_inj (by omega) (by omega) h))]
    · rw [q3, bl_st hz, ite_self]
  have hF3b : jnI g A.2.1.1 (seV c F1 s1) (seV c F2 s2) = true → bl F2 4 s2 = F3 := fun h => by
    by_cases hz : F2.1 = 0
    · obtain ⟨⟨v1, b1⟩, v2, b2⟩ := hv hz
      rw [v1, v2, jn_eq hwo hW (by omega) (by omega)] at h
      rw [q3, if_pos (Or.inr h)]
    · rw [q3, bl_st hz, ite_self]
  have hF3c : ¬ seV c F1 s1 = seV c F2 s2 → jnI g A.2.1.1 (seV c F1 s1) (seV c F2 s2) = false → F2 = F3 := fun h h2 => by
    by_cases hz : F2.1 = 0
    · obtain ⟨⟨v1, b1⟩, v2, b2⟩ := hv hz
      rw [v1, v2] at h
      rw [v1, v2, jn_eq hwo hW (by omega) (by omega)] at h2
      rw [q3, if_neg (fun z => z.elim (fun y => h (by rw [y])) (fun y => by rw [h2] at y; cases y))]
    · rw [q3, bl_st hz, ite_self]
  refine r_aload_n (i := 0) hK dX7_readWay_0 rfl rfl ?_
  refine r_getA hK flX7_12 to_3 rfl dX7_readWay_1 ?_
  refine r_getI hK flX7_74 to_4 rfl dX7_readWay_4 ?_
  refine r_top (y := nI A.2.1.1) ((congrFun (rs_n (by decide)) _).trans hW.1) ?_
  refine r_bipush (v := 14) hK dX7_readWay_7 (by decide) ?_
  refine r_icmp_lt (tgt := 18) hK dX7_readWay_9 (by decide) (fun h9 => ?_) (fun h9 => ?_)
  · have hw14 : A.2.1.1 < 14 := by first | exact Nat.lt_of_not_le (fun z => absurd h9 (nI_nlt z (by omega))) | exact Nat.lt_of_not_le (fun z => h9 (nI_le z (by omega)))
    have hcl := clW_g (c := c) (A := A) (F := F) (s := s) (by omega) e1 e2 e3 e4 q1 q2 q3 q4
    have h74 : Wp K 0 0 TT ad (rs g c F3 s2) 74 [(0, .ref 3), (1, .int (seV c F1 s1)), (2, .int (seV c F2 s2))] [] := by
      refine r_aload_n (i := 0) hK dX7_readWay_74 rfl rfl ?_
      refine r_cv0 hK hnn (c_stp hT b2 e3) moX7_step mlX7_38 to_3 rfl rfl dX7_readWay_75 (Nat.le_of_ble_eq_true rfl) (Nat.le_of_ble_eq_true rfl) (eqV ?_)
      refine r_aload_n (i := 0) hK dX7_readWay_78 rfl rfl ?_
      refine r_iconst (v := 1) hK dX7_readWay_79 (by decide) ?_
      refine r_bipush (v := 99) hK dX7_readWay_80 (by decide) ?_
      refine r_ci2 hK hnn (c_tkN hT b3 k3 q4 e4) moX7_takeNumber mlX7_66 to_3 rfl rfl dX7_readWay_82 (Nat.le_of_ble_eq_true rfl) (Nat.le_of_ble_eq_true rfl) (eqI ?_)
      refine r_istore_n (i := 3) hK hm dX7_readWay_85 rfl (by decide) ?_
      refine r_aload_n (i := 0) hK dX7_readWay_86 rfl rfl ?_
      refine r_bipush (v := 59) hK dX7_readWay_87 (by decide) ?_
      refine r_cv1 hK hnn (c_tkS hT b4 k4 rfl (by decide) rfl e5) moX7_takeSign mlX7_70 to_3 rfl rfl dX7_readWay_89 (Nat.le_of_ble_eq_true rfl) (Nat.le_of_ble_eq_true rfl) (eqV ?_)
      refine r_aload_n (i := 0) hK dX7_readWay_92 rfl rfl ?_
      refine r_getA hK flX7_12 to_3 rfl dX7_readWay_93 ?_
      refine r_getA hK flX7_84 to_4 rfl dX7_readWay_96 ?_
      refine r_aload_n (i := 0) hK dX7_readWay_99 rfl rfl ?_
      refine r_getA hK flX7_12 to_3 rfl dX7_readWay_100 ?_
      refine r_getI hK flX7_74 to_4 rfl dX7_readWay_103 ?_
      refine r_top (y := nI A.2.1.1) ((congrFun (rs_n (by decide)) _).trans hW.1) ?_
      refine r_iload_n (i := 1) hK dX7_readWay_106 rfl rfl ?_
      refine r_sv3 hK hnn (c_ptE to_5 (by decide) rfl hw14 rfl) moX9_put mlX7_88 dX7_readWay_107 (Nat.le_of_ble_eq_true rfl) (Nat.le_of_ble_eq_true rfl) (eqV ?_)
      refine r_g (rs_up (by decide)) ?_
      refine r_aload_n (i := 0) hK dX7_readWay_110 rfl rfl ?_
      refine r_getA hK flX7_12 to_3 rfl dX7_readWay_111 ?_
      refine r_getA hK flX7_92 to_4 rfl dX7_readWay_114 ?_
      refine r_aload_n (i := 0) hK dX7_readWay_117 rfl rfl ?_
      refine r_getA hK flX7_12 to_3 rfl dX7_readWay_118 ?_
      refine r_getI hK flX7_74 to_4 rfl dX7_readWay_121 ?_
      refine r_top (y := nI A.2.1.1) ((congrFun ((rs_n (by decide)).trans (upI_n (by decide))) _).trans hW.1) ?_
      refine r_iload_n (i := 2) hK dX7_readWay_124 rfl rfl ?_
      refine r_sv3 hK hnn (c_ptE to_6 (by decide) rfl hw14 rfl) moX9_put mlX7_88 dX7_readWay_125 (Nat.le_of_ble_eq_true rfl) (Nat.le_of_ble_eq_true rfl) (eqV ?_)
      refine r_g (rs_up (by decide)) ?_
      refine r_aload_n (i := 0) hK dX7_readWay_128 rfl rfl ?_
      refine r_getA hK flX7_12 to_3 rfl dX7_readWay_129 ?_
      refine r_getA hK flX7_95 to_4 rfl dX7_readWay_132 ?_
      refine r_aload_n (i := 0) hK dX7_readWay_135 rfl rfl ?_
      refine r_getA hK flX7_12 to_3 rfl dX7_readWay_136 ?_
      refine r_getI hK flX7_74 to_4 rfl dX7_readWay_139 ?_
      refine r_top (y := nI A.2.1.1) ((congrFun ((rs_n (by decide)).trans ((upI_n (by decide)).trans (upI_n (by decide)))) _).trans hW.1) ?_
      refine r_iload_n (i := 3) hK dX7_readWay_142 rfl rfl ?_
      refine r_sv3 hK hnn (c_ptE to_7 (by decide) rfl hw14 rfl) moX9_put mlX7_88 dX7_readWay_143 (Nat.le_of_ble_eq_true rfl) (Nat.le_of_ble_eq_true rfl) (eqV ?_)
      refine r_g (rs_up (by decide)) ?_
      refine r_aload_n (i := 0) hK dX7_readWay_146 rfl rfl ?_
      refine r_getA hK flX7_12 to_3 rfl dX7_readWay_147 ?_
      refine r_dup hK dX7_readWay_150 rfl ?_
      refine r_getI hK flX7_74 to_4 rfl dX7_readWay_151 ?_
      refine r_top (y := nI A.2.1.1) ((congrFun ((rs_n (by decide)).trans ((upI_n (by decide)).trans ((upI_n (by decide)).trans (upI_n (by decide))))) _).trans hW.1) ?_
      refine r_iconst (v := 1) hK dX7_readWay_154 (by decide) ?_
      refine r_iadd hK dX7_readWay_155 ?_
      refine r_top (y := nI (A.2.1.1 + 1)) (nI_succ _).symm ?_
      refine r_putI hK flX7_74 ft4_9 to_4 rfl dX7_readWay_156 ?_
      refine r_g (rs_up (by decide)) ?_
      refine q_vret hK hR dX7_readWay_159 ?_
      rw [hcl]
      refine ⟨_, _, b5, ?_, rfl, fun hz5 => ⟨e5, ?_⟩⟩
      · exact (((Kp.rf.up (by decide) (by decide)).up (by decide) (by decide)).up (by decide) (by decide)).up (by decide) (by decide)
      obtain ⟨-, hz4, -⟩ := sgF_0 hz5
      rw [q4] at hz4
      obtain ⟨v5, v6, v7⟩ := se_v (hi := 99) (lo := 1) (by decide) (by decide) hz4
      obtain ⟨-, hz3, -⟩ := seF_0 hz4
      have hno : ¬ (tV c s1 = tV c s2 ∨ jn A.2.1 (tV c s1) (tV c s2) = true) := fun z => by rw [q3, if_pos z] at hz3; exact absurd hz3 (bl_n (by decide))
      have hz2 : F2.1 = 0 := by rw [q3, if_neg hno] at hz3; exact hz3
      obtain ⟨⟨v1, v2⟩, v3, v4⟩ := hv hz2
      exact DrC_way hA hw14 (by omega) (by omega) (fun z => hno (Or.inl z)) v6 v7 v1 v3 (by rw [q4]; exact v5)
    refine r_aload_n (i := 0) hK dX7_readWay_18 rfl rfl ?_
    refine r_cv0 hK hnn (c_stp hT hs e1) moX7_step mlX7_38 to_3 rfl rfl dX7_readWay_19 (Nat.le_of_ble_eq_true rfl) (Nat.le_of_ble_eq_true rfl) (eqV ?_)
    refine r_aload_n (i := 0) hK dX7_readWay_22 rfl rfl ?_
    refine r_iconst (v := 0) hK dX7_readWay_23 (by decide) ?_
    refine r_aload_n (i := 0) hK dX7_readWay_24 rfl rfl ?_
    refine r_getA hK flX7_12 to_3 rfl dX7_readWay_25 ?_
    refine r_getI hK flX7_50 to_4 rfl dX7_readWay_28 ?_
    refine r_top (y := nI A.1) ((congrFun (rs_n (by decide)) _).trans x8) ?_
    refine r_iconst (v := 1) hK dX7_readWay_31 (by decide) ?_
    refine r_isub hK dX7_readWay_32 ?_
    refine r_top (y := nI (A.1 - 1)) (pk_sub (a := A.1) (b := 1) h0) ?_
    refine r_ci2 hK hnn (c_tkN hT b1 hF4 q1 e2) moX7_takeNumber mlX7_66 to_3 rfl rfl dX7_readWay_33 (Nat.le_of_ble_eq_true rfl) (Nat.le_of_ble_eq_true rfl) (eqI ?_)
    refine r_istore_n (i := 1) hK hm dX7_readWay_36 rfl (by decide) ?_
    refine r_aload_n (i := 0) hK dX7_readWay_37 rfl rfl ?_
    refine r_iconst (v := 0) hK dX7_readWay_38 (by decide) ?_
    refine r_aload_n (i := 0) hK dX7_readWay_39 rfl rfl ?_
    refine r_getA hK flX7_12 to_3 rfl dX7_readWay_40 ?_
    refine r_getI hK flX7_50 to_4 rfl dX7_readWay_43 ?_
    refine r_top (y := nI A.1) ((congrFun (rs_n (by decide)) _).trans x8) ?_
    refine r_iconst (v := 1) hK dX7_readWay_46 (by decide) ?_
    refine r_isub hK dX7_readWay_47 ?_
    refine r_top (y := nI (A.1 - 1)) (pk_sub (a := A.1) (b := 1) h0) ?_
    refine r_ci2 hK hnn (c_seN hT b2 k1 q2) moX7_seeNumber mlX7_77 to_3 rfl rfl dX7_readWay_48 (Nat.le_of_ble_eq_true rfl) (Nat.le_of_ble_eq_true rfl) (eqI ?_)
    refine r_istore_n (i := 2) hK hm dX7_readWay_51 rfl (by decide) ?_
    refine r_iload_n (i := 1) hK dX7_readWay_52 rfl rfl ?_
    refine r_iload_n (i := 2) hK dX7_readWay_53 rfl rfl ?_
    refine r_icmp_eq (tgt := 69) hK dX7_readWay_54 (by decide) (fun h54 => ?_) (fun h54 => ?_)
    · refine r_aload_n (i := 0) hK dX7_readWay_69 rfl rfl ?_
      refine r_iconst (v := 4) hK dX7_readWay_70 (by decide) ?_
      refine r_cv1 hK hnn (c_blame k2 rfl (by decide)) moX7_blame mlX7_62 to_3 rfl rfl dX7_readWay_71 (Nat.le_of_ble_eq_true rfl) (Nat.le_of_ble_eq_true rfl) (eqV ?_)
      first
        | (rw [hF3a h54]; refine r_loc ?_ h74; rfl)
        | (rw [hF3b (by rw [← hjr]; exact B1_n.mp h66)]; refine r_loc ?_ h74; rfl)
        | (refine r_g (congrArg (fun z => rs g c z s2) (hF3c h54 (by rw [← hjr]; exact B1_0.mp h66))) ?_; refine r_loc ?_ h74; rfl)
    · refine r_aload_n (i := 0) hK dX7_readWay_57 rfl rfl ?_
      refine r_getA hK flX7_12 to_3 rfl dX7_readWay_58 ?_
      refine r_iload_n (i := 1) hK dX7_readWay_61 rfl rfl ?_
      refine r_iload_n (i := 2) hK dX7_readWay_62 rfl rfl ?_
      refine r_ci2 hK hnn (c_areJoined (k := A.2.1.1) ((congrFun (rs_n (by decide)) _).trans hW.1) h14) moX4_areJoined mlX7_80 to_4 rfl rfl dX7_readWay_63 (Nat.le_of_ble_eq_true rfl) (Nat.le_of_ble_eq_true rfl) (eqI ?_)
      refine r_if_eq (tgt := 74) hK dX7_readWay_66 (by decide) (fun h66 => ?_) (fun h66 => ?_)
      · first
          | (rw [hF3a h54]; refine r_loc ?_ h74; rfl)
          | (rw [hF3b (by rw [← hjr]; exact B1_n.mp h66)]; refine r_loc ?_ h74; rfl)
          | (refine r_g (congrArg (fun z => rs g c z s2) (hF3c h54 (by rw [← hjr]; exact B1_0.mp h66))) ?_; refine r_loc ?_ h74; rfl)
      · refine r_aload_n (i := 0) hK dX7_readWay_69 rfl rfl ?_
        refine r_iconst (v := 4) hK dX7_readWay_70 (by decide) ?_
        refine r_cv1 hK hnn (c_blame k2 rfl (by decide)) moX7_blame mlX7_62 to_3 rfl rfl dX7_readWay_71 (Nat.le_of_ble_eq_true rfl) (Nat.le_of_ble_eq_true rfl) (eqV ?_)
        first
          | (rw [hF3a h54]; refine r_loc ?_ h74; rfl)
          | (rw [hF3b (by rw [← hjr]; exact B1_n.mp h66)]; refine r_loc ?_ h74; rfl)
          | (refine r_g (congrArg (fun z => rs g c z s2) (hF3c h54 (by rw [← hjr]; exact B1_0.mp h66))) ?_; refine r_loc ?_ h74; rfl)
  · refine r_aload_n (i := 0) hK dX7_readWay_12 rfl rfl ?_
    refine r_iconst (v := 3) hK dX7_readWay_13 (by decide) ?_
    refine r_cv1 hK hnn (c_blame hF4 rfl (by decide)) moX7_blame mlX7_62 to_3 rfl rfl dX7_readWay_14 (Nat.le_of_ble_eq_true rfl) (Nat.le_of_ble_eq_true rfl) (eqV ?_)
    refine q_vret hK hR dX7_readWay_17 ?_
    have hc : clW c A F s = (A, bl F 3 s, s) := by unfold clW; rw [if_pos (Nat.le_of_not_lt (fun z => h9 (nI_lt z (by decide))))]
    rw [hc]
    exact ⟨g, s, hs, Kp.rf, rfl, fun z => absurd z (bl_n (by decide))⟩
