/-! THE MODEL: its land -/
theorem r_ialN {K : KT} {n1 n2 : Nat} {T : List TC} {ad : Nat → Nat} {g : St} {pc : Nat} {lv : List (Nat × Value)} {st : List Value} {own : String} {cc : ByteArray} {d : Nat} (hK : Cx K own cc d ad) {o n w : Nat} {rs : List Nat} {i : Int32} {y : Int32} (ho : T[o]? = some (.inr (0, n, rs))) (hi : i = nI w) (hw : w < n) (hn : n < 2 ^ 31) (hv : g.1 o w = y) (hd : decode cc pc = .ok (.iaload, 1)) (k : Wp K n1 n2 T ad g (pc + 1) lv (.int y :: st)) : Wp K n1 n2 T ad g pc lv (.int i :: .ref o :: st) := by
  subst hi; subst hv
  refine r_iald hK ho (vp_in_nI hw hn) hd ?_
  rw [nI_clamp (by omega)]
  exact k
theorem r_zalN {K : KT} {n1 n2 : Nat} {T : List TC} {ad : Nat → Nat} {g : St} {pc : Nat} {lv : List (Nat × Value)} {st : List Value} {own : String} {cc : ByteArray} {d : Nat} (hK : Cx K own cc d ad) {o n w : Nat} {rs : List Nat} {i : Int32} {y : Int32} (ho : T[o]? = some (.inr (2, n, rs))) (hi : i = nI w) (hw : w < n) (hn : n < 2 ^ 31) (hv : g.1 o w = y) (hd : decode cc pc = .ok (.baload, 1)) (k : Wp K n1 n2 T ad g (pc + 1) lv (.int y :: st)) : Wp K n1 n2 T ad g pc lv (.int i :: .ref o :: st) := by
  subst hi; subst hv
  refine r_zald hK ho (vp_in_nI hw hn) hd ?_
  rw [nI_clamp (by omega)]
  exact k
theorem r_lalN {K : KT} {n1 n2 : Nat} {T : List TC} {ad : Nat → Nat} {g : St} {pc : Nat} {lv : List (Nat × Value)} {st : List Value} {own : String} {cc : ByteArray} {d : Nat} (hK : Cx K own cc d ad) {o n w : Nat} {rs : List Nat} {i : Int32} {y : Int64} (ho : T[o]? = some (.inr (1, n, rs))) (hi : i = nI w) (hw : w < n) (hn : n < 2 ^ 31) (hv : g.2 o w = y) (hd : decode cc pc = .ok (.laload, 1)) (k : Wp K n1 n2 T ad g (pc + 1) lv (.long y :: st)) : Wp K n1 n2 T ad g pc lv (.int i :: .ref o :: st) := by
  subst hi; subst hv
  refine r_lald hK ho (vp_in_nI hw hn) hd ?_
  rw [nI_clamp (by omega)]
  exact k
theorem r_iasN {K : KT} {n1 n2 : Nat} {T : List TC} {ad : Nat → Nat} {g : St} {pc : Nat} {lv : List (Nat × Value)} {st : List Value} {own : String} {cc : ByteArray} {d : Nat} (hK : Cx K own cc d ad) {o n w : Nat} {rs : List Nat} {i : Int32} {x : Int32} (ho : T[o]? = some (.inr (0, n, rs))) (hi : i = nI w) (hw : w < n) (hn : n < 2 ^ 31) (hd : decode cc pc = .ok (.iastore, 1)) (k : Wp K n1 n2 T ad (upI g o w x) (pc + 1) lv st) : Wp K n1 n2 T ad g pc lv (.int x :: .int i :: .ref o :: st) := by
  subst hi
  refine r_iast hK ho (vp_in_nI hw hn) hd ?_
  rw [nI_clamp (by omega)]
  exact k
theorem r_zasN {K : KT} {n1 n2 : Nat} {T : List TC} {ad : Nat → Nat} {g : St} {pc : Nat} {lv : List (Nat × Value)} {st : List Value} {own : String} {cc : ByteArray} {d : Nat} (hK : Cx K own cc d ad) {o n w : Nat} {rs : List Nat} {i : Int32} {x : Int32} (ho : T[o]? = some (.inr (2, n, rs))) (hi : i = nI w) (hw : w < n) (hn : n < 2 ^ 31) (hx : vp_nar .boolean x = x) (hd : decode cc pc = .ok (.bastore, 1)) (k : Wp K n1 n2 T ad (upI g o w x) (pc + 1) lv st) : Wp K n1 n2 T ad g pc lv (.int x :: .int i :: .ref o :: st) := by
  subst hi
  refine r_zast hK ho (vp_in_nI hw hn) hx hd ?_
  rw [nI_clamp (by omega)]
  exact k
theorem r_lasN {K : KT} {n1 n2 : Nat} {T : List TC} {ad : Nat → Nat} {g : St} {pc : Nat} {lv : List (Nat × Value)} {st : List Value} {own : String} {cc : ByteArray} {d : Nat} (hK : Cx K own cc d ad) {o n w : Nat} {rs : List Nat} {i : Int32} {x : Int64} (ho : T[o]? = some (.inr (1, n, rs))) (hi : i = nI w) (hw : w < n) (hn : n < 2 ^ 31) (hd : decode cc pc = .ok (.lastore, 1)) (k : Wp K n1 n2 T ad (upL g o w x) (pc + 1) lv st) : Wp K n1 n2 T ad g pc lv (.long x :: .int i :: .ref o :: st) := by
  subst hi
  refine r_last hK ho (vp_in_nI hw hn) hd ?_
  rw [nI_clamp (by omega)]
  exact k
/-- the land as the model has it -/
def MWC (g : St) (D : WD) : Prop := g.1 91 1 = nI D.1 ∧ ∀ w, w < D.1 → g.1 92 w = nI (D.2.1 w) ∧ g.1 93 w = nI (D.2.2.1 w) ∧ g.1 94 w = nI (D.2.2.2 w)
def MPC (g : St) (P : PD) (ha kn : Nat → Nat) : Prop := g.1 91 5 = nI P.1 ∧ ∀ p, p < P.1 → g.1 95 p = nI (P.2.1 p) ∧ g.1 96 p = nI (P.2.2.1 p) ∧ g.1 97 p = nI (P.2.2.2 p) ∧ g.1 98 p = nI (ha p) ∧ g.1 99 p = nI (kn p)
def MC (g : St) (X : LN) : Prop := wOk X.1 X.2.1 ∧ pOk X.1 X.2.2.1 X.2.2.2.1 X.2.2.2.2.1 ∧ X.2.2.2.2.2 ≤ 3 ∧ g.1 91 0 = nI X.1 ∧ MWC g X.2.1 ∧ MPC g X.2.2.1 X.2.2.2.1 X.2.2.2.2.1 ∧ g.1 91 11 = nI X.2.2.2.2.2
/-- what a question to the model leaves as it was -/
def mScr (k : Nat) : Bool := k == 33 || k == 36 || k == 44
def FM (g g' : St) : Prop := (∀ j, (j ≤ 90 ∨ (92 ≤ j ∧ j ≤ 108) ∨ 119 ≤ j) → g'.1 j = g.1 j) ∧ (∀ k, mScr k = false → g'.1 91 k = g.1 91 k) ∧ ∀ j, j ≠ 118 → g'.2 j = g.2 j
theorem FM.rf {g : St} : FM g g := ⟨fun _ _ => rfl, fun _ _ => rfl, fun _ _ => rfl⟩
theorem FM.tr {g g' g2 : St} (h : FM g g') (h2 : FM g' g2) : FM g g2 := ⟨fun j hj => (h2.1 j hj).trans (h.1 j hj), fun k hk => (h2.2.1 k hk).trans (h.2.1 k hk), fun j hj => (h2.2.2 j hj).trans (h.2.2 j hj)⟩
theorem FM.up {g g' : St} {j k : Nat} {x : Int32} (h : FM g g') (hj : 109 ≤ j) (hj2 : j ≤ 118) : FM g (upI g' j k x) := ⟨fun i hi => (upI_n (by omega)).trans (h.1 i hi), fun i hi => (congrFun (upI_n (by omega)) i).trans (h.2.1 i hi), h.2.2⟩
theorem FM.fl {g g' : St} {k : Nat} {x : Int32} (h : FM g g') (hk : mScr k = true) : FM g (upI g' 91 k x) := ⟨fun i hi => (upI_n (by omega)).trans (h.1 i hi), fun i hi => (upd_n2 (fun z => by rw [z, hk] at hi; cases hi)).trans (h.2.1 i hi), h.2.2⟩
theorem FM.upR {g g' : St} {j : Nat} {f : Nat → Int32} (h : FM g g') (hj : 109 ≤ j) (hj2 : j ≤ 118) : FM g (upR g' j f) := ⟨fun i hi => (upR_n (by omega)).trans (h.1 i hi), fun i hi => (congrFun (upR_n (by omega)) i).trans (h.2.1 i hi), h.2.2⟩
theorem MWC_of {g g' : St} {D : WD} (h : MWC g D) (hf : FM g g') : MWC g' D := by
  unfold MWC at *
  rw [hf.2.1 1 rfl, hf.1 92 (by omega), hf.1 93 (by omega), hf.1 94 (by omega)]
  exact h
theorem MPC_of {g g' : St} {P : PD} {ha kn : Nat → Nat} (h : MPC g P ha kn) (hf : FM g g') : MPC g' P ha kn := by
  unfold MPC at *
  rw [hf.2.1 5 rfl, hf.1 95 (by omega), hf.1 96 (by omega), hf.1 97 (by omega), hf.1 98 (by omega), hf.1 99 (by omega)]
  exact h
theorem MC_of {g g' : St} {X : LN} (h : MC g X) (hf : FM g g') : MC g' X := by
  obtain ⟨h1, h2, h3, h4, h5, h6, h7⟩ := h
  exact ⟨h1, h2, h3, by rw [hf.2.1 0 rfl]; exact h4, MWC_of h5 hf, MPC_of h6 hf, by rw [hf.2.1 11 rfl]; exact h7⟩
def inL (v lo hi : Int64) : Bool := decide (lo ≤ v) && decide (v ≤ hi)
def bI (x lo hi : Int32) : Bool := !decide (x < lo) && !decide (hi < x)
theorem wd_le (a b : Int32) : a.toInt64 ≤ b.toInt64 ↔ a ≤ b := by
  rw [Int64.le_iff_toInt_le, Int32.le_iff_toInt_le, Int32.toInt_toInt64, Int32.toInt_toInt64]
theorem inL_b {x : Int32} {lo hi : Int64} {lI hI : Int32} (e : lo = lI.toInt64) (e2 : hi = hI.toInt64) : inL x.toInt64 lo hi = bI x lI hI := by
  subst e; subst e2
  unfold inL bI
  have e1 : decide (lI.toInt64 ≤ x.toInt64) = !decide (x < lI) := by rw [← decide_not]; exact decide_eq_decide.mpr ((wd_le lI x).trans Int32.not_lt.symm)
  have e2 : decide (x.toInt64 ≤ hI.toInt64) = !decide (hI < x) := by rw [← decide_not]; exact decide_eq_decide.mpr ((wd_le x hI).trans Int32.not_lt.symm)
  rw [e1, e2]
theorem bI_t {x lo hi : Int32} : bI x lo hi = true ↔ ¬ (x < lo ∨ hi < x) := by
  unfold bI
  simp only [Bool.and_eq_true, Bool.not_eq_true', decide_eq_false_iff_not, not_or]
theorem bI_f {x lo hi : Int32} : bI x lo hi = false ↔ (x < lo ∨ hi < x) := by
  rw [← Bool.not_eq_true, bI_t, Classical.not_not]
theorem bI_B {x : Int32} {n : Nat} (hn : n < 2 ^ 31) : bI x 0 (nI n - 1) = isB x n := by
  unfold bI isB
  congr 1
  rw [← decide_not]
  apply decide_eq_decide.mpr
  rw [Int32.not_lt]
  have e : (nI n - 1 : Int32).toInt = (n : Int) - 1 := by
    rcases Nat.eq_zero_or_pos n with z | z
    · subst z; decide
    · rw [show (nI n - 1 : Int32) = nI (n - 1) from pk_sub (a := n) (b := 1) z, nI_toInt (by omega)]; omega
  rw [Int32.le_iff_toInt_le, Int32.lt_iff_toInt_lt, e, nI_toInt hn]
  omega

set_option maxHeartbeats 4000000 in
set_option maxRecDepth 100000 in
theorem c_mIn {ad : Nat → Nat} {g : St} {x y z : Int64} : Ci 1 mX10_in [.long x, .long y, .long z] ad g (fun v g' => v = B1 (inL x y z) ∧ g' = g) := by
  refine Cm.mk rfl (Nat.le_of_ble_eq_true rfl) (fun K hK hR hm hnn => ?_)
  refine r_lload_n (i := 0) hK dX10_in_0 rfl rfl ?_
  refine r_lload_n (i := 2) hK dX10_in_1 rfl rfl ?_
  refine r_lcmp hK dX10_in_2 ?_
  refine r_if_lt (tgt := 17) hK dX10_in_3 (by decide) (fun h3 => ?_) (fun h3 => ?_)
  · refine r_iconst (v := 0) hK dX10_in_17 (by decide) ?_
    refine q_zret hK hR dX10_in_18 (by first | exact Or.inl rfl | exact Or.inr rfl | assumption) ?_
    refine ⟨?_, rfl⟩
    unfold inL
    first
      | (rw [decide_eq_false (fun q => absurd ((lg_cmp_lt _ _).mp h3) (Int64.not_lt.mpr q))]; rfl)
      | (rw [decide_eq_false (fun q => absurd ((lg_cmp_gt _ _).mp h10) (Int64.not_lt.mpr q)), Bool.and_false]; rfl)
      | (rw [decide_eq_true (Int64.not_lt.mp (fun q => h3 ((lg_cmp_lt _ _).mpr q))), decide_eq_true (Int64.not_lt.mp (fun q => h10 ((lg_cmp_gt _ _).mpr q)))]; rfl)
  · refine r_lload_n (i := 0) hK dX10_in_6 rfl rfl ?_
    refine r_lload (i := 4) hK dX10_in_7 rfl ?_
    refine r_lcmp hK dX10_in_9 ?_
    refine r_if_gt (tgt := 17) hK dX10_in_10 (by decide) (fun h10 => ?_) (fun h10 => ?_)
    · refine r_iconst (v := 0) hK dX10_in_17 (by decide) ?_
      refine q_zret hK hR dX10_in_18 (by first | exact Or.inl rfl | exact Or.inr rfl | assumption) ?_
      refine ⟨?_, rfl⟩
      unfold inL
      first
        | (rw [decide_eq_false (fun q => absurd ((lg_cmp_lt _ _).mp h3) (Int64.not_lt.mpr q))]; rfl)
        | (rw [decide_eq_false (fun q => absurd ((lg_cmp_gt _ _).mp h10) (Int64.not_lt.mpr q)), Bool.and_false]; rfl)
        | (rw [decide_eq_true (Int64.not_lt.mp (fun q => h3 ((lg_cmp_lt _ _).mpr q))), decide_eq_true (Int64.not_lt.mp (fun q => h10 ((lg_cmp_gt _ _).mpr q)))]; rfl)
    · refine r_iconst (v := 1) hK dX10_in_13 (by decide) ?_
      refine r_goto (tgt := 18) hK dX10_in_14 (by decide) ?_
      refine q_zret hK hR dX10_in_18 (by first | exact Or.inl rfl | exact Or.inr rfl | assumption) ?_
      refine ⟨?_, rfl⟩
      unfold inL
      first
        | (rw [decide_eq_false (fun q => absurd ((lg_cmp_lt _ _).mp h3) (Int64.not_lt.mpr q))]; rfl)
        | (rw [decide_eq_false (fun q => absurd ((lg_cmp_gt _ _).mp h10) (Int64.not_lt.mpr q)), Bool.and_false]; rfl)
        | (rw [decide_eq_true (Int64.not_lt.mp (fun q => h3 ((lg_cmp_lt _ _).mpr q))), decide_eq_true (Int64.not_lt.mp (fun q => h10 ((lg_cmp_gt _ _).mpr q)))]; rfl)
set_option maxHeartbeats 4000000 in
set_option maxRecDepth 100000 in
theorem c_mHas {ad : Nat → Nat} {g : St} {s w : Nat} {x y : Int32} (hx : x = nI s) (hs : s < 2 ^ 31) (hy : y = nI w) (hw : w < 31) : Ci 1 mX10_has [.int x, .int y] ad g (fun v g' => v = B1 (s.testBit w) ∧ g' = g) := by
  subst hx; subst hy
  refine Cm.mk rfl (Nat.le_of_ble_eq_true rfl) (fun K hK hR hm hnn => ?_)
  refine r_iload_n (i := 0) hK dX10_has_0 rfl rfl ?_
  refine r_iload_n (i := 1) hK dX10_has_1 rfl rfl ?_
  refine r_ishr hK dX10_has_2 ?_
  refine r_iconst (v := 1) hK dX10_has_3 (by decide) ?_
  refine r_iand hK dX10_has_4 ?_
  refine r_iconst (v := 1) hK dX10_has_5 (by decide) ?_
  refine r_icmp_ne (tgt := 13) hK dX10_has_6 (by decide) (fun h6 => ?_) (fun h6 => ?_)
  · refine r_iconst (v := 0) hK dX10_has_13 (by decide) ?_
    refine q_zret hK hR dX10_has_14 (by first | exact Or.inl rfl | exact Or.inr rfl | assumption) ?_
    refine ⟨?_, rfl⟩
    rw [tb_iff hs hw] at h6
    first
      | (rw [h6]; rfl)
      | (rw [Bool.not_eq_true] at h6; rw [h6]; rfl)
  · refine r_iconst (v := 1) hK dX10_has_9 (by decide) ?_
    refine r_goto (tgt := 14) hK dX10_has_10 (by decide) ?_
    refine q_zret hK hR dX10_has_14 (by first | exact Or.inl rfl | exact Or.inr rfl | assumption) ?_
    refine ⟨?_, rfl⟩
    rw [tb_iff hs hw] at h6
    first
      | (rw [h6]; rfl)
      | (rw [Bool.not_eq_true] at h6; rw [h6]; rfl)
set_option maxHeartbeats 4000000 in
set_option maxRecDepth 100000 in
theorem c_misPlace {ad : Nat → Nat} {g : St} {n : Nat} {x : Int32} (hn : g.1 91 0 = nI n) (hn2 : n < 2 ^ 31) : Ci 2 mX10_isPlace [.ref 91, .int x] ad g (fun v g' => v = B1 (isB x n) ∧ g' = g) := by
  refine Cm.mk rfl (Nat.le_of_ble_eq_true rfl) (fun K hK hR hm hnn => ?_)
  refine r_iload_n (i := 1) hK dX10_isPlace_0 rfl rfl ?_
  refine r_i2l hK dX10_isPlace_1 ?_
  refine r_lconst (v := 0) hK dX10_isPlace_2 (by decide) ?_
  refine r_aload_n (i := 0) hK dX10_isPlace_3 rfl rfl ?_
  refine r_getI hK flX10_121 to_91 rfl dX10_isPlace_4 ?_
  refine r_top (y := nI n) hn ?_
  refine r_iconst (v := 1) hK dX10_isPlace_7 (by decide) ?_
  refine r_isub hK dX10_isPlace_8 ?_
  refine r_i2l hK dX10_isPlace_9 ?_
  refine r_si3 hK hnn c_mIn moX10_in mlX10_124 dX10_isPlace_10 (Nat.le_of_ble_eq_true rfl) (Nat.le_of_ble_eq_true rfl) (eqI ?_)
  refine r_top (y := B1 (isB x n)) (congrArg B1 ((inL_b (lI := 0) (hI := nI n - 1) rfl rfl).trans (bI_B hn2))) ?_
  refine q_zret hK hR dX10_isPlace_13 (B1_01 _) ?_
  exact ⟨rfl, rfl⟩
set_option maxHeartbeats 4000000 in
set_option maxRecDepth 100000 in
theorem c_misWay {ad : Nat → Nat} {g : St} {n : Nat} {x : Int32} (hn : g.1 91 1 = nI n) (hn2 : n < 2 ^ 31) : Ci 2 mX10_isWay [.ref 91, .int x] ad g (fun v g' => v = B1 (isB x n) ∧ g' = g) := by
  refine Cm.mk rfl (Nat.le_of_ble_eq_true rfl) (fun K hK hR hm hnn => ?_)
  refine r_iload_n (i := 1) hK dX10_isWay_0 rfl rfl ?_
  refine r_i2l hK dX10_isWay_1 ?_
  refine r_lconst (v := 0) hK dX10_isWay_2 (by decide) ?_
  refine r_aload_n (i := 0) hK dX10_isWay_3 rfl rfl ?_
  refine r_getI hK flX10_128 to_91 rfl dX10_isWay_4 ?_
  refine r_top (y := nI n) hn ?_
  refine r_iconst (v := 1) hK dX10_isWay_7 (by decide) ?_
  refine r_isub hK dX10_isWay_8 ?_
  refine r_i2l hK dX10_isWay_9 ?_
  refine r_si3 hK hnn c_mIn moX10_in mlX10_124 dX10_isWay_10 (Nat.le_of_ble_eq_true rfl) (Nat.le_of_ble_eq_true rfl) (eqI ?_)
  refine r_top (y := B1 (isB x n)) (congrArg B1 ((inL_b (lI := 0) (hI := nI n - 1) rfl rfl).trans (bI_B hn2))) ?_
  refine q_zret hK hR dX10_isWay_13 (B1_01 _) ?_
  exact ⟨rfl, rfl⟩
set_option maxHeartbeats 4000000 in
set_option maxRecDepth 100000 in
theorem c_misPerson {ad : Nat → Nat} {g : St} {n : Nat} {x : Int32} (hn : g.1 91 5 = nI n) (hn2 : n < 2 ^ 31) : Ci 2 mX10_isPerson [.ref 91, .int x] ad g (fun v g' => v = B1 (isB x n) ∧ g' = g) := by
  refine Cm.mk rfl (Nat.le_of_ble_eq_true rfl) (fun K hK hR hm hnn => ?_)
  refine r_iload_n (i := 1) hK dX10_isPerson_0 rfl rfl ?_
  refine r_i2l hK dX10_isPerson_1 ?_
  refine r_lconst (v := 0) hK dX10_isPerson_2 (by decide) ?_
  refine r_aload_n (i := 0) hK dX10_isPerson_3 rfl rfl ?_
  refine r_getI hK flX10_131 to_91 rfl dX10_isPerson_4 ?_
  refine r_top (y := nI n) hn ?_
  refine r_iconst (v := 1) hK dX10_isPerson_7 (by decide) ?_
  refine r_isub hK dX10_isPerson_8 ?_
  refine r_i2l hK dX10_isPerson_9 ?_
  refine r_si3 hK hnn c_mIn moX10_in mlX10_124 dX10_isPerson_10 (Nat.le_of_ble_eq_true rfl) (Nat.le_of_ble_eq_true rfl) (eqI ?_)
  refine r_top (y := B1 (isB x n)) (congrArg B1 ((inL_b (lI := 0) (hI := nI n - 1) rfl rfl).trans (bI_B hn2))) ?_
  refine q_zret hK hR dX10_isPerson_13 (B1_01 _) ?_
  exact ⟨rfl, rfl⟩
set_option maxHeartbeats 4000000 in
set_option maxRecDepth 100000 in
theorem c_misAsked {ad : Nat → Nat} {g : St} {X : LN} (hX : MC g X) {p a t : Int32} : Ci 3 mX10_isAsked [.ref 91, .int p, .int a, .int t] ad g (fun v g' => v = B1 (kA X p a t) ∧ g' = g) := by
  obtain ⟨hok, hpo, hlaw, x1, hW, hPs, x4⟩ := id hX
  have h10 := hok.2.1
  have h6 := hpo.1
  have h14 := hok.1
  refine Cm.mk rfl (Nat.le_of_ble_eq_true rfl) (fun K hK hR hm hnn => ?_)
  refine r_aload_n (i := 0) hK dX10_isAsked_0 rfl rfl ?_
  refine r_iload_n (i := 1) hK dX10_isAsked_1 rfl rfl ?_
  refine r_ci1 hK hnn (c_misPerson hPs.1 (by omega)) moX10_isPerson mlX10_243 to_91 rfl rfl dX10_isAsked_2 (Nat.le_of_ble_eq_true rfl) (Nat.le_of_ble_eq_true rfl) (eqI ?_)
  refine r_if_eq (tgt := 28) hK dX10_isAsked_5 (by decide) (fun h5 => ?_) (fun h5 => ?_)
  · refine r_iconst (v := 0) hK dX10_isAsked_28 (by decide) ?_
    refine q_zret hK hR dX10_isAsked_29 (by first | exact Or.inl rfl | exact Or.inr rfl | assumption) ?_
    refine ⟨?_, rfl⟩
    unfold kA
    first
      | (rw [B1_0.mp h5]; rfl)
      | (rw [B1_0.mp h13]; simp; done)
      | (rw [B1_n.mp h5, B1_n.mp h13, B1_0.mp h21]; rfl)
      | (rw [B1_n.mp h5, B1_n.mp h13, B1_n.mp h21]; rfl)
  · refine r_aload_n (i := 0) hK dX10_isAsked_8 rfl rfl ?_
    refine r_iload_n (i := 2) hK dX10_isAsked_9 rfl rfl ?_
    refine r_ci1 hK hnn (c_misPlace x1 (by omega)) moX10_isPlace mlX10_256 to_91 rfl rfl dX10_isAsked_10 (Nat.le_of_ble_eq_true rfl) (Nat.le_of_ble_eq_true rfl) (eqI ?_)
    refine r_if_eq (tgt := 28) hK dX10_isAsked_13 (by decide) (fun h13 => ?_) (fun h13 => ?_)
    · refine r_iconst (v := 0) hK dX10_isAsked_28 (by decide) ?_
      refine q_zret hK hR dX10_isAsked_29 (by first | exact Or.inl rfl | exact Or.inr rfl | assumption) ?_
      refine ⟨?_, rfl⟩
      unfold kA
      first
        | (rw [B1_0.mp h5]; rfl)
        | (rw [B1_0.mp h13]; simp; done)
        | (rw [B1_n.mp h5, B1_n.mp h13, B1_0.mp h21]; rfl)
        | (rw [B1_n.mp h5, B1_n.mp h13, B1_n.mp h21]; rfl)
    · refine r_aload_n (i := 0) hK dX10_isAsked_16 rfl rfl ?_
      refine r_iload_n (i := 3) hK dX10_isAsked_17 rfl rfl ?_
      refine r_ci1 hK hnn (c_misPlace x1 (by omega)) moX10_isPlace mlX10_256 to_91 rfl rfl dX10_isAsked_18 (Nat.le_of_ble_eq_true rfl) (Nat.le_of_ble_eq_true rfl) (eqI ?_)
      refine r_if_eq (tgt := 28) hK dX10_isAsked_21 (by decide) (fun h21 => ?_) (fun h21 => ?_)
      · refine r_iconst (v := 0) hK dX10_isAsked_28 (by decide) ?_
        refine q_zret hK hR dX10_isAsked_29 (by first | exact Or.inl rfl | exact Or.inr rfl | assumption) ?_
        refine ⟨?_, rfl⟩
        unfold kA
        first
          | (rw [B1_0.mp h5]; rfl)
          | (rw [B1_0.mp h13]; simp; done)
          | (rw [B1_n.mp h5, B1_n.mp h13, B1_0.mp h21]; rfl)
          | (rw [B1_n.mp h5, B1_n.mp h13, B1_n.mp h21]; rfl)
      · refine r_iconst (v := 1) hK dX10_isAsked_24 (by decide) ?_
        refine r_goto (tgt := 29) hK dX10_isAsked_25 (by decide) ?_
        refine q_zret hK hR dX10_isAsked_29 (by first | exact Or.inl rfl | exact Or.inr rfl | assumption) ?_
        refine ⟨?_, rfl⟩
        unfold kA
        first
          | (rw [B1_0.mp h5]; rfl)
          | (rw [B1_0.mp h13]; simp; done)
          | (rw [B1_n.mp h5, B1_n.mp h13, B1_0.mp h21]; rfl)
          | (rw [B1_n.mp h5, B1_n.mp h13, B1_n.mp h21]; rfl)
set_option maxHeartbeats 4000000 in
set_option maxRecDepth 100000 in
theorem c_mTold {ad : Nat → Nat} {g : St} {X : LN} (hX : MC g X) {x : Int32} {TL L M : Nat} (hT : g.1 91 14 = nI TL) (hL : g.1 91 50 = nI L) (hM : g.1 91 47 = nI M) : Ci 1 mX10_told [.ref 91, .int x] ad g (fun v g' => v = aTol X TL L M x ∧ g' = g) := by
  obtain ⟨hok, hpo, hlaw, x1, hW, hPs, x4⟩ := id hX
  have h10 := hok.2.1
  have h6 := hpo.1
  have h14 := hok.1
  refine Cm.mk rfl (Nat.le_of_ble_eq_true rfl) (fun K hK hR hm hnn => ?_)
  refine r_iload_n (i := 1) hK dX10_told_0 rfl rfl ?_
  refine r_sw (n := 7) (lo := 0) (tgt0 := 79) hK dX10_told_1 (by decide) (by decide) (by decide) (by decide) (fun h1 => ?_) (fun i1 hi1 h1 => ?_)
  · refine r_ldc hK ckX10_136 dX10_told_79 ?_
    refine q_iret hK hR dX10_told_81 ?_
    refine ⟨?_, rfl⟩
    unfold aTol
    first
      | (rw [(show x = 0 from h1)]; rw [if_pos rfl]; done)
      | (rw [(show x = 1 from h1)]; rw [if_neg (by decide)]; rw [if_pos rfl]; done)
      | (rw [(show x = 2 from h1)]; rw [if_neg (by decide)]; rw [if_neg (by decide)]; rw [if_pos rfl]; done)
      | (rw [(show x = 3 from h1)]; rw [if_neg (by decide)]; rw [if_neg (by decide)]; rw [if_neg (by decide)]; rw [if_pos rfl]; done)
      | (rw [(show x = 4 from h1)]; rw [if_neg (by decide)]; rw [if_neg (by decide)]; rw [if_neg (by decide)]; rw [if_neg (by decide)]; rw [if_pos rfl]; done)
      | (rw [(show x = 5 from h1)]; rw [if_neg (by decide)]; rw [if_neg (by decide)]; rw [if_neg (by decide)]; rw [if_neg (by decide)]; rw [if_neg (by decide)]; rw [if_pos rfl]; done)
      | (rw [(show x = 6 from h1)]; rw [if_neg (by decide)]; rw [if_neg (by decide)]; rw [if_neg (by decide)]; rw [if_neg (by decide)]; rw [if_neg (by decide)]; rw [if_neg (by decide)]; rw [if_pos rfl]; done)
      | (rw [if_neg (show ¬ x = 0 from swn 0 h1 (by decide) (by decide)), if_neg (show ¬ x = 1 from swn 1 h1 (by decide) (by decide)), if_neg (show ¬ x = 2 from swn 2 h1 (by decide) (by decide)), if_neg (show ¬ x = 3 from swn 3 h1 (by decide) (by decide)), if_neg (show ¬ x = 4 from swn 4 h1 (by decide) (by decide)), if_neg (show ¬ x = 5 from swn 5 h1 (by decide) (by decide)), if_neg (show ¬ x = 6 from swn 6 h1 (by decide) (by decide))])
  · obtain rfl | rfl | rfl | rfl | rfl | rfl | rfl : i1 = 0 ∨ i1 = 1 ∨ i1 = 2 ∨ i1 = 3 ∨ i1 = 4 ∨ i1 = 5 ∨ i1 = 6 := by omega
    · refine ⟨_, 44, rfl, by decide, ?_⟩
      refine r_aload_n (i := 0) hK dX10_told_44 rfl rfl ?_
      refine r_getI hK flX10_121 to_91 rfl dX10_told_45 ?_
      refine r_top (y := nI X.1) x1 ?_
      refine q_iret hK hR dX10_told_48 ?_
      refine ⟨?_, rfl⟩
      unfold aTol
      first
        | (rw [(show x = 0 from h1)]; rw [if_pos rfl]; done)
        | (rw [(show x = 1 from h1)]; rw [if_neg (by decide)]; rw [if_pos rfl]; done)
        | (rw [(show x = 2 from h1)]; rw [if_neg (by decide)]; rw [if_neg (by decide)]; rw [if_pos rfl]; done)
        | (rw [(show x = 3 from h1)]; rw [if_neg (by decide)]; rw [if_neg (by decide)]; rw [if_neg (by decide)]; rw [if_pos rfl]; done)
        | (rw [(show x = 4 from h1)]; rw [if_neg (by decide)]; rw [if_neg (by decide)]; rw [if_neg (by decide)]; rw [if_neg (by decide)]; rw [if_pos rfl]; done)
        | (rw [(show x = 5 from h1)]; rw [if_neg (by decide)]; rw [if_neg (by decide)]; rw [if_neg (by decide)]; rw [if_neg (by decide)]; rw [if_neg (by decide)]; rw [if_pos rfl]; done)
        | (rw [(show x = 6 from h1)]; rw [if_neg (by decide)]; rw [if_neg (by decide)]; rw [if_neg (by decide)]; rw [if_neg (by decide)]; rw [if_neg (by decide)]; rw [if_neg (by decide)]; rw [if_pos rfl]; done)
        | (rw [if_neg (show ¬ x = 0 from swn 0 h1 (by decide) (by decide)), if_neg (show ¬ x = 1 from swn 1 h1 (by decide) (by decide)), if_neg (show ¬ x = 2 from swn 2 h1 (by decide) (by decide)), if_neg (show ¬ x = 3 from swn 3 h1 (by decide) (by decide)), if_neg (show ¬ x = 4 from swn 4 h1 (by decide) (by decide)), if_neg (show ¬ x = 5 from swn 5 h1 (by decide) (by decide)), if_neg (show ¬ x = 6 from swn 6 h1 (by decide) (by decide))])
    · refine ⟨_, 49, rfl, by decide, ?_⟩
      refine r_aload_n (i := 0) hK dX10_told_49 rfl rfl ?_
      refine r_getI hK flX10_128 to_91 rfl dX10_told_50 ?_
      refine r_top (y := nI X.2.1.1) hW.1 ?_
      refine q_iret hK hR dX10_told_53 ?_
      refine ⟨?_, rfl⟩
      unfold aTol
      first
        | (rw [(show x = 0 from h1)]; rw [if_pos rfl]; done)
        | (rw [(show x = 1 from h1)]; rw [if_neg (by decide)]; rw [if_pos rfl]; done)
        | (rw [(show x = 2 from h1)]; rw [if_neg (by decide)]; rw [if_neg (by decide)]; rw [if_pos rfl]; done)
        | (rw [(show x = 3 from h1)]; rw [if_neg (by decide)]; rw [if_neg (by decide)]; rw [if_neg (by decide)]; rw [if_pos rfl]; done)
        | (rw [(show x = 4 from h1)]; rw [if_neg (by decide)]; rw [if_neg (by decide)]; rw [if_neg (by decide)]; rw [if_neg (by decide)]; rw [if_pos rfl]; done)
        | (rw [(show x = 5 from h1)]; rw [if_neg (by decide)]; rw [if_neg (by decide)]; rw [if_neg (by decide)]; rw [if_neg (by decide)]; rw [if_neg (by decide)]; rw [if_pos rfl]; done)
        | (rw [(show x = 6 from h1)]; rw [if_neg (by decide)]; rw [if_neg (by decide)]; rw [if_neg (by decide)]; rw [if_neg (by decide)]; rw [if_neg (by decide)]; rw [if_neg (by decide)]; rw [if_pos rfl]; done)
        | (rw [if_neg (show ¬ x = 0 from swn 0 h1 (by decide) (by decide)), if_neg (show ¬ x = 1 from swn 1 h1 (by decide) (by decide)), if_neg (show ¬ x = 2 from swn 2 h1 (by decide) (by decide)), if_neg (show ¬ x = 3 from swn 3 h1 (by decide) (by decide)), if_neg (show ¬ x = 4 from swn 4 h1 (by decide) (by decide)), if_neg (show ¬ x = 5 from swn 5 h1 (by decide) (by decide)), if_neg (show ¬ x = 6 from swn 6 h1 (by decide) (by decide))])
    · refine ⟨_, 54, rfl, by decide, ?_⟩
      refine r_aload_n (i := 0) hK dX10_told_54 rfl rfl ?_
      refine r_getI hK flX10_131 to_91 rfl dX10_told_55 ?_
      refine r_top (y := nI X.2.2.1.1) hPs.1 ?_
      refine q_iret hK hR dX10_told_58 ?_
      refine ⟨?_, rfl⟩
      unfold aTol
      first
        | (rw [(show x = 0 from h1)]; rw [if_pos rfl]; done)
        | (rw [(show x = 1 from h1)]; rw [if_neg (by decide)]; rw [if_pos rfl]; done)
        | (rw [(show x = 2 from h1)]; rw [if_neg (by decide)]; rw [if_neg (by decide)]; rw [if_pos rfl]; done)
        | (rw [(show x = 3 from h1)]; rw [if_neg (by decide)]; rw [if_neg (by decide)]; rw [if_neg (by decide)]; rw [if_pos rfl]; done)
        | (rw [(show x = 4 from h1)]; rw [if_neg (by decide)]; rw [if_neg (by decide)]; rw [if_neg (by decide)]; rw [if_neg (by decide)]; rw [if_pos rfl]; done)
        | (rw [(show x = 5 from h1)]; rw [if_neg (by decide)]; rw [if_neg (by decide)]; rw [if_neg (by decide)]; rw [if_neg (by decide)]; rw [if_neg (by decide)]; rw [if_pos rfl]; done)
        | (rw [(show x = 6 from h1)]; rw [if_neg (by decide)]; rw [if_neg (by decide)]; rw [if_neg (by decide)]; rw [if_neg (by decide)]; rw [if_neg (by decide)]; rw [if_neg (by decide)]; rw [if_pos rfl]; done)
        | (rw [if_neg (show ¬ x = 0 from swn 0 h1 (by decide) (by decide)), if_neg (show ¬ x = 1 from swn 1 h1 (by decide) (by decide)), if_neg (show ¬ x = 2 from swn 2 h1 (by decide) (by decide)), if_neg (show ¬ x = 3 from swn 3 h1 (by decide) (by decide)), if_neg (show ¬ x = 4 from swn 4 h1 (by decide) (by decide)), if_neg (show ¬ x = 5 from swn 5 h1 (by decide) (by decide)), if_neg (show ¬ x = 6 from swn 6 h1 (by decide) (by decide))])
    · refine ⟨_, 59, rfl, by decide, ?_⟩
      refine r_aload_n (i := 0) hK dX10_told_59 rfl rfl ?_
      refine r_getI hK flX10_137 to_91 rfl dX10_told_60 ?_
      refine r_top (y := nI TL) hT ?_
      refine q_iret hK hR dX10_told_63 ?_
      refine ⟨?_, rfl⟩
      unfold aTol
      first
        | (rw [(show x = 0 from h1)]; rw [if_pos rfl]; done)
        | (rw [(show x = 1 from h1)]; rw [if_neg (by decide)]; rw [if_pos rfl]; done)
        | (rw [(show x = 2 from h1)]; rw [if_neg (by decide)]; rw [if_neg (by decide)]; rw [if_pos rfl]; done)
        | (rw [(show x = 3 from h1)]; rw [if_neg (by decide)]; rw [if_neg (by decide)]; rw [if_neg (by decide)]; rw [if_pos rfl]; done)
        | (rw [(show x = 4 from h1)]; rw [if_neg (by decide)]; rw [if_neg (by decide)]; rw [if_neg (by decide)]; rw [if_neg (by decide)]; rw [if_pos rfl]; done)
        | (rw [(show x = 5 from h1)]; rw [if_neg (by decide)]; rw [if_neg (by decide)]; rw [if_neg (by decide)]; rw [if_neg (by decide)]; rw [if_neg (by decide)]; rw [if_pos rfl]; done)
        | (rw [(show x = 6 from h1)]; rw [if_neg (by decide)]; rw [if_neg (by decide)]; rw [if_neg (by decide)]; rw [if_neg (by decide)]; rw [if_neg (by decide)]; rw [if_neg (by decide)]; rw [if_pos rfl]; done)
        | (rw [if_neg (show ¬ x = 0 from swn 0 h1 (by decide) (by decide)), if_neg (show ¬ x = 1 from swn 1 h1 (by decide) (by decide)), if_neg (show ¬ x = 2 from swn 2 h1 (by decide) (by decide)), if_neg (show ¬ x = 3 from swn 3 h1 (by decide) (by decide)), if_neg (show ¬ x = 4 from swn 4 h1 (by decide) (by decide)), if_neg (show ¬ x = 5 from swn 5 h1 (by decide) (by decide)), if_neg (show ¬ x = 6 from swn 6 h1 (by decide) (by decide))])
    · refine ⟨_, 64, rfl, by decide, ?_⟩
      refine r_aload_n (i := 0) hK dX10_told_64 rfl rfl ?_
      refine r_getI hK flX10_235 to_91 rfl dX10_told_65 ?_
      refine r_top (y := nI X.2.2.2.2.2) x4 ?_
      refine q_iret hK hR dX10_told_68 ?_
      refine ⟨?_, rfl⟩
      unfold aTol
      first
        | (rw [(show x = 0 from h1)]; rw [if_pos rfl]; done)
        | (rw [(show x = 1 from h1)]; rw [if_neg (by decide)]; rw [if_pos rfl]; done)
        | (rw [(show x = 2 from h1)]; rw [if_neg (by decide)]; rw [if_neg (by decide)]; rw [if_pos rfl]; done)
        | (rw [(show x = 3 from h1)]; rw [if_neg (by decide)]; rw [if_neg (by decide)]; rw [if_neg (by decide)]; rw [if_pos rfl]; done)
        | (rw [(show x = 4 from h1)]; rw [if_neg (by decide)]; rw [if_neg (by decide)]; rw [if_neg (by decide)]; rw [if_neg (by decide)]; rw [if_pos rfl]; done)
        | (rw [(show x = 5 from h1)]; rw [if_neg (by decide)]; rw [if_neg (by decide)]; rw [if_neg (by decide)]; rw [if_neg (by decide)]; rw [if_neg (by decide)]; rw [if_pos rfl]; done)
        | (rw [(show x = 6 from h1)]; rw [if_neg (by decide)]; rw [if_neg (by decide)]; rw [if_neg (by decide)]; rw [if_neg (by decide)]; rw [if_neg (by decide)]; rw [if_neg (by decide)]; rw [if_pos rfl]; done)
        | (rw [if_neg (show ¬ x = 0 from swn 0 h1 (by decide) (by decide)), if_neg (show ¬ x = 1 from swn 1 h1 (by decide) (by decide)), if_neg (show ¬ x = 2 from swn 2 h1 (by decide) (by decide)), if_neg (show ¬ x = 3 from swn 3 h1 (by decide) (by decide)), if_neg (show ¬ x = 4 from swn 4 h1 (by decide) (by decide)), if_neg (show ¬ x = 5 from swn 5 h1 (by decide) (by decide)), if_neg (show ¬ x = 6 from swn 6 h1 (by decide) (by decide))])
    · refine ⟨_, 69, rfl, by decide, ?_⟩
      refine r_aload_n (i := 0) hK dX10_told_69 rfl rfl ?_
      refine r_getI hK flX10_229 to_91 rfl dX10_told_70 ?_
      refine r_top (y := nI L) hL ?_
      refine q_iret hK hR dX10_told_73 ?_
      refine ⟨?_, rfl⟩
      unfold aTol
      first
        | (rw [(show x = 0 from h1)]; rw [if_pos rfl]; done)
        | (rw [(show x = 1 from h1)]; rw [if_neg (by decide)]; rw [if_pos rfl]; done)
        | (rw [(show x = 2 from h1)]; rw [if_neg (by decide)]; rw [if_neg (by decide)]; rw [if_pos rfl]; done)
        | (rw [(show x = 3 from h1)]; rw [if_neg (by decide)]; rw [if_neg (by decide)]; rw [if_neg (by decide)]; rw [if_pos rfl]; done)
        | (rw [(show x = 4 from h1)]; rw [if_neg (by decide)]; rw [if_neg (by decide)]; rw [if_neg (by decide)]; rw [if_neg (by decide)]; rw [if_pos rfl]; done)
        | (rw [(show x = 5 from h1)]; rw [if_neg (by decide)]; rw [if_neg (by decide)]; rw [if_neg (by decide)]; rw [if_neg (by decide)]; rw [if_neg (by decide)]; rw [if_pos rfl]; done)
        | (rw [(show x = 6 from h1)]; rw [if_neg (by decide)]; rw [if_neg (by decide)]; rw [if_neg (by decide)]; rw [if_neg (by decide)]; rw [if_neg (by decide)]; rw [if_neg (by decide)]; rw [if_pos rfl]; done)
        | (rw [if_neg (show ¬ x = 0 from swn 0 h1 (by decide) (by decide)), if_neg (show ¬ x = 1 from swn 1 h1 (by decide) (by decide)), if_neg (show ¬ x = 2 from swn 2 h1 (by decide) (by decide)), if_neg (show ¬ x = 3 from swn 3 h1 (by decide) (by decide)), if_neg (show ¬ x = 4 from swn 4 h1 (by decide) (by decide)), if_neg (show ¬ x = 5 from swn 5 h1 (by decide) (by decide)), if_neg (show ¬ x = 6 from swn 6 h1 (by decide) (by decide))])
    · refine ⟨_, 74, rfl, by decide, ?_⟩
      refine r_aload_n (i := 0) hK dX10_told_74 rfl rfl ?_
      refine r_getI hK flX10_232 to_91 rfl dX10_told_75 ?_
      refine r_top (y := nI M) hM ?_
      refine q_iret hK hR dX10_told_78 ?_
      refine ⟨?_, rfl⟩
      unfold aTol
      first
        | (rw [(show x = 0 from h1)]; rw [if_pos rfl]; done)
        | (rw [(show x = 1 from h1)]; rw [if_neg (by decide)]; rw [if_pos rfl]; done)
        | (rw [(show x = 2 from h1)]; rw [if_neg (by decide)]; rw [if_neg (by decide)]; rw [if_pos rfl]; done)
        | (rw [(show x = 3 from h1)]; rw [if_neg (by decide)]; rw [if_neg (by decide)]; rw [if_neg (by decide)]; rw [if_pos rfl]; done)
        | (rw [(show x = 4 from h1)]; rw [if_neg (by decide)]; rw [if_neg (by decide)]; rw [if_neg (by decide)]; rw [if_neg (by decide)]; rw [if_pos rfl]; done)
        | (rw [(show x = 5 from h1)]; rw [if_neg (by decide)]; rw [if_neg (by decide)]; rw [if_neg (by decide)]; rw [if_neg (by decide)]; rw [if_neg (by decide)]; rw [if_pos rfl]; done)
        | (rw [(show x = 6 from h1)]; rw [if_neg (by decide)]; rw [if_neg (by decide)]; rw [if_neg (by decide)]; rw [if_neg (by decide)]; rw [if_neg (by decide)]; rw [if_neg (by decide)]; rw [if_pos rfl]; done)
        | (rw [if_neg (show ¬ x = 0 from swn 0 h1 (by decide) (by decide)), if_neg (show ¬ x = 1 from swn 1 h1 (by decide) (by decide)), if_neg (show ¬ x = 2 from swn 2 h1 (by decide) (by decide)), if_neg (show ¬ x = 3 from swn 3 h1 (by decide) (by decide)), if_neg (show ¬ x = 4 from swn 4 h1 (by decide) (by decide)), if_neg (show ¬ x = 5 from swn 5 h1 (by decide) (by decide)), if_neg (show ¬ x = 6 from swn 6 h1 (by decide) (by decide))])
set_option maxHeartbeats 4000000 in
set_option maxRecDepth 100000 in
theorem c_mWay {ad : Nat → Nat} {g : St} {X : LN} (hX : MC g X) {p x : Int32} : Ci 3 mX10_way [.ref 91, .int p, .int x] ad g (fun v g' => v = aWay X p x ∧ g' = g) := by
  obtain ⟨hok, hpo, hlaw, x1, hW, hPs, x4⟩ := id hX
  have h10 := hok.2.1
  have h6 := hpo.1
  have h14 := hok.1
  refine Cm.mk rfl (Nat.le_of_ble_eq_true rfl) (fun K hK hR hm hnn => ?_)
  refine r_aload_n (i := 0) hK dX10_way_0 rfl rfl ?_
  refine r_iload_n (i := 1) hK dX10_way_1 rfl rfl ?_
  refine r_ci1 hK hnn (c_misWay hW.1 (by omega)) moX10_isWay mlX10_238 to_91 rfl rfl dX10_way_2 (Nat.le_of_ble_eq_true rfl) (Nat.le_of_ble_eq_true rfl) (eqI ?_)
  refine r_if_ne (tgt := 11) hK dX10_way_5 (by decide) (fun h5 => ?_) (fun h5 => ?_)
  · refine r_iload_n (i := 2) hK dX10_way_11 rfl rfl ?_
    have hb := B1_n.mp h5
    obtain ⟨hj, hwn⟩ := isB_cl (by omega) hb
    refine r_if_ne (tgt := 24) hK dX10_way_12 (by decide) (fun h12 => ?_) (fun h12 => ?_)
    · refine r_iload_n (i := 2) hK dX10_way_24 rfl rfl ?_
      refine r_iconst (v := 1) hK dX10_way_25 (by decide) ?_
      refine r_icmp_ne (tgt := 38) hK dX10_way_26 (by decide) (fun h26 => ?_) (fun h26 => ?_)
      · refine r_iload_n (i := 2) hK dX10_way_38 rfl rfl ?_
        refine r_iconst (v := 2) hK dX10_way_39 (by decide) ?_
        refine r_icmp_ne (tgt := 52) hK dX10_way_40 (by decide) (fun h40 => ?_) (fun h40 => ?_)
        · refine r_ldc hK ckX10_136 dX10_way_52 ?_
          refine q_iret hK hR dX10_way_54 ?_
          refine ⟨?_, rfl⟩
          unfold aWay
          first
            | (rw [if_neg (by rw [B1_0.mp h5]; decide)]; done)
            | (rw [if_pos hb, if_pos h12]; done)
            | (rw [if_pos hb, if_neg h12, if_pos h26]; done)
            | (rw [if_pos hb, if_neg h12, if_neg h26, if_pos h40]; done)
            | (rw [if_pos hb, if_neg h12, if_neg h26, if_neg h40]; done)
        · refine r_aload_n (i := 0) hK dX10_way_43 rfl rfl ?_
          refine r_getA hK flX10_16 to_91 rfl dX10_way_44 ?_
          refine r_iload_n (i := 1) hK dX10_way_47 rfl rfl ?_
          refine r_ialN hK to_94 hwn (by omega) (by decide) (hW.2 _ hj).2.2 dX10_way_48 ?_
          refine r_goto (tgt := 54) hK dX10_way_49 (by decide) ?_
          refine q_iret hK hR dX10_way_54 ?_
          refine ⟨?_, rfl⟩
          unfold aWay
          first
            | (rw [if_neg (by rw [B1_0.mp h5]; decide)]; done)
            | (rw [if_pos hb, if_pos h12]; done)
            | (rw [if_pos hb, if_neg h12, if_pos h26]; done)
            | (rw [if_pos hb, if_neg h12, if_neg h26, if_pos h40]; done)
            | (rw [if_pos hb, if_neg h12, if_neg h26, if_neg h40]; done)
      · refine r_aload_n (i := 0) hK dX10_way_29 rfl rfl ?_
        refine r_getA hK flX10_13 to_91 rfl dX10_way_30 ?_
        refine r_iload_n (i := 1) hK dX10_way_33 rfl rfl ?_
        refine r_ialN hK to_93 hwn (by omega) (by decide) (hW.2 _ hj).2.1 dX10_way_34 ?_
        refine r_goto (tgt := 54) hK dX10_way_35 (by decide) ?_
        refine q_iret hK hR dX10_way_54 ?_
        refine ⟨?_, rfl⟩
        unfold aWay
        first
          | (rw [if_neg (by rw [B1_0.mp h5]; decide)]; done)
          | (rw [if_pos hb, if_pos h12]; done)
          | (rw [if_pos hb, if_neg h12, if_pos h26]; done)
          | (rw [if_pos hb, if_neg h12, if_neg h26, if_pos h40]; done)
          | (rw [if_pos hb, if_neg h12, if_neg h26, if_neg h40]; done)
    · refine r_aload_n (i := 0) hK dX10_way_15 rfl rfl ?_
      refine r_getA hK flX10_7 to_91 rfl dX10_way_16 ?_
      refine r_iload_n (i := 1) hK dX10_way_19 rfl rfl ?_
      refine r_ialN hK to_92 hwn (by omega) (by decide) (hW.2 _ hj).1 dX10_way_20 ?_
      refine r_goto (tgt := 54) hK dX10_way_21 (by decide) ?_
      refine q_iret hK hR dX10_way_54 ?_
      refine ⟨?_, rfl⟩
      unfold aWay
      first
        | (rw [if_neg (by rw [B1_0.mp h5]; decide)]; done)
        | (rw [if_pos hb, if_pos h12]; done)
        | (rw [if_pos hb, if_neg h12, if_pos h26]; done)
        | (rw [if_pos hb, if_neg h12, if_neg h26, if_pos h40]; done)
        | (rw [if_pos hb, if_neg h12, if_neg h26, if_neg h40]; done)
  · refine r_ldc hK ckX10_242 dX10_way_8 ?_
    refine q_iret hK hR dX10_way_10 ?_
    refine ⟨?_, rfl⟩
    unfold aWay
    first
      | (rw [if_neg (by rw [B1_0.mp h5]; decide)]; done)
      | (rw [if_pos hb, if_pos h12]; done)
      | (rw [if_pos hb, if_neg h12, if_pos h26]; done)
      | (rw [if_pos hb, if_neg h12, if_neg h26, if_pos h40]; done)
      | (rw [if_pos hb, if_neg h12, if_neg h26, if_neg h40]; done)
set_option maxHeartbeats 4000000 in
set_option maxRecDepth 100000 in
theorem c_mPerson {ad : Nat → Nat} {g : St} {X : LN} (hX : MC g X) {p x : Int32} : Ci 3 mX10_person [.ref 91, .int p, .int x] ad g (fun v g' => v = aPers X p x ∧ g' = g) := by
  obtain ⟨hok, hpo, hlaw, x1, hW, hPs, x4⟩ := id hX
  have h10 := hok.2.1
  have h6 := hpo.1
  have h14 := hok.1
  refine Cm.mk rfl (Nat.le_of_ble_eq_true rfl) (fun K hK hR hm hnn => ?_)
  refine r_aload_n (i := 0) hK dX10_person_0 rfl rfl ?_
  refine r_iload_n (i := 1) hK dX10_person_1 rfl rfl ?_
  refine r_ci1 hK hnn (c_misPerson hPs.1 (by omega)) moX10_isPerson mlX10_243 to_91 rfl rfl dX10_person_2 (Nat.le_of_ble_eq_true rfl) (Nat.le_of_ble_eq_true rfl) (eqI ?_)
  refine r_if_ne (tgt := 11) hK dX10_person_5 (by decide) (fun h5 => ?_) (fun h5 => ?_)
  · refine r_iload_n (i := 2) hK dX10_person_11 rfl rfl ?_
    have hb := B1_n.mp h5
    obtain ⟨hj, hwn⟩ := isB_cl (by omega) hb
    refine r_sw (n := 5) (lo := 0) (tgt0 := 83) hK dX10_person_12 (by decide) (by decide) (by decide) (by decide) (fun h12 => ?_) (fun i12 hi12 h12 => ?_)
    · refine r_ldc hK ckX10_136 dX10_person_83 ?_
      refine q_iret hK hR dX10_person_85 ?_
      refine ⟨?_, rfl⟩
      unfold aPers
      first
        | (rw [if_neg (by rw [B1_0.mp h5]; decide)]; done)
        | (rw [if_pos hb]; rw [(show x = 0 from h12)]; rw [if_pos rfl]; done)
        | (rw [if_pos hb]; rw [(show x = 1 from h12)]; rw [if_neg (by decide)]; rw [if_pos rfl]; done)
        | (rw [if_pos hb]; rw [(show x = 2 from h12)]; rw [if_neg (by decide)]; rw [if_neg (by decide)]; rw [if_pos rfl]; done)
        | (rw [if_pos hb]; rw [(show x = 3 from h12)]; rw [if_neg (by decide)]; rw [if_neg (by decide)]; rw [if_neg (by decide)]; rw [if_pos rfl]; done)
        | (rw [if_pos hb]; rw [(show x = 4 from h12)]; rw [if_neg (by decide)]; rw [if_neg (by decide)]; rw [if_neg (by decide)]; rw [if_neg (by decide)]; rw [if_pos rfl]; done)
        | (rw [if_pos hb, if_neg (show ¬ x = 0 from swn 0 h12 (by decide) (by decide)), if_neg (show ¬ x = 1 from swn 1 h12 (by decide) (by decide)), if_neg (show ¬ x = 2 from swn 2 h12 (by decide) (by decide)), if_neg (show ¬ x = 3 from swn 3 h12 (by decide) (by decide)), if_neg (show ¬ x = 4 from swn 4 h12 (by decide) (by decide))])
    · obtain rfl | rfl | rfl | rfl | rfl : i12 = 0 ∨ i12 = 1 ∨ i12 = 2 ∨ i12 = 3 ∨ i12 = 4 := by omega
      · refine ⟨_, 48, rfl, by decide, ?_⟩
        refine r_aload_n (i := 0) hK dX10_person_48 rfl rfl ?_
        refine r_getA hK flX10_19 to_91 rfl dX10_person_49 ?_
        refine r_iload_n (i := 1) hK dX10_person_52 rfl rfl ?_
        refine r_ialN hK to_95 hwn (by omega) (by decide) (hPs.2 _ hj).1 dX10_person_53 ?_
        refine q_iret hK hR dX10_person_54 ?_
        refine ⟨?_, rfl⟩
        unfold aPers
        first
          | (rw [if_neg (by rw [B1_0.mp h5]; decide)]; done)
          | (rw [if_pos hb]; rw [(show x = 0 from h12)]; rw [if_pos rfl]; done)
          | (rw [if_pos hb]; rw [(show x = 1 from h12)]; rw [if_neg (by decide)]; rw [if_pos rfl]; done)
          | (rw [if_pos hb]; rw [(show x = 2 from h12)]; rw [if_neg (by decide)]; rw [if_neg (by decide)]; rw [if_pos rfl]; done)
          | (rw [if_pos hb]; rw [(show x = 3 from h12)]; rw [if_neg (by decide)]; rw [if_neg (by decide)]; rw [if_neg (by decide)]; rw [if_pos rfl]; done)
          | (rw [if_pos hb]; rw [(show x = 4 from h12)]; rw [if_neg (by decide)]; rw [if_neg (by decide)]; rw [if_neg (by decide)]; rw [if_neg (by decide)]; rw [if_pos rfl]; done)
          | (rw [if_pos hb, if_neg (show ¬ x = 0 from swn 0 h12 (by decide) (by decide)), if_neg (show ¬ x = 1 from swn 1 h12 (by decide) (by decide)), if_neg (show ¬ x = 2 from swn 2 h12 (by decide) (by decide)), if_neg (show ¬ x = 3 from swn 3 h12 (by decide) (by decide)), if_neg (show ¬ x = 4 from swn 4 h12 (by decide) (by decide))])
      · refine ⟨_, 55, rfl, by decide, ?_⟩
        refine r_aload_n (i := 0) hK dX10_person_55 rfl rfl ?_
        refine r_getA hK flX10_22 to_91 rfl dX10_person_56 ?_
        refine r_iload_n (i := 1) hK dX10_person_59 rfl rfl ?_
        refine r_ialN hK to_96 hwn (by omega) (by decide) (hPs.2 _ hj).2.1 dX10_person_60 ?_
        refine q_iret hK hR dX10_person_61 ?_
        refine ⟨?_, rfl⟩
        unfold aPers
        first
          | (rw [if_neg (by rw [B1_0.mp h5]; decide)]; done)
          | (rw [if_pos hb]; rw [(show x = 0 from h12)]; rw [if_pos rfl]; done)
          | (rw [if_pos hb]; rw [(show x = 1 from h12)]; rw [if_neg (by decide)]; rw [if_pos rfl]; done)
          | (rw [if_pos hb]; rw [(show x = 2 from h12)]; rw [if_neg (by decide)]; rw [if_neg (by decide)]; rw [if_pos rfl]; done)
          | (rw [if_pos hb]; rw [(show x = 3 from h12)]; rw [if_neg (by decide)]; rw [if_neg (by decide)]; rw [if_neg (by decide)]; rw [if_pos rfl]; done)
          | (rw [if_pos hb]; rw [(show x = 4 from h12)]; rw [if_neg (by decide)]; rw [if_neg (by decide)]; rw [if_neg (by decide)]; rw [if_neg (by decide)]; rw [if_pos rfl]; done)
          | (rw [if_pos hb, if_neg (show ¬ x = 0 from swn 0 h12 (by decide) (by decide)), if_neg (show ¬ x = 1 from swn 1 h12 (by decide) (by decide)), if_neg (show ¬ x = 2 from swn 2 h12 (by decide) (by decide)), if_neg (show ¬ x = 3 from swn 3 h12 (by decide) (by decide)), if_neg (show ¬ x = 4 from swn 4 h12 (by decide) (by decide))])
      · refine ⟨_, 62, rfl, by decide, ?_⟩
        refine r_aload_n (i := 0) hK dX10_person_62 rfl rfl ?_
        refine r_getA hK flX10_25 to_91 rfl dX10_person_63 ?_
        refine r_iload_n (i := 1) hK dX10_person_66 rfl rfl ?_
        refine r_ialN hK to_97 hwn (by omega) (by decide) (hPs.2 _ hj).2.2.1 dX10_person_67 ?_
        refine q_iret hK hR dX10_person_68 ?_
        refine ⟨?_, rfl⟩
        unfold aPers
        first
          | (rw [if_neg (by rw [B1_0.mp h5]; decide)]; done)
          | (rw [if_pos hb]; rw [(show x = 0 from h12)]; rw [if_pos rfl]; done)
          | (rw [if_pos hb]; rw [(show x = 1 from h12)]; rw [if_neg (by decide)]; rw [if_pos rfl]; done)
          | (rw [if_pos hb]; rw [(show x = 2 from h12)]; rw [if_neg (by decide)]; rw [if_neg (by decide)]; rw [if_pos rfl]; done)
          | (rw [if_pos hb]; rw [(show x = 3 from h12)]; rw [if_neg (by decide)]; rw [if_neg (by decide)]; rw [if_neg (by decide)]; rw [if_pos rfl]; done)
          | (rw [if_pos hb]; rw [(show x = 4 from h12)]; rw [if_neg (by decide)]; rw [if_neg (by decide)]; rw [if_neg (by decide)]; rw [if_neg (by decide)]; rw [if_pos rfl]; done)
          | (rw [if_pos hb, if_neg (show ¬ x = 0 from swn 0 h12 (by decide) (by decide)), if_neg (show ¬ x = 1 from swn 1 h12 (by decide) (by decide)), if_neg (show ¬ x = 2 from swn 2 h12 (by decide) (by decide)), if_neg (show ¬ x = 3 from swn 3 h12 (by decide) (by decide)), if_neg (show ¬ x = 4 from swn 4 h12 (by decide) (by decide))])
      · refine ⟨_, 69, rfl, by decide, ?_⟩
        refine r_aload_n (i := 0) hK dX10_person_69 rfl rfl ?_
        refine r_getA hK flX10_28 to_91 rfl dX10_person_70 ?_
        refine r_iload_n (i := 1) hK dX10_person_73 rfl rfl ?_
        refine r_ialN hK to_98 hwn (by omega) (by decide) (hPs.2 _ hj).2.2.2.1 dX10_person_74 ?_
        refine q_iret hK hR dX10_person_75 ?_
        refine ⟨?_, rfl⟩
        unfold aPers
        first
          | (rw [if_neg (by rw [B1_0.mp h5]; decide)]; done)
          | (rw [if_pos hb]; rw [(show x = 0 from h12)]; rw [if_pos rfl]; done)
          | (rw [if_pos hb]; rw [(show x = 1 from h12)]; rw [if_neg (by decide)]; rw [if_pos rfl]; done)
          | (rw [if_pos hb]; rw [(show x = 2 from h12)]; rw [if_neg (by decide)]; rw [if_neg (by decide)]; rw [if_pos rfl]; done)
          | (rw [if_pos hb]; rw [(show x = 3 from h12)]; rw [if_neg (by decide)]; rw [if_neg (by decide)]; rw [if_neg (by decide)]; rw [if_pos rfl]; done)
          | (rw [if_pos hb]; rw [(show x = 4 from h12)]; rw [if_neg (by decide)]; rw [if_neg (by decide)]; rw [if_neg (by decide)]; rw [if_neg (by decide)]; rw [if_pos rfl]; done)
          | (rw [if_pos hb, if_neg (show ¬ x = 0 from swn 0 h12 (by decide) (by decide)), if_neg (show ¬ x = 1 from swn 1 h12 (by decide) (by decide)), if_neg (show ¬ x = 2 from swn 2 h12 (by decide) (by decide)), if_neg (show ¬ x = 3 from swn 3 h12 (by decide) (by decide)), if_neg (show ¬ x = 4 from swn 4 h12 (by decide) (by decide))])
      · refine ⟨_, 76, rfl, by decide, ?_⟩
        refine r_aload_n (i := 0) hK dX10_person_76 rfl rfl ?_
        refine r_getA hK flX10_31 to_91 rfl dX10_person_77 ?_
        refine r_iload_n (i := 1) hK dX10_person_80 rfl rfl ?_
        refine r_ialN hK to_99 hwn (by omega) (by decide) (hPs.2 _ hj).2.2.2.2 dX10_person_81 ?_
        refine q_iret hK hR dX10_person_82 ?_
        refine ⟨?_, rfl⟩
        unfold aPers
        first
          | (rw [if_neg (by rw [B1_0.mp h5]; decide)]; done)
          | (rw [if_pos hb]; rw [(show x = 0 from h12)]; rw [if_pos rfl]; done)
          | (rw [if_pos hb]; rw [(show x = 1 from h12)]; rw [if_neg (by decide)]; rw [if_pos rfl]; done)
          | (rw [if_pos hb]; rw [(show x = 2 from h12)]; rw [if_neg (by decide)]; rw [if_neg (by decide)]; rw [if_pos rfl]; done)
          | (rw [if_pos hb]; rw [(show x = 3 from h12)]; rw [if_neg (by decide)]; rw [if_neg (by decide)]; rw [if_neg (by decide)]; rw [if_pos rfl]; done)
          | (rw [if_pos hb]; rw [(show x = 4 from h12)]; rw [if_neg (by decide)]; rw [if_neg (by decide)]; rw [if_neg (by decide)]; rw [if_neg (by decide)]; rw [if_pos rfl]; done)
          | (rw [if_pos hb, if_neg (show ¬ x = 0 from swn 0 h12 (by decide) (by decide)), if_neg (show ¬ x = 1 from swn 1 h12 (by decide) (by decide)), if_neg (show ¬ x = 2 from swn 2 h12 (by decide) (by decide)), if_neg (show ¬ x = 3 from swn 3 h12 (by decide) (by decide)), if_neg (show ¬ x = 4 from swn 4 h12 (by decide) (by decide))])
  · refine r_ldc hK ckX10_242 dX10_person_8 ?_
    refine q_iret hK hR dX10_person_10 ?_
    refine ⟨?_, rfl⟩
    unfold aPers
    first
      | (rw [if_neg (by rw [B1_0.mp h5]; decide)]; done)
      | (rw [if_pos hb]; rw [(show x = 0 from h12)]; rw [if_pos rfl]; done)
      | (rw [if_pos hb]; rw [(show x = 1 from h12)]; rw [if_neg (by decide)]; rw [if_pos rfl]; done)
      | (rw [if_pos hb]; rw [(show x = 2 from h12)]; rw [if_neg (by decide)]; rw [if_neg (by decide)]; rw [if_pos rfl]; done)
      | (rw [if_pos hb]; rw [(show x = 3 from h12)]; rw [if_neg (by decide)]; rw [if_neg (by decide)]; rw [if_neg (by decide)]; rw [if_pos rfl]; done)
      | (rw [if_pos hb]; rw [(show x = 4 from h12)]; rw [if_neg (by decide)]; rw [if_neg (by decide)]; rw [if_neg (by decide)]; rw [if_neg (by decide)]; rw [if_pos rfl]; done)
      | (rw [if_pos hb, if_neg (show ¬ x = 0 from swn 0 h12 (by decide) (by decide)), if_neg (show ¬ x = 1 from swn 1 h12 (by decide) (by decide)), if_neg (show ¬ x = 2 from swn 2 h12 (by decide) (by decide)), if_neg (show ¬ x = 3 from swn 3 h12 (by decide) (by decide)), if_neg (show ¬ x = 4 from swn 4 h12 (by decide) (by decide))])
set_option maxHeartbeats 4000000 in
set_option maxRecDepth 100000 in
theorem c_mLaw {ad : Nat → Nat} {g : St} {X : LN} (hX : MC g X) {v : Int32} : Ci 2 mX10_law [.ref 91, .int v] ad g (fun r g' => r = aLaw X v ∧ g' = if v < 0 ∨ 3 < v then g else upI g 91 11 v) := by
  obtain ⟨hok, hpo, hlaw, x1, hW, hPs, x4⟩ := id hX
  have h10 := hok.2.1
  have h6 := hpo.1
  have h14 := hok.1
  refine Cm.mk rfl (Nat.le_of_ble_eq_true rfl) (fun K hK hR hm hnn => ?_)
  refine r_iload_n (i := 1) hK dX10_law_0 rfl rfl ?_
  refine r_i2l hK dX10_law_1 ?_
  refine r_lconst (v := 0) hK dX10_law_2 (by decide) ?_
  refine r_ldc2 hK ckX10_246 dX10_law_3 ?_
  refine r_si3 hK hnn c_mIn moX10_in mlX10_124 dX10_law_6 (Nat.le_of_ble_eq_true rfl) (Nat.le_of_ble_eq_true rfl) (eqI ?_)
  refine r_top (y := B1 (bI v 0 3)) (congrArg B1 (inL_b (lI := 0) (hI := 3) rfl rfl)) ?_
  refine r_if_ne (tgt := 15) hK dX10_law_9 (by decide) (fun h9 => ?_) (fun h9 => ?_)
  · refine r_aload_n (i := 0) hK dX10_law_15 rfl rfl ?_
    refine r_getI hK flX10_235 to_91 rfl dX10_law_16 ?_
    refine r_istore_n (i := 2) hK hm dX10_law_19 rfl (by decide) ?_
    refine r_aload_n (i := 0) hK dX10_law_20 rfl rfl ?_
    refine r_iload_n (i := 1) hK dX10_law_21 rfl rfl ?_
    refine r_putI hK flX10_235 ft10_11 to_91 rfl dX10_law_22 ?_
    refine r_iload_n (i := 2) hK dX10_law_25 rfl rfl ?_
    refine q_iret hK hR dX10_law_26 ?_
    unfold aLaw
    first
      | (have hor := bI_f.mp (B1_0.mp h9); rw [if_pos hor, if_pos hor]; exact ⟨rfl, rfl⟩)
      | (have hor := bI_t.mp (B1_n.mp h9); rw [if_neg hor, if_neg hor]; exact ⟨x4, rfl⟩)
  · refine r_ldc hK ckX10_136 dX10_law_12 ?_
    refine q_iret hK hR dX10_law_14 ?_
    unfold aLaw
    first
      | (have hor := bI_f.mp (B1_0.mp h9); rw [if_pos hor, if_pos hor]; exact ⟨rfl, rfl⟩)
      | (have hor := bI_t.mp (B1_n.mp h9); rw [if_neg hor, if_neg hor]; exact ⟨x4, rfl⟩)
set_option maxHeartbeats 4000000 in
set_option maxRecDepth 100000 in
theorem c_mHabit {ad : Nat → Nat} {g : St} {X : LN} (hX : MC g X) {p v : Int32} : Ci 3 mX10_habit [.ref 91, .int p, .int v] ad g (fun r g' => r = aHab X p v ∧ g' = if isB p X.2.2.1.1 = true then (if v < 0 ∨ 3 < v then g else upI g 98 (nC p) v) else g) := by
  obtain ⟨hok, hpo, hlaw, x1, hW, hPs, x4⟩ := id hX
  have h10 := hok.2.1
  have h6 := hpo.1
  have h14 := hok.1
  refine Cm.mk rfl (Nat.le_of_ble_eq_true rfl) (fun K hK hR hm hnn => ?_)
  refine r_aload_n (i := 0) hK dX10_habit_0 rfl rfl ?_
  refine r_iload_n (i := 1) hK dX10_habit_1 rfl rfl ?_
  refine r_ci1 hK hnn (c_misPerson hPs.1 (by omega)) moX10_isPerson mlX10_243 to_91 rfl rfl dX10_habit_2 (Nat.le_of_ble_eq_true rfl) (Nat.le_of_ble_eq_true rfl) (eqI ?_)
  refine r_if_ne (tgt := 11) hK dX10_habit_5 (by decide) (fun h5 => ?_) (fun h5 => ?_)
  · refine r_iload_n (i := 2) hK dX10_habit_11 rfl rfl ?_
    have hb := B1_n.mp h5
    obtain ⟨hj, hwn⟩ := isB_cl (by omega) hb
    refine r_i2l hK dX10_habit_12 ?_
    refine r_lconst (v := 0) hK dX10_habit_13 (by decide) ?_
    refine r_ldc2 hK ckX10_246 dX10_habit_14 ?_
    refine r_si3 hK hnn c_mIn moX10_in mlX10_124 dX10_habit_17 (Nat.le_of_ble_eq_true rfl) (Nat.le_of_ble_eq_true rfl) (eqI ?_)
    refine r_top (y := B1 (bI v 0 3)) (congrArg B1 (inL_b (lI := 0) (hI := 3) rfl rfl)) ?_
    refine r_if_ne (tgt := 26) hK dX10_habit_20 (by decide) (fun h20 => ?_) (fun h20 => ?_)
    · refine r_aload_n (i := 0) hK dX10_habit_26 rfl rfl ?_
      refine r_getA hK flX10_28 to_91 rfl dX10_habit_27 ?_
      refine r_iload_n (i := 1) hK dX10_habit_30 rfl rfl ?_
      refine r_ialN hK to_98 hwn (by omega) (by decide) (hPs.2 _ hj).2.2.2.1 dX10_habit_31 ?_
      refine r_istore_n (i := 3) hK hm dX10_habit_32 rfl (by decide) ?_
      refine r_aload_n (i := 0) hK dX10_habit_33 rfl rfl ?_
      refine r_getA hK flX10_28 to_91 rfl dX10_habit_34 ?_
      refine r_iload_n (i := 1) hK dX10_habit_37 rfl rfl ?_
      refine r_iload_n (i := 2) hK dX10_habit_38 rfl rfl ?_
      refine r_iasN hK to_98 hwn (by omega) (by decide) dX10_habit_39 ?_
      refine r_iload_n (i := 3) hK dX10_habit_40 rfl rfl ?_
      refine q_iret hK hR dX10_habit_41 ?_
      unfold aHab
      first
        | (have hb0 : ¬ isB p X.2.2.1.1 = true := (by rw [B1_0.mp h5]; decide); rw [if_neg hb0, if_neg hb0]; exact ⟨rfl, rfl⟩)
        | (have hor := bI_f.mp (B1_0.mp h20); rw [if_pos hb, if_pos hb, if_pos hor, if_pos hor]; exact ⟨rfl, rfl⟩)
        | (have hor := bI_t.mp (B1_n.mp h20); rw [if_pos hb, if_pos hb, if_neg hor, if_neg hor]; exact ⟨rfl, rfl⟩)
    · refine r_ldc hK ckX10_136 dX10_habit_23 ?_
      refine q_iret hK hR dX10_habit_25 ?_
      unfold aHab
      first
        | (have hb0 : ¬ isB p X.2.2.1.1 = true := (by rw [B1_0.mp h5]; decide); rw [if_neg hb0, if_neg hb0]; exact ⟨rfl, rfl⟩)
        | (have hor := bI_f.mp (B1_0.mp h20); rw [if_pos hb, if_pos hb, if_pos hor, if_pos hor]; exact ⟨rfl, rfl⟩)
        | (have hor := bI_t.mp (B1_n.mp h20); rw [if_pos hb, if_pos hb, if_neg hor, if_neg hor]; exact ⟨rfl, rfl⟩)
  · refine r_ldc hK ckX10_242 dX10_habit_8 ?_
    refine q_iret hK hR dX10_habit_10 ?_
    unfold aHab
    first
      | (have hb0 : ¬ isB p X.2.2.1.1 = true := (by rw [B1_0.mp h5]; decide); rw [if_neg hb0, if_neg hb0]; exact ⟨rfl, rfl⟩)
      | (have hor := bI_f.mp (B1_0.mp h20); rw [if_pos hb, if_pos hb, if_pos hor, if_pos hor]; exact ⟨rfl, rfl⟩)
      | (have hor := bI_t.mp (B1_n.mp h20); rw [if_pos hb, if_pos hb, if_neg hor, if_neg hor]; exact ⟨rfl, rfl⟩)
set_option maxHeartbeats 4000000 in
set_option maxRecDepth 100000 in
theorem c_mLearn {ad : Nat → Nat} {g : St} {X : LN} (hX : MC g X) {p q is : Int32} : Ci 3 mX10_learn [.ref 91, .int p, .int q, .int is] ad g (fun r g' => r = aLrn X p q ∧ g' = if (isB p X.2.2.1.1 && isB q X.2.1.1) = true then upI g 99 (nC p) (nI (if is = 0 then clrN (X.2.2.2.2.1 (nC p)) (nC q) else X.2.2.2.2.1 (nC p) ||| 1 <<< nC q)) else g) := by
  obtain ⟨hok, hpo, hlaw, x1, hW, hPs, x4⟩ := id hX
  have h10 := hok.2.1
  have h6 := hpo.1
  have h14 := hok.1
  refine Cm.mk rfl (Nat.le_of_ble_eq_true rfl) (fun K hK hR hm hnn => ?_)
  refine r_aload_n (i := 0) hK dX10_learn_0 rfl rfl ?_
  refine r_iload_n (i := 1) hK dX10_learn_1 rfl rfl ?_
  refine r_ci1 hK hnn (c_misPerson hPs.1 (by omega)) moX10_isPerson mlX10_243 to_91 rfl rfl dX10_learn_2 (Nat.le_of_ble_eq_true rfl) (Nat.le_of_ble_eq_true rfl) (eqI ?_)
  refine r_if_eq (tgt := 16) hK dX10_learn_5 (by decide) (fun h5 => ?_) (fun h5 => ?_)
  · refine r_ldc hK ckX10_242 dX10_learn_16 ?_
    refine q_iret hK hR dX10_learn_18 ?_
    unfold aLrn
    first
      | (have hb0 : ¬ (isB p X.2.2.1.1 && isB q X.2.1.1) = true := (by rw [B1_0.mp h5]; simp); rw [if_neg hb0, if_neg hb0]; exact ⟨rfl, rfl⟩)
      | (have hb0 : ¬ (isB p X.2.2.1.1 && isB q X.2.1.1) = true := (by rw [B1_0.mp h13]; simp); rw [if_neg hb0, if_neg hb0]; exact ⟨rfl, rfl⟩)
      | (rw [if_pos hbb, if_pos hbb, if_pos h37]; exact ⟨rfl, rfl⟩)
      | (rw [if_pos hbb, if_pos hbb, if_neg h37]; exact ⟨rfl, rfl⟩)
  · refine r_aload_n (i := 0) hK dX10_learn_8 rfl rfl ?_
    refine r_iload_n (i := 2) hK dX10_learn_9 rfl rfl ?_
    refine r_ci1 hK hnn (c_misWay hW.1 (by omega)) moX10_isWay mlX10_238 to_91 rfl rfl dX10_learn_10 (Nat.le_of_ble_eq_true rfl) (Nat.le_of_ble_eq_true rfl) (eqI ?_)
    refine r_if_ne (tgt := 19) hK dX10_learn_13 (by decide) (fun h13 => ?_) (fun h13 => ?_)
    · refine r_aload_n (i := 0) hK dX10_learn_19 rfl rfl ?_
      have hb1 := B1_n.mp h5
      have hb2 := B1_n.mp h13
      have hbb : (isB p X.2.2.1.1 && isB q X.2.1.1) = true := by rw [hb1, hb2]; rfl
      obtain ⟨hj, hwn⟩ := isB_cl (by omega) hb1
      obtain ⟨hq, hqn⟩ := isB_cl (by omega) hb2
      obtain ⟨c1, c2, c3, c4, c5⟩ := hpo.2 _ hj
      refine r_getA hK flX10_31 to_91 rfl dX10_learn_20 ?_
      refine r_iload_n (i := 1) hK dX10_learn_23 rfl rfl ?_
      refine r_ialN hK to_99 hwn (by omega) (by decide) (hPs.2 _ hj).2.2.2.2 dX10_learn_24 ?_
      refine r_iload_n (i := 2) hK dX10_learn_25 rfl rfl ?_
      refine r_ishr hK dX10_learn_26 ?_
      refine r_iconst (v := 1) hK dX10_learn_27 (by decide) ?_
      refine r_iand hK dX10_learn_28 ?_
      refine r_top (y := if (X.2.2.2.2.1 (nC p)).testBit (nC q) = true then 1 else 0) (by have e := tb_if (k := X.2.2.2.2.1 (nC p)) (w := q.toNatClampNeg) (Nat.lt_trans c5 (by decide)) (by omega); rw [← hqn] at e; exact e) ?_
      refine r_istore (i := 4) hK hm dX10_learn_29 (by decide) ?_
      refine r_aload_n (i := 0) hK dX10_learn_31 rfl rfl ?_
      refine r_getA hK flX10_31 to_91 rfl dX10_learn_32 ?_
      refine r_iload_n (i := 1) hK dX10_learn_35 rfl rfl ?_
      refine r_iload_n (i := 3) hK dX10_learn_36 rfl rfl ?_
      refine r_if_eq (tgt := 53) hK dX10_learn_37 (by decide) (fun h37 => ?_) (fun h37 => ?_)
      · refine r_aload_n (i := 0) hK dX10_learn_53 rfl rfl ?_
        refine r_getA hK flX10_31 to_91 rfl dX10_learn_54 ?_
        refine r_iload_n (i := 1) hK dX10_learn_57 rfl rfl ?_
        refine r_ialN hK to_99 hwn (by omega) (by decide) (hPs.2 _ hj).2.2.2.2 dX10_learn_58 ?_
        refine r_iconst (v := 1) hK dX10_learn_59 (by decide) ?_
        refine r_iload_n (i := 2) hK dX10_learn_60 rfl rfl ?_
        refine r_ishl hK dX10_learn_61 ?_
        refine r_iconst (v := (-1)) hK dX10_learn_62 (by decide) ?_
        refine r_ixor hK dX10_learn_63 ?_
        refine r_iand hK dX10_learn_64 ?_
        refine r_top (y := nI (clrN (X.2.2.2.2.1 (nC p)) (nC q))) (by have e := clr_nI (q := q.toNatClampNeg) c5 (by omega); rw [← hqn] at e; exact e) ?_
        refine r_iasN hK to_99 hwn (by omega) (by decide) dX10_learn_65 ?_
        refine r_iload (i := 4) hK dX10_learn_66 rfl ?_
        refine q_iret hK hR dX10_learn_68 ?_
        unfold aLrn
        first
          | (have hb0 : ¬ (isB p X.2.2.1.1 && isB q X.2.1.1) = true := (by rw [B1_0.mp h5]; simp); rw [if_neg hb0, if_neg hb0]; exact ⟨rfl, rfl⟩)
          | (have hb0 : ¬ (isB p X.2.2.1.1 && isB q X.2.1.1) = true := (by rw [B1_0.mp h13]; simp); rw [if_neg hb0, if_neg hb0]; exact ⟨rfl, rfl⟩)
          | (rw [if_pos hbb, if_pos hbb, if_pos h37]; exact ⟨rfl, rfl⟩)
          | (rw [if_pos hbb, if_pos hbb, if_neg h37]; exact ⟨rfl, rfl⟩)
      · refine r_aload_n (i := 0) hK dX10_learn_40 rfl rfl ?_
        refine r_getA hK flX10_31 to_91 rfl dX10_learn_41 ?_
        refine r_iload_n (i := 1) hK dX10_learn_44 rfl rfl ?_
        refine r_ialN hK to_99 hwn (by omega) (by decide) (hPs.2 _ hj).2.2.2.2 dX10_learn_45 ?_
        refine r_iconst (v := 1) hK dX10_learn_46 (by decide) ?_
        refine r_iload_n (i := 2) hK dX10_learn_47 rfl rfl ?_
        refine r_ishl hK dX10_learn_48 ?_
        refine r_ior hK dX10_learn_49 ?_
        refine r_top (y := nI (X.2.2.2.2.1 (nC p) ||| 1 <<< nC q)) (by have e := setbit (s := X.2.2.2.2.1 (nC p)) (p := q.toNatClampNeg) (by omega); rw [← hqn] at e; exact e) ?_
        refine r_goto (tgt := 65) hK dX10_learn_50 (by decide) ?_
        refine r_iasN hK to_99 hwn (by omega) (by decide) dX10_learn_65 ?_
        refine r_iload (i := 4) hK dX10_learn_66 rfl ?_
        refine q_iret hK hR dX10_learn_68 ?_
        unfold aLrn
        first
          | (have hb0 : ¬ (isB p X.2.2.1.1 && isB q X.2.1.1) = true := (by rw [B1_0.mp h5]; simp); rw [if_neg hb0, if_neg hb0]; exact ⟨rfl, rfl⟩)
          | (have hb0 : ¬ (isB p X.2.2.1.1 && isB q X.2.1.1) = true := (by rw [B1_0.mp h13]; simp); rw [if_neg hb0, if_neg hb0]; exact ⟨rfl, rfl⟩)
          | (rw [if_pos hbb, if_pos hbb, if_pos h37]; exact ⟨rfl, rfl⟩)
          | (rw [if_pos hbb, if_pos hbb, if_neg h37]; exact ⟨rfl, rfl⟩)
    · refine r_ldc hK ckX10_242 dX10_learn_16 ?_
      refine q_iret hK hR dX10_learn_18 ?_
      unfold aLrn
      first
        | (have hb0 : ¬ (isB p X.2.2.1.1 && isB q X.2.1.1) = true := (by rw [B1_0.mp h5]; simp); rw [if_neg hb0, if_neg hb0]; exact ⟨rfl, rfl⟩)
        | (have hb0 : ¬ (isB p X.2.2.1.1 && isB q X.2.1.1) = true := (by rw [B1_0.mp h13]; simp); rw [if_neg hb0, if_neg hb0]; exact ⟨rfl, rfl⟩)
        | (rw [if_pos hbb, if_pos hbb, if_pos h37]; exact ⟨rfl, rfl⟩)
        | (rw [if_pos hbb, if_pos hbb, if_neg h37]; exact ⟨rfl, rfl⟩)
