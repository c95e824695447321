/-! THE MODEL: into, the habit -/
/-- what the reader's steps leave as it was -/
def PK (g g' : St) : Prop := (∀ j, j ≠ 91 → (j < 101 ∨ 108 < j) → g'.1 j = g.1 j) ∧ (∀ k, (k < 15 ∨ 22 < k) → k ≠ 26 → g'.1 91 k = g.1 91 k) ∧ (∀ j k, ¬ (j = 91 ∧ k = 17) → g'.2 j k = g.2 j k)
theorem PK.rf {g : St} : PK g g := ⟨fun _ _ _ => rfl, fun _ _ _ => rfl, fun _ _ _ => rfl⟩
theorem PK.tr {g g' g2 : St} (h : PK g g') (h2 : PK g' g2) : PK g g2 := ⟨fun j a b => (h2.1 j a b).trans (h.1 j a b), fun k a b => (h2.2.1 k a b).trans (h.2.1 k a b), fun j k a => (h2.2.2 j k a).trans (h.2.2 j k a)⟩
theorem PK.up {g g' : St} {r k : Nat} {x : Int32} (h : PK g g') (hr : 101 ≤ r ∧ r ≤ 108) : PK g (upI g' r k x) := ⟨fun j a b => (upI_n (by omega)).trans (h.1 j a b), fun q a b => (congrFun (upI_n (by omega)) q).trans (h.2.1 q a b), h.2.2⟩
theorem PK.fl {g g' : St} {k : Nat} {x : Int32} (h : PK g g') (hk : (15 ≤ k ∧ k ≤ 22) ∨ k = 26) : PK g (upI g' 91 k x) := ⟨fun j a b => (upI_n a).trans (h.1 j a b), fun q a b => (upd_n2 (by omega)).trans (h.2.1 q a b), h.2.2⟩
theorem HQ.pk {g g' : St} {s : Nat} (h : HQ g s g') : PK g g' := ⟨fun j a _ => h.1 j a, fun k a b => h.2.1 k (by omega), fun j k _ => by rw [h.2.2.1]⟩
theorem WQ.pk {c : CT} {g g' : St} {s i : Nat} (h : WQ c g s i g') : PK g g' := ⟨fun j a _ => h.1 j a, fun k a b => h.2.1 k (by omega) (by omega), h.2.2.1⟩
theorem NQ.pk {c : CT} {g g' : St} {s : Nat} {lo hi v : Int32} (h : NQ c g s lo hi v g') : PK g g' := ⟨fun j a _ => h.1 j a, fun k a b => h.2.1 k (by omega) (by omega) (by omega) (by omega), fun j k _ => by rw [h.2.2.1]⟩
theorem MTx_p {g g' : St} {n : Nat} {c : CT} (h : MTx g n c) (hf : PK g g') : MTx g' n c := by
  obtain ⟨h1, h2, h3⟩ := h
  exact ⟨h1, (hf.2.1 14 (by decide) (by decide)).trans h2, fun i hi => by rw [hf.1 100 (by decide) (by decide)]; exact h3 i hi⟩

set_option maxHeartbeats 4000000 in
set_option maxRecDepth 100000 in
theorem c_mInto14 {ad : Nat → Nat} {g : St} {n p r k : Nat} {c : CT} {i x y : Int32} (hT : MTx g n c) (hp : p ≤ n) (hpo : g.1 91 16 = nI p) (hr : TT[r]? = some (.inr (0, 14, []))) (hi : i = nI k) (hk : k < 14) : Ci 3 mX10_into [.ref 91, .ref r, .int i, .int x, .int y] ad g (fun v g' => ∃ g1, NQ c g (sk c p) x y v g1 ∧ g' = upI g1 r k (g1.1 91 19)) := by
  refine Cm.mk rfl (Nat.le_of_ble_eq_true rfl) (fun K hK hR hm hnn => ?_)
  refine r_aload_n (i := 0) hK dX10_into_0 rfl rfl ?_
  refine r_iload_n (i := 3) hK dX10_into_1 rfl rfl ?_
  refine r_iload (i := 4) hK dX10_into_2 rfl ?_
  refine r_ci2 hK hnn (c_mTakeNumber hT hp hpo) moX10_takeNumber mlX10_183 to_91 rfl rfl dX10_into_4 (Nat.le_of_ble_eq_true rfl) (Nat.le_of_ble_eq_true rfl) (fun v4 g4 q4 => ?_)
  have hf := q4
  refine r_istore (i := 5) hK hm dX10_into_7 (by decide) ?_
  refine r_aload_n (i := 1) hK dX10_into_9 rfl rfl ?_
  refine r_iload_n (i := 2) hK dX10_into_10 rfl rfl ?_
  refine r_aload_n (i := 0) hK dX10_into_11 rfl rfl ?_
  refine r_getI hK flX10_180 to_91 rfl dX10_into_12 ?_
  refine r_iasN hK hr hi hk (by decide) dX10_into_15 ?_
  refine r_iload (i := 5) hK dX10_into_16 rfl ?_
  refine q_iret hK hR dX10_into_18 ?_
  exact ⟨_, hf, rfl⟩
set_option maxHeartbeats 4000000 in
set_option maxRecDepth 100000 in
theorem c_mInto6 {ad : Nat → Nat} {g : St} {n p r k : Nat} {c : CT} {i x y : Int32} (hT : MTx g n c) (hp : p ≤ n) (hpo : g.1 91 16 = nI p) (hr : TT[r]? = some (.inr (0, 6, []))) (hi : i = nI k) (hk : k < 6) : Ci 3 mX10_into [.ref 91, .ref r, .int i, .int x, .int y] ad g (fun v g' => ∃ g1, NQ c g (sk c p) x y v g1 ∧ g' = upI g1 r k (g1.1 91 19)) := by
  refine Cm.mk rfl (Nat.le_of_ble_eq_true rfl) (fun K hK hR hm hnn => ?_)
  refine r_aload_n (i := 0) hK dX10_into_0 rfl rfl ?_
  refine r_iload_n (i := 3) hK dX10_into_1 rfl rfl ?_
  refine r_iload (i := 4) hK dX10_into_2 rfl ?_
  refine r_ci2 hK hnn (c_mTakeNumber hT hp hpo) moX10_takeNumber mlX10_183 to_91 rfl rfl dX10_into_4 (Nat.le_of_ble_eq_true rfl) (Nat.le_of_ble_eq_true rfl) (fun v4 g4 q4 => ?_)
  have hf := q4
  refine r_istore (i := 5) hK hm dX10_into_7 (by decide) ?_
  refine r_aload_n (i := 1) hK dX10_into_9 rfl rfl ?_
  refine r_iload_n (i := 2) hK dX10_into_10 rfl rfl ?_
  refine r_aload_n (i := 0) hK dX10_into_11 rfl rfl ?_
  refine r_getI hK flX10_180 to_91 rfl dX10_into_12 ?_
  refine r_iasN hK hr hi hk (by decide) dX10_into_15 ?_
  refine r_iload (i := 5) hK dX10_into_16 rfl ?_
  refine q_iret hK hR dX10_into_18 ?_
  exact ⟨_, hf, rfl⟩
theorem lc_0 {a b : Nat} (ha : a < 2 ^ 63) (hb : b < 2 ^ 63) : lg_cmp (lN a) (lN b) = 0 ↔ a = b := by
  constructor
  · intro h
    have h1 : ¬ lN a < lN b := fun z => by have := (lg_cmp_lt _ _).mpr z; rw [h] at this; exact absurd this (by decide)
    have h2 : ¬ lN b < lN a := fun z => by have := (lg_cmp_gt _ _).mpr z; rw [h] at this; exact absurd this (by decide)
    rw [lN_lt63 ha hb] at h1
    rw [lN_lt63 hb ha] at h2
    omega
  · intro h
    subst h
    have h1 : ¬ lg_cmp (lN a) (lN a) < 0 := fun z => by have := (lN_lt63 ha ha).mp ((lg_cmp_lt _ _).mp z); omega
    have h2 : ¬ 0 < lg_cmp (lN a) (lN a) := fun z => by have := (lN_lt63 ha ha).mp ((lg_cmp_gt _ _).mp z); omega
    rw [Int32.lt_iff_toInt_lt] at h1 h2
    refine Int32.toInt_inj.mp ?_
    omega
theorem lc_w {n s k : Nat} {c : CT} (hT : tOk n c) (hk : k < 8) : lg_cmp (lN (wc c s (wl c s))) (lN (cw (cN k) (sxLen.getD k 0))) = 0 ↔ isW c s k = true := by
  rw [lc_0 (Nat.lt_of_le_of_lt (wc_le _ (fun j hj => wl_lt hj)) (by decide)) (Nat.lt_of_le_of_lt (cN_all k hk).2.1 (by decide)), w_iff hT hk]
theorem isW_tl {n s k : Nat} {c : CT} (hT : tOk n c) (hk : k < 8) (h : isW c s k = true) : wl c s = tL c s := by
  unfold isW at h
  have h2 := ((wdF_i _ _ _).mp h).1
  simp only [Bool.and_eq_true] at h2
  exact (tl_wl h2.1).symm
def HbQ (c : CT) (g : St) (s k : Nat) (v : Int32) (g' : St) : Prop := PK g g' ∧ v = nI (habG c (0, 0) s).1 ∧ ((habG c (0, 0) s).1 ≠ 0 → g'.1 91 15 = nI s) ∧ ((habG c (0, 0) s).1 = 0 → g'.1 91 15 = g.1 91 15 ∧ g'.1 91 16 = nI (s + tL c s) ∧ g'.1 107 = upd (g.1 107) k (nI (habF c s)) ∧ (∀ j, j ≠ 91 → j ≠ 107 → g'.1 j = g.1 j) ∧ ∀ q, q = 21 ∨ q = 22 ∨ q = 26 → g'.1 91 q = g.1 91 q)
theorem HbQ_1 {c : CT} {g g' : St} {s k i : Nat} {x : Int32} (h : WQ c g s i g') (hh : ¬ habF c s < 4) (hx : x = nI s) : HbQ c g s k 1 (upI g' 91 15 x) := by
  unfold HbQ habG
  rw [if_neg hh]
  exact ⟨h.pk.fl (by omega), rfl, fun _ => by rw [upI_s, upd_s]; exact hx, fun z => absurd z (Nat.succ_ne_zero _)⟩
theorem HbQ_0 {c : CT} {g g' : St} {s k i : Nat} {x y : Int32} (h : WQ c g s i g') (hh : habF c s < 4) (hi : i = tL c s) (hx : x = nI (habF c s)) (hy : y = nI (s + i)) : HbQ c g s k 0 (upI (upI g' 107 k x) 91 16 y) := by
  subst hi; subst hx; subst hy
  unfold HbQ habG
  rw [if_pos hh]
  refine ⟨(h.pk.up (by omega)).fl (by omega), rfl, fun z => absurd rfl z, fun _ => ⟨?_, by rw [upI_s, upd_s], ?_, fun j a b => (upI_n a).trans ((upI_n b).trans (h.1 j a)), fun q hq => ?_⟩⟩
  · exact (upd_n2 (by decide)).trans ((congrFun (upI_n (by decide)) _).trans (h.2.1 15 (by decide) (by decide)))
  · rw [upI_n (by decide), upI_s, h.1 107 (by decide)]
  · exact (upd_n2 (by omega)).trans ((congrFun (upI_n (by decide)) _).trans (h.2.1 q (by omega) (by omega)))
set_option maxHeartbeats 4000000 in
set_option maxRecDepth 100000 in
theorem c_mHabit9 {ad : Nat → Nat} {g : St} {n p k : Nat} {c : CT} (hT : MTx g n c) (hp : p ≤ n) (hpo : g.1 91 16 = nI p) (hk : g.1 91 26 = nI k) (hk6 : k < 6) : Ci 3 mX10_takeHabit [.ref 91] ad g (fun v g' => HbQ c g (sk c p) k v g') := by
  refine Cm.mk rfl (Nat.le_of_ble_eq_true rfl) (fun K hK hR hm hnn => ?_)
  refine r_aload_n (i := 0) hK dX10_takeHabit_0 rfl rfl ?_
  refine r_cv0 hK hnn (c_mReadWord hT hp hpo) moX10_readWord mlX10_196 to_91 rfl rfl dX10_takeHabit_1 (Nat.le_of_ble_eq_true rfl) (Nat.le_of_ble_eq_true rfl) (fun g1 q1 => ?_)
  have hf := q1
  refine r_aload_n (i := 0) hK dX10_takeHabit_4 rfl rfl ?_
  refine r_getL hK flX10_150 to_91 rfl dX10_takeHabit_5 ?_
  refine r_topL (y := lN (wc c (sk c p) (wl c (sk c p)))) hf.2.2.2.2.2 ?_
  refine r_bipush (v := 115) hK dX10_takeHabit_8 (by decide) ?_
  refine r_bipush (v := 105) hK dX10_takeHabit_10 (by decide) ?_
  refine r_bipush (v := 108) hK dX10_takeHabit_12 (by decide) ?_
  refine r_sl3 hK hnn (c_mCode rfl rfl rfl (by decide) (by decide) (by decide)) moX10_code mlX10_199 dX10_takeHabit_14 (Nat.le_of_ble_eq_true rfl) (Nat.le_of_ble_eq_true rfl) (eqL ?_)
  refine r_bipush (v := 101) hK dX10_takeHabit_17 (by decide) ?_
  refine r_bipush (v := 110) hK dX10_takeHabit_19 (by decide) ?_
  refine r_sl3 hK hnn (c_mLong2 rfl rfl rfl (by decide) (by decide)) moX10_longer mlX10_203 dX10_takeHabit_21 (Nat.le_of_ble_eq_true rfl) (Nat.le_of_ble_eq_true rfl) (eqL ?_)
  refine r_bipush (v := 116) hK dX10_takeHabit_24 (by decide) ?_
  refine r_iconst (v := 0) hK dX10_takeHabit_26 (by decide) ?_
  refine r_sl3 hK hnn (c_mLong1 rfl rfl rfl (by decide)) moX10_longer mlX10_203 dX10_takeHabit_27 (Nat.le_of_ble_eq_true rfl) (Nat.le_of_ble_eq_true rfl) (eqL ?_)
  refine r_topL (y := lN (cw (cN 3) (sxLen.getD 3 0))) (congrArg lN (by decide)) ?_
  refine r_lcmp hK dX10_takeHabit_30 ?_
  refine r_if_ne (tgt := 38) hK dX10_takeHabit_31 (by decide) (fun h31 => ?_) (fun h31 => ?_)
  · refine r_aload_n (i := 0) hK dX10_takeHabit_38 rfl rfl ?_
    refine r_getL hK flX10_150 to_91 rfl dX10_takeHabit_39 ?_
    have n3 : ¬ isW c (sk c p) 3 = true := fun z => h31 ((lc_w (k := 3) hT.1 (by decide)).mpr z)
    refine r_topL (y := lN (wc c (sk c p) (wl c (sk c p)))) hf.2.2.2.2.2 ?_
    refine r_bipush (v := 102) hK dX10_takeHabit_42 (by decide) ?_
    refine r_bipush (v := 105) hK dX10_takeHabit_44 (by decide) ?_
    refine r_bipush (v := 114) hK dX10_takeHabit_46 (by decide) ?_
    refine r_sl3 hK hnn (c_mCode rfl rfl rfl (by decide) (by decide) (by decide)) moX10_code mlX10_199 dX10_takeHabit_48 (Nat.le_of_ble_eq_true rfl) (Nat.le_of_ble_eq_true rfl) (eqL ?_)
    refine r_bipush (v := 115) hK dX10_takeHabit_51 (by decide) ?_
    refine r_bipush (v := 116) hK dX10_takeHabit_53 (by decide) ?_
    refine r_sl3 hK hnn (c_mLong2 rfl rfl rfl (by decide) (by decide)) moX10_longer mlX10_203 dX10_takeHabit_55 (Nat.le_of_ble_eq_true rfl) (Nat.le_of_ble_eq_true rfl) (eqL ?_)
    refine r_topL (y := lN (cw (cN 4) (sxLen.getD 4 0))) (congrArg lN (by decide)) ?_
    refine r_lcmp hK dX10_takeHabit_58 ?_
    refine r_if_ne (tgt := 66) hK dX10_takeHabit_59 (by decide) (fun h59 => ?_) (fun h59 => ?_)
    · refine r_aload_n (i := 0) hK dX10_takeHabit_66 rfl rfl ?_
      refine r_getL hK flX10_150 to_91 rfl dX10_takeHabit_67 ?_
      have n4 : ¬ isW c (sk c p) 4 = true := fun z => h59 ((lc_w (k := 4) hT.1 (by decide)).mpr z)
      refine r_topL (y := lN (wc c (sk c p) (wl c (sk c p)))) hf.2.2.2.2.2 ?_
      refine r_bipush (v := 101) hK dX10_takeHabit_70 (by decide) ?_
      refine r_bipush (v := 114) hK dX10_takeHabit_72 (by decide) ?_
      refine r_bipush (v := 114) hK dX10_takeHabit_74 (by decide) ?_
      refine r_sl3 hK hnn (c_mCode rfl rfl rfl (by decide) (by decide) (by decide)) moX10_code mlX10_199 dX10_takeHabit_76 (Nat.le_of_ble_eq_true rfl) (Nat.le_of_ble_eq_true rfl) (eqL ?_)
      refine r_bipush (v := 97) hK dX10_takeHabit_79 (by decide) ?_
      refine r_bipush (v := 110) hK dX10_takeHabit_81 (by decide) ?_
      refine r_sl3 hK hnn (c_mLong2 rfl rfl rfl (by decide) (by decide)) moX10_longer mlX10_203 dX10_takeHabit_83 (Nat.le_of_ble_eq_true rfl) (Nat.le_of_ble_eq_true rfl) (eqL ?_)
      refine r_bipush (v := 100) hK dX10_takeHabit_86 (by decide) ?_
      refine r_iconst (v := 0) hK dX10_takeHabit_88 (by decide) ?_
      refine r_sl3 hK hnn (c_mLong1 rfl rfl rfl (by decide)) moX10_longer mlX10_203 dX10_takeHabit_89 (Nat.le_of_ble_eq_true rfl) (Nat.le_of_ble_eq_true rfl) (eqL ?_)
      refine r_topL (y := lN (cw (cN 5) (sxLen.getD 5 0))) (congrArg lN (by decide)) ?_
      refine r_lcmp hK dX10_takeHabit_92 ?_
      refine r_if_ne (tgt := 100) hK dX10_takeHabit_93 (by decide) (fun h93 => ?_) (fun h93 => ?_)
      · refine r_aload_n (i := 0) hK dX10_takeHabit_100 rfl rfl ?_
        refine r_getL hK flX10_150 to_91 rfl dX10_takeHabit_101 ?_
        have n5 : ¬ isW c (sk c p) 5 = true := fun z => h93 ((lc_w (k := 5) hT.1 (by decide)).mpr z)
        refine r_topL (y := lN (wc c (sk c p) (wl c (sk c p)))) hf.2.2.2.2.2 ?_
        refine r_bipush (v := 119) hK dX10_takeHabit_104 (by decide) ?_
        refine r_bipush (v := 104) hK dX10_takeHabit_106 (by decide) ?_
        refine r_bipush (v := 111) hK dX10_takeHabit_108 (by decide) ?_
        refine r_sl3 hK hnn (c_mCode rfl rfl rfl (by decide) (by decide) (by decide)) moX10_code mlX10_199 dX10_takeHabit_110 (Nat.le_of_ble_eq_true rfl) (Nat.le_of_ble_eq_true rfl) (eqL ?_)
        refine r_bipush (v := 108) hK dX10_takeHabit_113 (by decide) ?_
        refine r_bipush (v := 101) hK dX10_takeHabit_115 (by decide) ?_
        refine r_sl3 hK hnn (c_mLong2 rfl rfl rfl (by decide) (by decide)) moX10_longer mlX10_203 dX10_takeHabit_117 (Nat.le_of_ble_eq_true rfl) (Nat.le_of_ble_eq_true rfl) (eqL ?_)
        refine r_topL (y := lN (cw (cN 6) (sxLen.getD 6 0))) (congrArg lN (by decide)) ?_
        refine r_lcmp hK dX10_takeHabit_120 ?_
        refine r_if_ne (tgt := 128) hK dX10_takeHabit_121 (by decide) (fun h121 => ?_) (fun h121 => ?_)
        · refine r_iconst (v := (-1)) hK dX10_takeHabit_128 (by decide) ?_
          have n6 : ¬ isW c (sk c p) 6 = true := fun z => h121 ((lc_w (k := 6) hT.1 (by decide)).mpr z)
          refine r_istore_n (i := 1) hK hm dX10_takeHabit_129 rfl (by decide) ?_
          refine r_iload_n (i := 1) hK dX10_takeHabit_130 rfl rfl ?_
          refine r_if_ge (tgt := 144) hK dX10_takeHabit_131 (by decide) (fun h => absurd h (by decide)) (fun _ => ?_)
          refine r_aload_n (i := 0) hK dX10_takeHabit_134 rfl rfl ?_
          refine r_iconst (v := 1) hK dX10_takeHabit_135 (by decide) ?_
          refine r_aload_n (i := 0) hK dX10_takeHabit_136 rfl rfl ?_
          refine r_getI hK flX10_143 to_91 rfl dX10_takeHabit_137 ?_
          refine r_top (y := nI (sk c p)) hf.2.2.2.1 ?_
          refine r_ci2 hK hnn c_mFails moX10_fails mlX10_173 to_91 rfl rfl dX10_takeHabit_140 (Nat.le_of_ble_eq_true rfl) (Nat.le_of_ble_eq_true rfl) (eqI ?_)
          refine q_iret hK hR dX10_takeHabit_143 ?_
          exact HbQ_1 hf (by unfold habF; rw [if_neg n3, if_neg n4, if_neg n5, if_neg n6]; decide) rfl
        · refine r_iconst (v := 3) hK dX10_takeHabit_124 (by decide) ?_
          have p6 : isW c (sk c p) 6 = true := (lc_w (k := 6) hT.1 (by decide)).mp h121
          have hb : habF c (sk c p) = 3 := by unfold habF; rw [if_neg n3, if_neg n4, if_neg n5, if_pos p6]
          have htl := isW_tl hT.1 (k := 6) (by decide) p6
          refine r_goto (tgt := 129) hK dX10_takeHabit_125 (by decide) ?_
          refine r_istore_n (i := 1) hK hm dX10_takeHabit_129 rfl (by decide) ?_
          refine r_iload_n (i := 1) hK dX10_takeHabit_130 rfl rfl ?_
          refine r_if_ge (tgt := 144) hK dX10_takeHabit_131 (by decide) (fun _ => ?_) (fun h => absurd (by decide) h)
          refine r_aload_n (i := 0) hK dX10_takeHabit_144 rfl rfl ?_
          refine r_getA hK flX10_59 to_91 rfl dX10_takeHabit_145 ?_
          refine r_aload_n (i := 0) hK dX10_takeHabit_148 rfl rfl ?_
          refine r_getI hK flX10_207 to_91 rfl dX10_takeHabit_149 ?_
          refine r_top (y := nI k) ((hf.2.1 26 (by decide) (by decide)).trans hk) ?_
          refine r_iload_n (i := 1) hK dX10_takeHabit_152 rfl rfl ?_
          refine r_iasN hK to_107 rfl hk6 (by decide) dX10_takeHabit_153 ?_
          refine r_aload_n (i := 0) hK dX10_takeHabit_154 rfl rfl ?_
          refine r_aload_n (i := 0) hK dX10_takeHabit_155 rfl rfl ?_
          refine r_getI hK flX10_154 to_91 rfl dX10_takeHabit_156 ?_
          refine r_top (y := nI (sk c p + wl c (sk c p))) ((congrFun (upI_n (by decide)) _).trans hf.2.2.2.2.1) ?_
          refine r_putI hK flX10_143 ft10_16 to_91 rfl dX10_takeHabit_159 ?_
          refine r_iconst (v := 0) hK dX10_takeHabit_162 (by decide) ?_
          refine q_iret hK hR dX10_takeHabit_163 ?_
          exact HbQ_0 hf (by rw [hb]; decide) htl (by rw [hb]; rfl) rfl
      · refine r_iconst (v := 2) hK dX10_takeHabit_96 (by decide) ?_
        have p5 : isW c (sk c p) 5 = true := (lc_w (k := 5) hT.1 (by decide)).mp h93
        have hb : habF c (sk c p) = 2 := by unfold habF; rw [if_neg n3, if_neg n4, if_pos p5]
        have htl := isW_tl hT.1 (k := 5) (by decide) p5
        refine r_goto (tgt := 129) hK dX10_takeHabit_97 (by decide) ?_
        refine r_istore_n (i := 1) hK hm dX10_takeHabit_129 rfl (by decide) ?_
        refine r_iload_n (i := 1) hK dX10_takeHabit_130 rfl rfl ?_
        refine r_if_ge (tgt := 144) hK dX10_takeHabit_131 (by decide) (fun _ => ?_) (fun h => absurd (by decide) h)
        refine r_aload_n (i := 0) hK dX10_takeHabit_144 rfl rfl ?_
        refine r_getA hK flX10_59 to_91 rfl dX10_takeHabit_145 ?_
        refine r_aload_n (i := 0) hK dX10_takeHabit_148 rfl rfl ?_
        refine r_getI hK flX10_207 to_91 rfl dX10_takeHabit_149 ?_
        refine r_top (y := nI k) ((hf.2.1 26 (by decide) (by decide)).trans hk) ?_
        refine r_iload_n (i := 1) hK dX10_takeHabit_152 rfl rfl ?_
        refine r_iasN hK to_107 rfl hk6 (by decide) dX10_takeHabit_153 ?_
        refine r_aload_n (i := 0) hK dX10_takeHabit_154 rfl rfl ?_
        refine r_aload_n (i := 0) hK dX10_takeHabit_155 rfl rfl ?_
        refine r_getI hK flX10_154 to_91 rfl dX10_takeHabit_156 ?_
        refine r_top (y := nI (sk c p + wl c (sk c p))) ((congrFun (upI_n (by decide)) _).trans hf.2.2.2.2.1) ?_
        refine r_putI hK flX10_143 ft10_16 to_91 rfl dX10_takeHabit_159 ?_
        refine r_iconst (v := 0) hK dX10_takeHabit_162 (by decide) ?_
        refine q_iret hK hR dX10_takeHabit_163 ?_
        exact HbQ_0 hf (by rw [hb]; decide) htl (by rw [hb]; rfl) rfl
    · refine r_iconst (v := 1) hK dX10_takeHabit_62 (by decide) ?_
      have p4 : isW c (sk c p) 4 = true := (lc_w (k := 4) hT.1 (by decide)).mp h59
      have hb : habF c (sk c p) = 1 := by unfold habF; rw [if_neg n3, if_pos p4]
      have htl := isW_tl hT.1 (k := 4) (by decide) p4
      refine r_goto (tgt := 129) hK dX10_takeHabit_63 (by decide) ?_
      refine r_istore_n (i := 1) hK hm dX10_takeHabit_129 rfl (by decide) ?_
      refine r_iload_n (i := 1) hK dX10_takeHabit_130 rfl rfl ?_
      refine r_if_ge (tgt := 144) hK dX10_takeHabit_131 (by decide) (fun _ => ?_) (fun h => absurd (by decide) h)
      refine r_aload_n (i := 0) hK dX10_takeHabit_144 rfl rfl ?_
      refine r_getA hK flX10_59 to_91 rfl dX10_takeHabit_145 ?_
      refine r_aload_n (i := 0) hK dX10_takeHabit_148 rfl rfl ?_
      refine r_getI hK flX10_207 to_91 rfl dX10_takeHabit_149 ?_
      refine r_top (y := nI k) ((hf.2.1 26 (by decide) (by decide)).trans hk) ?_
      refine r_iload_n (i := 1) hK dX10_takeHabit_152 rfl rfl ?_
      refine r_iasN hK to_107 rfl hk6 (by decide) dX10_takeHabit_153 ?_
      refine r_aload_n (i := 0) hK dX10_takeHabit_154 rfl rfl ?_
      refine r_aload_n (i := 0) hK dX10_takeHabit_155 rfl rfl ?_
      refine r_getI hK flX10_154 to_91 rfl dX10_takeHabit_156 ?_
      refine r_top (y := nI (sk c p + wl c (sk c p))) ((congrFun (upI_n (by decide)) _).trans hf.2.2.2.2.1) ?_
      refine r_putI hK flX10_143 ft10_16 to_91 rfl dX10_takeHabit_159 ?_
      refine r_iconst (v := 0) hK dX10_takeHabit_162 (by decide) ?_
      refine q_iret hK hR dX10_takeHabit_163 ?_
      exact HbQ_0 hf (by rw [hb]; decide) htl (by rw [hb]; rfl) rfl
  · refine r_iconst (v := 0) hK dX10_takeHabit_34 (by decide) ?_
    have p3 : isW c (sk c p) 3 = true := (lc_w (k := 3) hT.1 (by decide)).mp h31
    have hb : habF c (sk c p) = 0 := by unfold habF; rw [if_pos p3]
    have htl := isW_tl hT.1 (k := 3) (by decide) p3
    refine r_goto (tgt := 129) hK dX10_takeHabit_35 (by decide) ?_
    refine r_istore_n (i := 1) hK hm dX10_takeHabit_129 rfl (by decide) ?_
    refine r_iload_n (i := 1) hK dX10_takeHabit_130 rfl rfl ?_
    refine r_if_ge (tgt := 144) hK dX10_takeHabit_131 (by decide) (fun _ => ?_) (fun h => absurd (by decide) h)
    refine r_aload_n (i := 0) hK dX10_takeHabit_144 rfl rfl ?_
    refine r_getA hK flX10_59 to_91 rfl dX10_takeHabit_145 ?_
    refine r_aload_n (i := 0) hK dX10_takeHabit_148 rfl rfl ?_
    refine r_getI hK flX10_207 to_91 rfl dX10_takeHabit_149 ?_
    refine r_top (y := nI k) ((hf.2.1 26 (by decide) (by decide)).trans hk) ?_
    refine r_iload_n (i := 1) hK dX10_takeHabit_152 rfl rfl ?_
    refine r_iasN hK to_107 rfl hk6 (by decide) dX10_takeHabit_153 ?_
    refine r_aload_n (i := 0) hK dX10_takeHabit_154 rfl rfl ?_
    refine r_aload_n (i := 0) hK dX10_takeHabit_155 rfl rfl ?_
    refine r_getI hK flX10_154 to_91 rfl dX10_takeHabit_156 ?_
    refine r_top (y := nI (sk c p + wl c (sk c p))) ((congrFun (upI_n (by decide)) _).trans hf.2.2.2.2.1) ?_
    refine r_putI hK flX10_143 ft10_16 to_91 rfl dX10_takeHabit_159 ?_
    refine r_iconst (v := 0) hK dX10_takeHabit_162 (by decide) ?_
    refine q_iret hK hR dX10_takeHabit_163 ?_
    exact HbQ_0 hf (by rw [hb]; decide) htl (by rw [hb]; rfl) rfl
