/-! THE READER'S STATE -/
abbrev FP : Type := Nat × Nat
def fI (F : FP) : Int32 := if F.1 = 0 then -1 else nI F.2
def bl (F : FP) (k s : Nat) : FP := if F.1 = 0 then (k, s) else F
def rs (g : St) (c : CT) (F : FP) (s : Nat) : St := tk (upI (upI g 3 2 (nI F.1)) 3 3 (fI F)) c s
theorem rd_rd {g : St} {q L a b v q' L' a' b' v' : Int32} : rd (rd g q L a b v) q' L' a' b' v' = rd g q' L' a' b' v' := by
  unfold rd
  rw [upR_upR, upR_s]
  congr 1
  funext k
  skip
  by_cases k4 : k = 4
  · simp only [k4, if_true]
  · by_cases k5 : k = 5
    · subst k5; rfl
    · by_cases k6 : k = 6
      · subst k6; rfl
      · by_cases k7 : k = 7
        · subst k7; rfl
        · by_cases k8 : k = 8
          · subst k8; rfl
          · simp only [k4, k5, k6, k7, k8, if_false]
theorem tk_tk {g : St} {c : CT} {s s' : Nat} : tk (tk g c s) c s' = tk g c s' := rd_rd
theorem rs_2 {g : St} {c : CT} {F : FP} {s : Nat} : (rs g c F s).1 3 2 = nI F.1 := by unfold rs tk; rw [rd_3]; show (upI _ 3 3 _).1 3 2 = _; rw [upd_n2 (by decide), upI_s, upd_s]
theorem rs_3 {g : St} {c : CT} {F : FP} {s : Nat} : (rs g c F s).1 3 3 = fI F := by unfold rs tk; rw [rd_3]; show (upI _ 3 3 _).1 3 3 = _; rw [upI_s, upd_s]
theorem rs_4 {g : St} {c : CT} {F : FP} {s : Nat} : (rs g c F s).1 3 4 = nI s := rd_4
theorem rs_5 {g : St} {c : CT} {F : FP} {s : Nat} : (rs g c F s).1 3 5 = nI (tL c s) := rd_5
theorem rs_6 {g : St} {c : CT} {F : FP} {s : Nat} : (rs g c F s).1 3 6 = B1 (lt (c s)) := rd_6
theorem rs_7 {g : St} {c : CT} {F : FP} {s : Nat} : (rs g c F s).1 3 7 = B1 (fg (c s)) := rd_7
theorem rs_8 {g : St} {c : CT} {F : FP} {s : Nat} : (rs g c F s).1 3 8 = vI c s (tL c s - 1) := rd_8
theorem rs_1 {g : St} {c : CT} {F : FP} {s : Nat} : (rs g c F s).1 3 1 = g.1 3 1 := by unfold rs tk; rw [rd_1, upd_n2 (by decide), upd_n2 (by decide)]
theorem rs_n {g : St} {c : CT} {F : FP} {s j : Nat} (h : j ≠ 3) : (rs g c F s).1 j = g.1 j := by unfold rs tk; rw [rd_n h, upI_n h, upI_n h]
theorem rs_l {g : St} {c : CT} {F : FP} {s : Nat} : (rs g c F s).2 = g.2 := rfl
theorem TxC_rs {g : St} {n : Nat} {c : CT} (h : TxC g n c) {F : FP} {s : Nat} : TxC (rs g c F s) n c := TxC_of h (rs_n (by decide)) (rs_n (by decide)) rs_1
theorem rs_ext {g g' : St} {c : CT} {F : FP} {s : Nat} (h3 : ∀ k, k ≠ 2 → k ≠ 3 → k ≠ 4 → k ≠ 5 → k ≠ 6 → k ≠ 7 → k ≠ 8 → g'.1 3 k = g.1 3 k) (hn : ∀ j, j ≠ 3 → g'.1 j = g.1 j) (hl : g'.2 = g.2) (e2 : g'.1 3 2 = nI F.1) (e3 : g'.1 3 3 = fI F) (e4 : g'.1 3 4 = nI s) (e5 : g'.1 3 5 = nI (tL c s)) (e6 : g'.1 3 6 = B1 (lt (c s))) (e7 : g'.1 3 7 = B1 (fg (c s))) (e8 : g'.1 3 8 = vI c s (tL c s - 1)) : g' = rs g c F s := by
  refine Prod.ext (funext fun j => ?_) hl
  by_cases h : j = 3
  · subst h
    funext k
    by_cases k2 : k = 2
    · rw [k2, e2, rs_2]
    · by_cases k3 : k = 3
      · rw [k3, e3, rs_3]
      · by_cases k4 : k = 4
        · rw [k4, e4, rs_4]
        · by_cases k5 : k = 5
          · rw [k5, e5, rs_5]
          · by_cases k6 : k = 6
            · rw [k6, e6, rs_6]
            · by_cases k7 : k = 7
              · rw [k7, e7, rs_7]
              · by_cases k8 : k = 8
                · rw [k8, e8, rs_8]
                · rw [h3 k k2 k3 k4 k5 k6 k7 k8]
                  unfold rs tk
                  rw [rd_3]
                  simp only [k4, k5, k6, k7, k8, if_false]
                  rw [upd_n2 k3, upd_n2 k2]
  · rw [hn j h, rs_n h]
theorem rs_k {g : St} {c : CT} {F : FP} {s k : Nat} (k2 : k ≠ 2) (k3 : k ≠ 3) (k4 : k ≠ 4) (k5 : k ≠ 5) (k6 : k ≠ 6) (k7 : k ≠ 7) (k8 : k ≠ 8) : (rs g c F s).1 3 k = g.1 3 k := by
  unfold rs tk
  rw [rd_3]
  simp only [k4, k5, k6, k7, k8, if_false]
  rw [upd_n2 k3, upd_n2 k2]
theorem rs_up {g : St} {c : CT} {F : FP} {s j k : Nat} {x : Int32} (h : j ≠ 3) : upI (rs g c F s) j k x = rs (upI g j k x) c F s := by
  refine rs_ext (fun q k2 k3 k4 k5 k6 k7 k8 => ?_) (fun q hq => ?_) rfl ?_ ?_ ?_ ?_ ?_ ?_ ?_
  · rw [upI_n (Ne.symm h), upI_n (Ne.symm h)]; exact rs_k k2 k3 k4 k5 k6 k7 k8
  · by_cases e : q = j
    · subst e; rw [upI_s, upI_s, rs_n h]
    · rw [upI_n e, upI_n e, rs_n hq]
  · rw [upI_n (Ne.symm h)]; exact rs_2
  · rw [upI_n (Ne.symm h)]; exact rs_3
  · rw [upI_n (Ne.symm h)]; exact rs_4
  · rw [upI_n (Ne.symm h)]; exact rs_5
  · rw [upI_n (Ne.symm h)]; exact rs_6
  · rw [upI_n (Ne.symm h)]; exact rs_7
  · rw [upI_n (Ne.symm h)]; exact rs_8
theorem rs_bl {g : St} {c : CT} {F : FP} {s k : Nat} (hk : 0 < k) (h : F.1 = 0) : upI (upI (rs g c F s) 3 2 (nI k)) 3 3 (nI s) = rs g c (bl F k s) s := by
  have hb : bl F k s = (k, s) := by unfold bl; rw [if_pos h]
  rw [hb]
  refine rs_ext (fun q k2 k3 k4 k5 k6 k7 k8 => ?_) (fun q hq => ?_) rfl ?_ ?_ ?_ ?_ ?_ ?_ ?_
  · rw [upd_n2 k3, upd_n2 k2]; exact rs_k k2 k3 k4 k5 k6 k7 k8
  · rw [upI_n hq, upI_n hq, rs_n hq]
  · rw [upd_n2 (by decide), upI_s, upd_s]
  · rw [upI_s, upd_s]; unfold fI; rw [if_neg (by omega)]
  · rw [upd_n2 (by decide), upd_n2 (by decide)]; exact rs_4
  · rw [upd_n2 (by decide), upd_n2 (by decide)]; exact rs_5
  · rw [upd_n2 (by decide), upd_n2 (by decide)]; exact rs_6
  · rw [upd_n2 (by decide), upd_n2 (by decide)]; exact rs_7
  · rw [upd_n2 (by decide), upd_n2 (by decide)]; exact rs_8
theorem c_stepR {ad : Nat → Nat} {g : St} {n s : Nat} {c : CT} {F : FP} (hT : TxC g n c) (hs : s ≤ n) : Cv 3 mX7_step [.ref 3] ad (rs g c F s) (fun g' => g' = rs g c F (nx c s)) := by
  have h := c_stepG (ad := ad) (g := rs g c F s) (q := s + tL c s) (TxC_rs hT) (tL_le hT.1 hs) (by rw [rs_4, rs_5, nI_add])
  refine Cv.eq h ?_
  show tk (rs g c F s) c (nx c s) = _
  exact tk_tk

set_option maxHeartbeats 4000000 in
set_option maxRecDepth 100000 in
theorem c_blame {ad : Nat → Nat} {g : St} {s : Nat} {c : CT} {F : FP} {k : Nat} {x : Int32} (hF : F.1 ≤ 4) (hx : x = nI k) (hk : 0 < k) : Cv 1 mX7_blame [.ref 3, .int x] ad (rs g c F s) (fun g' => g' = rs g c (bl F k s) s) := by
  subst hx
  refine Cm.mk rfl (Nat.le_of_ble_eq_true rfl) (fun K hK hR hm hnn => ?_)
  refine r_aload_n (i := 0) hK dX7_blame_0 rfl rfl ?_
  refine r_getI hK flX7_29 to_3 rfl dX7_blame_1 ?_
  refine r_top (y := nI F.1) rs_2 ?_
  refine r_if_ne (tgt := 20) hK dX7_blame_4 (by decide) (fun h4 => ?_) (fun h4 => ?_)
  · refine q_vret hK hR dX7_blame_20 ?_
    first
      | (have hF0 : F.1 = 0 := nI_inj (by omega) (by decide) h4; exact rs_bl hk hF0)
      | (unfold bl; rw [if_neg (fun z => h4 (by rw [z]; rfl))]; done)
  · refine r_aload_n (i := 0) hK dX7_blame_7 rfl rfl ?_
    refine r_iload_n (i := 1) hK dX7_blame_8 rfl rfl ?_
    refine r_putI hK flX7_29 ft7_2 to_3 rfl dX7_blame_9 ?_
    refine r_aload_n (i := 0) hK dX7_blame_12 rfl rfl ?_
    refine r_aload_n (i := 0) hK dX7_blame_13 rfl rfl ?_
    refine r_getI hK flX7_32 to_3 rfl dX7_blame_14 ?_
    refine r_top (y := nI s) ((upd_n2 (by decide)).trans rs_4) ?_
    refine r_putI hK flX7_18 ft7_3 to_3 rfl dX7_blame_17 ?_
    refine q_vret hK hR dX7_blame_20 ?_
    first
      | (have hF0 : F.1 = 0 := nI_inj (by omega) (by decide) h4; exact rs_bl hk hF0)
      | (unfold bl; rw [if_neg (fun z => h4 (by rw [z]; rfl))]; done)
def sgn (c : CT) (s k : Nat) : Bool := decide (tL c s = 1) && decide (c s = k)
set_option maxHeartbeats 4000000 in
set_option maxRecDepth 100000 in
theorem c_isSign {ad : Nat → Nat} {g : St} {n : Nat} {s : Nat} {c : CT} {F : FP} {k : Nat} {x : Int32} (hT : TxC g n c) (hs : s ≤ n) (hx : x = nI k) (hk : k < 256) : Ci 3 mX7_isSign [.ref 3, .int x] ad (rs g c F s) (fun v g' => v = B1 (sgn c s k) ∧ g' = rs g c F s) := by
  subst hx
  have h400 := hT.1.1
  have htl := tL_lt hT.1 hs
  refine Cm.mk rfl (Nat.le_of_ble_eq_true rfl) (fun K hK hR hm hnn => ?_)
  refine r_aload_n (i := 0) hK dX7_isSign_0 rfl rfl ?_
  refine r_getI hK flX7_35 to_3 rfl dX7_isSign_1 ?_
  refine r_top (y := nI (tL c s)) rs_5 ?_
  refine r_iconst (v := 1) hK dX7_isSign_4 (by decide) ?_
  refine r_icmp_ne (tgt := 24) hK dX7_isSign_5 (by decide) (fun h5 => ?_) (fun h5 => ?_)
  · refine r_iconst (v := 0) hK dX7_isSign_24 (by decide) ?_
    refine q_zret hK hR dX7_isSign_25 (by first | exact Or.inl rfl | exact Or.inr rfl | assumption) ?_
    refine ⟨?_, rfl⟩
    unfold sgn
    first
      | (rw [decide_eq_true (nI_inj (by omega) (by decide) h5), decide_eq_true ((cI_eq (tOk_b hT.1 _) hk).mp h17)]; rfl)
      | (rw [decide_eq_false (fun z => h5 (by rw [z]; rfl))]; rfl)
      | (rw [decide_eq_false (fun z => h17 ((cI_eq (tOk_b hT.1 _) hk).mpr z))]; simp; done)
  · refine r_aload_n (i := 0) hK dX7_isSign_8 rfl rfl ?_
    refine r_aload_n (i := 0) hK dX7_isSign_9 rfl rfl ?_
    refine r_getI hK flX7_32 to_3 rfl dX7_isSign_10 ?_
    refine r_top (y := nI s) rs_4 ?_
    refine r_ci1 hK hnn (c_byteAt (i := s) (TxC_rs hT) rfl (by omega)) moX7_byteAt mlX7_144 to_3 rfl rfl dX7_isSign_13 (Nat.le_of_ble_eq_true rfl) (Nat.le_of_ble_eq_true rfl) (eqI ?_)
    refine r_iload_n (i := 1) hK dX7_isSign_16 rfl rfl ?_
    refine r_icmp_ne (tgt := 24) hK dX7_isSign_17 (by decide) (fun h17 => ?_) (fun h17 => ?_)
    · refine r_iconst (v := 0) hK dX7_isSign_24 (by decide) ?_
      refine q_zret hK hR dX7_isSign_25 (by first | exact Or.inl rfl | exact Or.inr rfl | assumption) ?_
      refine ⟨?_, rfl⟩
      unfold sgn
      first
        | (rw [decide_eq_true (nI_inj (by omega) (by decide) h5), decide_eq_true ((cI_eq (tOk_b hT.1 _) hk).mp h17)]; rfl)
        | (rw [decide_eq_false (fun z => h5 (by rw [z]; rfl))]; rfl)
        | (rw [decide_eq_false (fun z => h17 ((cI_eq (tOk_b hT.1 _) hk).mpr z))]; simp; done)
    · refine r_iconst (v := 1) hK dX7_isSign_20 (by decide) ?_
      refine r_goto (tgt := 25) hK dX7_isSign_21 (by decide) ?_
      refine q_zret hK hR dX7_isSign_25 (by first | exact Or.inl rfl | exact Or.inr rfl | assumption) ?_
      refine ⟨?_, rfl⟩
      unfold sgn
      first
        | (rw [decide_eq_true (nI_inj (by omega) (by decide) h5), decide_eq_true ((cI_eq (tOk_b hT.1 _) hk).mp h17)]; rfl)
        | (rw [decide_eq_false (fun z => h5 (by rw [z]; rfl))]; rfl)
        | (rw [decide_eq_false (fun z => h17 ((cI_eq (tOk_b hT.1 _) hk).mpr z))]; simp; done)
def sgF (c : CT) (F : FP) (s k : Nat) : FP := if sgn c s k = true then F else bl F 1 s
theorem bl_ok {F : FP} {k s : Nat} (h : F.1 ≤ 4) (hk : k ≤ 4) : (bl F k s).1 ≤ 4 := by unfold bl; split; exact hk; exact h
set_option maxHeartbeats 4000000 in
set_option maxRecDepth 100000 in
theorem c_takeSign {ad : Nat → Nat} {g : St} {n : Nat} {s : Nat} {c : CT} {F : FP} {k : Nat} {x : Int32} (hT : TxC g n c) (hs : s ≤ n) (hF : F.1 ≤ 4) (hx : x = nI k) (hk : k < 256) : Cv 4 mX7_takeSign [.ref 3, .int x] ad (rs g c F s) (fun g' => g' = rs g c (sgF c F s k) (nx c s)) := by
  refine Cm.mk rfl (Nat.le_of_ble_eq_true rfl) (fun K hK hR hm hnn => ?_)
  refine r_aload_n (i := 0) hK dX7_takeSign_0 rfl rfl ?_
  refine r_iload_n (i := 1) hK dX7_takeSign_1 rfl rfl ?_
  refine r_ci1 hK hnn (c_isSign hT hs hx hk) moX7_isSign mlX7_133 to_3 rfl rfl dX7_takeSign_2 (Nat.le_of_ble_eq_true rfl) (Nat.le_of_ble_eq_true rfl) (eqI ?_)
  refine r_if_ne (tgt := 13) hK dX7_takeSign_5 (by decide) (fun h5 => ?_) (fun h5 => ?_)
  · refine r_aload_n (i := 0) hK dX7_takeSign_13 rfl rfl ?_
    refine r_cv0 hK hnn (c_stepR hT hs) moX7_step mlX7_38 to_3 rfl rfl dX7_takeSign_14 (Nat.le_of_ble_eq_true rfl) (Nat.le_of_ble_eq_true rfl) (eqV ?_)
    refine q_vret hK hR dX7_takeSign_17 ?_
    unfold sgF
    first
      | (rw [if_pos (B1_n.mp h5)]; done)
      | (rw [if_neg (by rw [B1_0.mp h5]; decide)]; done)
  · refine r_aload_n (i := 0) hK dX7_takeSign_8 rfl rfl ?_
    refine r_iconst (v := 1) hK dX7_takeSign_9 (by decide) ?_
    refine r_cv1 hK hnn (c_blame hF rfl (by decide)) moX7_blame mlX7_62 to_3 rfl rfl dX7_takeSign_10 (Nat.le_of_ble_eq_true rfl) (Nat.le_of_ble_eq_true rfl) (eqV ?_)
    refine r_aload_n (i := 0) hK dX7_takeSign_13 rfl rfl ?_
    refine r_cv0 hK hnn (c_stepR hT hs) moX7_step mlX7_38 to_3 rfl rfl dX7_takeSign_14 (Nat.le_of_ble_eq_true rfl) (Nat.le_of_ble_eq_true rfl) (eqV ?_)
    refine q_vret hK hR dX7_takeSign_17 ?_
    unfold sgF
    first
      | (rw [if_pos (B1_n.mp h5)]; done)
      | (rw [if_neg (by rw [B1_0.mp h5]; decide)]; done)
def seF (c : CT) (F : FP) (s : Nat) (lo hi : Int32) : FP := if fg (c s) = true then (if 3 < tL c s ∨ vI c s (tL c s - 1) < lo ∨ hi < vI c s (tL c s - 1) then bl F 2 s else F) else bl F 1 s
def seV (c : CT) (F : FP) (s : Nat) : Int32 := if F.1 = 0 then vI c s (tL c s - 1) else -1
theorem seF_ok {c : CT} {F : FP} {s : Nat} {lo hi : Int32} (h : F.1 ≤ 4) : (seF c F s lo hi).1 ≤ 4 := by
  unfold seF
  split
  · split
    · exact bl_ok h (by decide)
    · exact h
  · exact bl_ok h (by decide)
set_option maxHeartbeats 4000000 in
set_option maxRecDepth 100000 in
theorem c_seeNumber {ad : Nat → Nat} {g : St} {n : Nat} {s : Nat} {c : CT} {F : FP} {lo hi : Int32} (hT : TxC g n c) (hs : s ≤ n) (hF : F.1 ≤ 4) : Ci 2 mX7_seeNumber [.ref 3, .int lo, .int hi] ad (rs g c F s) (fun v g' => v = seV c (seF c F s lo hi) s ∧ g' = rs g c (seF c F s lo hi) s) := by
  have htl := tL_lt hT.1 hs
  have hF5 : (seF c F s lo hi).1 ≤ 4 := seF_ok hF
  refine Cm.mk rfl (Nat.le_of_ble_eq_true rfl) (fun K hK hR hm hnn => ?_)
  have h44 : Wp K 0 0 TT ad (rs g c (seF c F s lo hi) s) 44 [(0, .ref 3)] [] := by
    refine r_aload_n (i := 0) hK dX7_seeNumber_44 rfl rfl ?_
    refine r_getI hK flX7_29 to_3 rfl dX7_seeNumber_45 ?_
    refine r_top (y := nI (seF c F s lo hi).1) rs_2 ?_
    refine r_if_ne (tgt := 58) hK dX7_seeNumber_48 (by decide) (fun h48 => ?_) (fun h48 => ?_)
    · refine r_iconst (v := (-1)) hK dX7_seeNumber_58 (by decide) ?_
      refine q_iret hK hR dX7_seeNumber_59 ?_
      refine ⟨?_, rfl⟩
      unfold seV
      first
        | (rw [if_pos (nI_inj (by omega) (by decide) h48)]; done)
        | (rw [if_neg (fun z => h48 (by rw [z]; rfl))]; done)
    · refine r_aload_n (i := 0) hK dX7_seeNumber_51 rfl rfl ?_
      refine r_getI hK flX7_141 to_3 rfl dX7_seeNumber_52 ?_
      refine r_top (y := vI c s (tL c s - 1)) rs_8 ?_
      refine r_goto (tgt := 59) hK dX7_seeNumber_55 (by decide) ?_
      refine q_iret hK hR dX7_seeNumber_59 ?_
      refine ⟨?_, rfl⟩
      unfold seV
      first
        | (rw [if_pos (nI_inj (by omega) (by decide) h48)]; done)
        | (rw [if_neg (fun z => h48 (by rw [z]; rfl))]; done)
  refine r_aload_n (i := 0) hK dX7_seeNumber_0 rfl rfl ?_
  refine r_getI hK flX7_137 to_3 rfl dX7_seeNumber_1 ?_
  refine r_top (y := B1 (fg (c s))) rs_7 ?_
  refine r_if_ne (tgt := 15) hK dX7_seeNumber_4 (by decide) (fun h4 => ?_) (fun h4 => ?_)
  · refine r_aload_n (i := 0) hK dX7_seeNumber_15 rfl rfl ?_
    refine r_getI hK flX7_35 to_3 rfl dX7_seeNumber_16 ?_
    refine r_top (y := nI (tL c s)) rs_5 ?_
    refine r_iconst (v := 3) hK dX7_seeNumber_19 (by decide) ?_
    refine r_icmp_gt (tgt := 39) hK dX7_seeNumber_20 (by decide) (fun h20 => ?_) (fun h20 => ?_)
    · refine r_aload_n (i := 0) hK dX7_seeNumber_39 rfl rfl ?_
      refine r_iconst (v := 2) hK dX7_seeNumber_40 (by decide) ?_
      refine r_cv1 hK hnn (c_blame hF rfl (by decide)) moX7_blame mlX7_62 to_3 rfl rfl dX7_seeNumber_41 (Nat.le_of_ble_eq_true rfl) (Nat.le_of_ble_eq_true rfl) (eqV ?_)
      first
        | (refine r_g (congrArg (fun z => rs g c z s) (?_ : _ = seF c F s lo hi)) (r_loc ?_ h44); (unfold seF; rw [if_neg (by rw [B1_0.mp h4]; decide)]); rfl)
        | (refine r_g (congrArg (fun z => rs g c z s) (?_ : _ = seF c F s lo hi)) (r_loc ?_ h44); (unfold seF; rw [if_pos (B1_n.mp h4), if_pos (Or.inl (Nat.lt_of_not_le (fun z => absurd h20 (nI_nlt z (by decide)))))]); rfl)
        | (refine r_g (congrArg (fun z => rs g c z s) (?_ : _ = seF c F s lo hi)) (r_loc ?_ h44); (unfold seF; rw [if_pos (B1_n.mp h4), if_pos (Or.inr (Or.inl h28))]); rfl)
        | (refine r_g (congrArg (fun z => rs g c z s) (?_ : _ = seF c F s lo hi)) (r_loc ?_ h44); (unfold seF; rw [if_pos (B1_n.mp h4), if_pos (Or.inr (Or.inr (Int32.not_le.mp h36)))]); rfl)
        | (refine r_g (congrArg (fun z => rs g c z s) (?_ : _ = seF c F s lo hi)) (r_loc ?_ h44); (unfold seF; rw [if_pos (B1_n.mp h4), if_neg (fun z => z.elim (fun y => h20 (nI_lt y (by omega))) (fun z => z.elim h28 (fun y => absurd h36 (Int32.not_le.mpr y))))]); rfl)
    · refine r_aload_n (i := 0) hK dX7_seeNumber_23 rfl rfl ?_
      refine r_getI hK flX7_141 to_3 rfl dX7_seeNumber_24 ?_
      refine r_top (y := vI c s (tL c s - 1)) rs_8 ?_
      refine r_iload_n (i := 1) hK dX7_seeNumber_27 rfl rfl ?_
      refine r_icmp_lt (tgt := 39) hK dX7_seeNumber_28 (by decide) (fun h28 => ?_) (fun h28 => ?_)
      · refine r_aload_n (i := 0) hK dX7_seeNumber_39 rfl rfl ?_
        refine r_iconst (v := 2) hK dX7_seeNumber_40 (by decide) ?_
        refine r_cv1 hK hnn (c_blame hF rfl (by decide)) moX7_blame mlX7_62 to_3 rfl rfl dX7_seeNumber_41 (Nat.le_of_ble_eq_true rfl) (Nat.le_of_ble_eq_true rfl) (eqV ?_)
        first
          | (refine r_g (congrArg (fun z => rs g c z s) (?_ : _ = seF c F s lo hi)) (r_loc ?_ h44); (unfold seF; rw [if_neg (by rw [B1_0.mp h4]; decide)]); rfl)
          | (refine r_g (congrArg (fun z => rs g c z s) (?_ : _ = seF c F s lo hi)) (r_loc ?_ h44); (unfold seF; rw [if_pos (B1_n.mp h4), if_pos (Or.inl (Nat.lt_of_not_le (fun z => absurd h20 (nI_nlt z (by decide)))))]); rfl)
          | (refine r_g (congrArg (fun z => rs g c z s) (?_ : _ = seF c F s lo hi)) (r_loc ?_ h44); (unfold seF; rw [if_pos (B1_n.mp h4), if_pos (Or.inr (Or.inl h28))]); rfl)
          | (refine r_g (congrArg (fun z => rs g c z s) (?_ : _ = seF c F s lo hi)) (r_loc ?_ h44); (unfold seF; rw [if_pos (B1_n.mp h4), if_pos (Or.inr (Or.inr (Int32.not_le.mp h36)))]); rfl)
          | (refine r_g (congrArg (fun z => rs g c z s) (?_ : _ = seF c F s lo hi)) (r_loc ?_ h44); (unfold seF; rw [if_pos (B1_n.mp h4), if_neg (fun z => z.elim (fun y => h20 (nI_lt y (by omega))) (fun z => z.elim h28 (fun y => absurd h36 (Int32.not_le.mpr y))))]); rfl)
      · refine r_aload_n (i := 0) hK dX7_seeNumber_31 rfl rfl ?_
        refine r_getI hK flX7_141 to_3 rfl dX7_seeNumber_32 ?_
        refine r_top (y := vI c s (tL c s - 1)) rs_8 ?_
        refine r_iload_n (i := 2) hK dX7_seeNumber_35 rfl rfl ?_
        refine r_icmp_le (tgt := 44) hK dX7_seeNumber_36 (by decide) (fun h36 => ?_) (fun h36 => ?_)
        · first
            | (refine r_g (congrArg (fun z => rs g c z s) (?_ : _ = seF c F s lo hi)) (r_loc ?_ h44); (unfold seF; rw [if_neg (by rw [B1_0.mp h4]; decide)]); rfl)
            | (refine r_g (congrArg (fun z => rs g c z s) (?_ : _ = seF c F s lo hi)) (r_loc ?_ h44); (unfold seF; rw [if_pos (B1_n.mp h4), if_pos (Or.inl (Nat.lt_of_not_le (fun z => absurd h20 (nI_nlt z (by decide)))))]); rfl)
            | (refine r_g (congrArg (fun z => rs g c z s) (?_ : _ = seF c F s lo hi)) (r_loc ?_ h44); (unfold seF; rw [if_pos (B1_n.mp h4), if_pos (Or.inr (Or.inl h28))]); rfl)
            | (refine r_g (congrArg (fun z => rs g c z s) (?_ : _ = seF c F s lo hi)) (r_loc ?_ h44); (unfold seF; rw [if_pos (B1_n.mp h4), if_pos (Or.inr (Or.inr (Int32.not_le.mp h36)))]); rfl)
            | (refine r_g (congrArg (fun z => rs g c z s) (?_ : _ = seF c F s lo hi)) (r_loc ?_ h44); (unfold seF; rw [if_pos (B1_n.mp h4), if_neg (fun z => z.elim (fun y => h20 (nI_lt y (by omega))) (fun z => z.elim h28 (fun y => absurd h36 (Int32.not_le.mpr y))))]); rfl)
        · refine r_aload_n (i := 0) hK dX7_seeNumber_39 rfl rfl ?_
          refine r_iconst (v := 2) hK dX7_seeNumber_40 (by decide) ?_
          refine r_cv1 hK hnn (c_blame hF rfl (by decide)) moX7_blame mlX7_62 to_3 rfl rfl dX7_seeNumber_41 (Nat.le_of_ble_eq_true rfl) (Nat.le_of_ble_eq_true rfl) (eqV ?_)
          first
            | (refine r_g (congrArg (fun z => rs g c z s) (?_ : _ = seF c F s lo hi)) (r_loc ?_ h44); (unfold seF; rw [if_neg (by rw [B1_0.mp h4]; decide)]); rfl)
            | (refine r_g (congrArg (fun z => rs g c z s) (?_ : _ = seF c F s lo hi)) (r_loc ?_ h44); (unfold seF; rw [if_pos (B1_n.mp h4), if_pos (Or.inl (Nat.lt_of_not_le (fun z => absurd h20 (nI_nlt z (by decide)))))]); rfl)
            | (refine r_g (congrArg (fun z => rs g c z s) (?_ : _ = seF c F s lo hi)) (r_loc ?_ h44); (unfold seF; rw [if_pos (B1_n.mp h4), if_pos (Or.inr (Or.inl h28))]); rfl)
            | (refine r_g (congrArg (fun z => rs g c z s) (?_ : _ = seF c F s lo hi)) (r_loc ?_ h44); (unfold seF; rw [if_pos (B1_n.mp h4), if_pos (Or.inr (Or.inr (Int32.not_le.mp h36)))]); rfl)
            | (refine r_g (congrArg (fun z => rs g c z s) (?_ : _ = seF c F s lo hi)) (r_loc ?_ h44); (unfold seF; rw [if_pos (B1_n.mp h4), if_neg (fun z => z.elim (fun y => h20 (nI_lt y (by omega))) (fun z => z.elim h28 (fun y => absurd h36 (Int32.not_le.mpr y))))]); rfl)
  · refine r_aload_n (i := 0) hK dX7_seeNumber_7 rfl rfl ?_
    refine r_iconst (v := 1) hK dX7_seeNumber_8 (by decide) ?_
    refine r_cv1 hK hnn (c_blame hF rfl (by decide)) moX7_blame mlX7_62 to_3 rfl rfl dX7_seeNumber_9 (Nat.le_of_ble_eq_true rfl) (Nat.le_of_ble_eq_true rfl) (eqV ?_)
    refine r_goto (tgt := 44) hK dX7_seeNumber_12 (by decide) ?_
    first
      | (refine r_g (congrArg (fun z => rs g c z s) (?_ : _ = seF c F s lo hi)) (r_loc ?_ h44); (unfold seF; rw [if_neg (by rw [B1_0.mp h4]; decide)]); rfl)
      | (refine r_g (congrArg (fun z => rs g c z s) (?_ : _ = seF c F s lo hi)) (r_loc ?_ h44); (unfold seF; rw [if_pos (B1_n.mp h4), if_pos (Or.inl (Nat.lt_of_not_le (fun z => absurd h20 (nI_nlt z (by decide)))))]); rfl)
      | (refine r_g (congrArg (fun z => rs g c z s) (?_ : _ = seF c F s lo hi)) (r_loc ?_ h44); (unfold seF; rw [if_pos (B1_n.mp h4), if_pos (Or.inr (Or.inl h28))]); rfl)
      | (refine r_g (congrArg (fun z => rs g c z s) (?_ : _ = seF c F s lo hi)) (r_loc ?_ h44); (unfold seF; rw [if_pos (B1_n.mp h4), if_pos (Or.inr (Or.inr (Int32.not_le.mp h36)))]); rfl)
      | (refine r_g (congrArg (fun z => rs g c z s) (?_ : _ = seF c F s lo hi)) (r_loc ?_ h44); (unfold seF; rw [if_pos (B1_n.mp h4), if_neg (fun z => z.elim (fun y => h20 (nI_lt y (by omega))) (fun z => z.elim h28 (fun y => absurd h36 (Int32.not_le.mpr y))))]); rfl)
set_option maxHeartbeats 4000000 in
set_option maxRecDepth 100000 in
theorem c_takeNumber {ad : Nat → Nat} {g : St} {n : Nat} {s : Nat} {c : CT} {F : FP} {lo hi : Int32} (hT : TxC g n c) (hs : s ≤ n) (hF : F.1 ≤ 4) : Ci 4 mX7_takeNumber [.ref 3, .int lo, .int hi] ad (rs g c F s) (fun v g' => v = seV c (seF c F s lo hi) s ∧ g' = rs g c (seF c F s lo hi) (nx c s)) := by
  refine Cm.mk rfl (Nat.le_of_ble_eq_true rfl) (fun K hK hR hm hnn => ?_)
  refine r_aload_n (i := 0) hK dX7_takeNumber_0 rfl rfl ?_
  refine r_iload_n (i := 1) hK dX7_takeNumber_1 rfl rfl ?_
  refine r_iload_n (i := 2) hK dX7_takeNumber_2 rfl rfl ?_
  refine r_ci2 hK hnn (c_seeNumber hT hs hF) moX7_seeNumber mlX7_77 to_3 rfl rfl dX7_takeNumber_3 (Nat.le_of_ble_eq_true rfl) (Nat.le_of_ble_eq_true rfl) (eqI ?_)
  refine r_istore_n (i := 3) hK hm dX7_takeNumber_6 rfl (by decide) ?_
  refine r_aload_n (i := 0) hK dX7_takeNumber_7 rfl rfl ?_
  refine r_cv0 hK hnn (c_stepR hT hs) moX7_step mlX7_38 to_3 rfl rfl dX7_takeNumber_8 (Nat.le_of_ble_eq_true rfl) (Nat.le_of_ble_eq_true rfl) (eqV ?_)
  refine r_iload_n (i := 3) hK dX7_takeNumber_11 rfl rfl ?_
  refine q_iret hK hR dX7_takeNumber_12 ?_
  exact ⟨rfl, rfl⟩
/-- a word ahead -/
def wdE (c : CT) (s k i : Nat) : Bool := decide (cI (c (s + i)) = chS k i)
def wdF (c : CT) (s k : Nat) : Nat → Nat → Bool → Bool
  | 0, _, b => b
  | m + 1, i, b => if b = true then wdF c s k m (i + 1) (wdE c s k i) else false
theorem wdF_s (c : CT) (s k m i : Nat) (b : Bool) : wdF c s k (m + 1) i b = if b = true then wdF c s k m (i + 1) (wdE c s k i) else false := rfl
def isW (c : CT) (s k : Nat) : Bool := wdF c s k (sxLen.getD k 0) 0 (lt (c s) && decide (tL c s = sxLen.getD k 0))
set_option maxHeartbeats 4000000 in
set_option maxRecDepth 100000 in
theorem l_wd {K : KT} {ad : Nat → Nat} {g : St} {n s k : Nat} {c : CT} {F : FP} (hT : TxC g n c) (hs : s ≤ n) (hk : k < 8) (hK : Cx K RX7 cX7_isWord 6 ad) (hm : K.2.2.1.2.maxLocals = 4) (hnn : Nn K 0 0)
    (hR : Rt K 0 0 TT ad (some .boolean) (Qi ad (fun v g' => v = B1 (isW c s k) ∧ g' = rs g c F s))) :
    ∀ m i, i + m = sxLen.getD k 0 → ∀ b : Bool, wdF c s k m i b = isW c s k → Wp K 0 0 TT ad (rs g c F s) 26 [(0, .ref 3), (1, .ref (1000 + k)), (2, .int (B1 b)), (3, .int (nI i))] [] := by
  have h400 := hT.1.1
  have hL := sxL_b k hk
  intro m
  induction m with
  | zero =>
    intro i hi b hw
    have e : i = sxLen.getD k 0 := by omega
    subst e
    refine r_iload_n (i := 3) hK dX7_isWord_26 rfl rfl ?_
    refine r_aload_n (i := 1) hK dX7_isWord_27 rfl rfl ?_
    refine r_ciS0 hK hnn (c_strlen hk) moJ0_length_8abf5 mlX7_151 hk rfl dX7_isWord_28 (Nat.le_of_ble_eq_true rfl) (Nat.le_of_ble_eq_true rfl) (eqI ?_)
    refine r_icmp_ge (tgt := 68) hK dX7_isWord_31 (by decide) (fun _ => ?_) (fun h => absurd (nI_le (Nat.le_refl _) (by omega)) h)
    refine r_iload_n (i := 2) hK dX7_isWord_68 rfl rfl ?_
    refine q_zret hK hR dX7_isWord_69 (B1_01 _) ?_
    exact ⟨by rw [← hw]; rfl, rfl⟩
  | succ m ih =>
    intro i hi9 b hw
    have hi : i < sxLen.getD k 0 := by omega
    refine r_iload_n (i := 3) hK dX7_isWord_26 rfl rfl ?_
    refine r_aload_n (i := 1) hK dX7_isWord_27 rfl rfl ?_
    refine r_ciS0 hK hnn (c_strlen hk) moJ0_length_8abf5 mlX7_151 hk rfl dX7_isWord_28 (Nat.le_of_ble_eq_true rfl) (Nat.le_of_ble_eq_true rfl) (eqI ?_)
    refine r_icmp_ge (tgt := 68) hK dX7_isWord_31 (by decide) (fun h => absurd h (nI_ge hi (by omega))) (fun _ => ?_)
    refine r_iload_n (i := 2) hK dX7_isWord_34 rfl rfl ?_
    refine r_if_eq (tgt := 68) hK dX7_isWord_35 (by decide) (fun h35 => ?_) (fun h35 => ?_)
    · refine r_iload_n (i := 2) hK dX7_isWord_68 rfl rfl ?_
      refine q_zret hK hR dX7_isWord_69 (B1_01 _) ?_
      exact ⟨by rw [← hw, wdF_s, B1_0.mp h35]; rfl, rfl⟩
    · refine r_aload_n (i := 0) hK dX7_isWord_38 rfl rfl ?_
      have hb1 := B1_n.mp h35
      refine r_aload_n (i := 0) hK dX7_isWord_39 rfl rfl ?_
      refine r_getI hK flX7_32 to_3 rfl dX7_isWord_40 ?_
      refine r_top (y := nI s) rs_4 ?_
      refine r_iload_n (i := 3) hK dX7_isWord_43 rfl rfl ?_
      refine r_iadd hK dX7_isWord_44 ?_
      refine r_top (y := nI (s + i)) (nI_add _ _) ?_
      refine r_ci1 hK hnn (c_byteAt (i := s + i) (TxC_rs hT) rfl (by omega)) moX7_byteAt mlX7_144 to_3 rfl rfl dX7_isWord_45 (Nat.le_of_ble_eq_true rfl) (Nat.le_of_ble_eq_true rfl) (eqI ?_)
      refine r_aload_n (i := 1) hK dX7_isWord_48 rfl rfl ?_
      refine r_iload_n (i := 3) hK dX7_isWord_49 rfl rfl ?_
      refine r_ciS1 hK hnn (c_charAt hk rfl hi) moJ0_charAt_5068e mlX7_155 hk rfl dX7_isWord_50 (Nat.le_of_ble_eq_true rfl) (Nat.le_of_ble_eq_true rfl) (eqI ?_)
      refine r_icmp_ne (tgt := 60) hK dX7_isWord_53 (by decide) (fun h53 => ?_) (fun h53 => ?_)
      · refine r_iconst (v := 0) hK dX7_isWord_60 (by decide) ?_
        refine r_istore_n (i := 2) hK hm dX7_isWord_61 rfl (by decide) ?_
        refine r_iincN (i := 3) hK hm dX7_isWord_62 rfl (by decide) ?_
        refine r_goto (tgt := 26) hK dX7_isWord_65 (by decide) ?_
        first
          | (refine r_loc ?_ (ih (i + 1) (by omega) (wdE c s k i) (by rw [← hw, wdF_s, if_pos hb1])); unfold wdE; rw [decide_eq_true h53]; rfl)
          | (refine r_loc ?_ (ih (i + 1) (by omega) (wdE c s k i) (by rw [← hw, wdF_s, if_pos hb1])); unfold wdE; rw [decide_eq_false h53]; rfl)
      · refine r_iconst (v := 1) hK dX7_isWord_56 (by decide) ?_
        refine r_goto (tgt := 61) hK dX7_isWord_57 (by decide) ?_
        refine r_istore_n (i := 2) hK hm dX7_isWord_61 rfl (by decide) ?_
        refine r_iincN (i := 3) hK hm dX7_isWord_62 rfl (by decide) ?_
        refine r_goto (tgt := 26) hK dX7_isWord_65 (by decide) ?_
        first
          | (refine r_loc ?_ (ih (i + 1) (by omega) (wdE c s k i) (by rw [← hw, wdF_s, if_pos hb1])); unfold wdE; rw [decide_eq_true h53]; rfl)
          | (refine r_loc ?_ (ih (i + 1) (by omega) (wdE c s k i) (by rw [← hw, wdF_s, if_pos hb1])); unfold wdE; rw [decide_eq_false h53]; rfl)
set_option maxHeartbeats 4000000 in
set_option maxRecDepth 100000 in
theorem c_isWord {ad : Nat → Nat} {g : St} {n : Nat} {s : Nat} {c : CT} {F : FP} {k : Nat} (hT : TxC g n c) (hs : s ≤ n) (hk : k < 8) : Ci 6 mX7_isWord [.ref 3, .ref (1000 + k)] ad (rs g c F s) (fun v g' => v = B1 (isW c s k) ∧ g' = rs g c F s) := by
  have htl := tL_lt hT.1 hs
  have hL := sxL_b k hk
  refine Cm.mk rfl (Nat.le_of_ble_eq_true rfl) (fun K hK hR hm hnn => ?_)
  refine r_aload_n (i := 0) hK dX7_isWord_0 rfl rfl ?_
  refine r_getI hK flX7_148 to_3 rfl dX7_isWord_1 ?_
  refine r_top (y := B1 (lt (c s))) rs_6 ?_
  refine r_if_eq (tgt := 22) hK dX7_isWord_4 (by decide) (fun h4 => ?_) (fun h4 => ?_)
  · refine r_iconst (v := 0) hK dX7_isWord_22 (by decide) ?_
    refine r_istore_n (i := 2) hK hm dX7_isWord_23 rfl (by decide) ?_
    refine r_iconst (v := 0) hK dX7_isWord_24 (by decide) ?_
    refine r_istore_n (i := 3) hK hm dX7_isWord_25 rfl (by decide) ?_
    first
      | (refine r_loc ?_ (l_wd hT hs hk hK hm hnn hR _ 0 (by omega) _ rfl); rw [B1_n.mp h4, decide_eq_true (nI_inj (by omega) (by omega) h15)]; rfl)
      | (refine r_loc ?_ (l_wd hT hs hk hK hm hnn hR _ 0 (by omega) _ rfl); rw [B1_0.mp h4]; rfl)
      | (refine r_loc ?_ (l_wd hT hs hk hK hm hnn hR _ 0 (by omega) _ rfl); rw [decide_eq_false (fun z => h15 (by rw [z])), Bool.and_false]; rfl)
  · refine r_aload_n (i := 0) hK dX7_isWord_7 rfl rfl ?_
    refine r_getI hK flX7_35 to_3 rfl dX7_isWord_8 ?_
    refine r_top (y := nI (tL c s)) rs_5 ?_
    refine r_aload_n (i := 1) hK dX7_isWord_11 rfl rfl ?_
    refine r_ciS0 hK hnn (c_strlen hk) moJ0_length_8abf5 mlX7_151 hk rfl dX7_isWord_12 (Nat.le_of_ble_eq_true rfl) (Nat.le_of_ble_eq_true rfl) (eqI ?_)
    refine r_icmp_ne (tgt := 22) hK dX7_isWord_15 (by decide) (fun h15 => ?_) (fun h15 => ?_)
    · refine r_iconst (v := 0) hK dX7_isWord_22 (by decide) ?_
      refine r_istore_n (i := 2) hK hm dX7_isWord_23 rfl (by decide) ?_
      refine r_iconst (v := 0) hK dX7_isWord_24 (by decide) ?_
      refine r_istore_n (i := 3) hK hm dX7_isWord_25 rfl (by decide) ?_
      first
        | (refine r_loc ?_ (l_wd hT hs hk hK hm hnn hR _ 0 (by omega) _ rfl); rw [B1_n.mp h4, decide_eq_true (nI_inj (by omega) (by omega) h15)]; rfl)
        | (refine r_loc ?_ (l_wd hT hs hk hK hm hnn hR _ 0 (by omega) _ rfl); rw [B1_0.mp h4]; rfl)
        | (refine r_loc ?_ (l_wd hT hs hk hK hm hnn hR _ 0 (by omega) _ rfl); rw [decide_eq_false (fun z => h15 (by rw [z])), Bool.and_false]; rfl)
    · refine r_iconst (v := 1) hK dX7_isWord_18 (by decide) ?_
      refine r_goto (tgt := 23) hK dX7_isWord_19 (by decide) ?_
      refine r_istore_n (i := 2) hK hm dX7_isWord_23 rfl (by decide) ?_
      refine r_iconst (v := 0) hK dX7_isWord_24 (by decide) ?_
      refine r_istore_n (i := 3) hK hm dX7_isWord_25 rfl (by decide) ?_
      first
        | (refine r_loc ?_ (l_wd hT hs hk hK hm hnn hR _ 0 (by omega) _ rfl); rw [B1_n.mp h4, decide_eq_true (nI_inj (by omega) (by omega) h15)]; rfl)
        | (refine r_loc ?_ (l_wd hT hs hk hK hm hnn hR _ 0 (by omega) _ rfl); rw [B1_0.mp h4]; rfl)
        | (refine r_loc ?_ (l_wd hT hs hk hK hm hnn hR _ 0 (by omega) _ rfl); rw [decide_eq_false (fun z => h15 (by rw [z])), Bool.and_false]; rfl)
