set_option maxHeartbeats 4000000 in
set_option maxRecDepth 100000 in
theorem c_fewestGuides {ad : Nat → Nat} {g : St} {o : Nat} (hG : GdP o) {Kc : Nat → Nat} (hk : ∀ q, q < 10 → g.1 (o + 3) q = nI (Kc q)) (hKc : ∀ q, Kc q ≤ 1000000000) {a : Nat} {x : Int32} (hx : x = nI a) (ha : a < 10) : Ci 2 mX1_fewestGuides [.ref o, .int x] ad g (fun v g' => v = nI (Kc a % 16) ∧ g' = g) := by
  obtain ⟨o1, o2, o3, t0, t1, t2, t3⟩ := hG
  subst hx
  refine Cm.mk rfl (Nat.le_of_ble_eq_true rfl) (fun K hK hR hm hnn => ?_)
  refine r_aload_n (i := 0) hK dX1_fewestGuides_0 rfl rfl ?_
  refine r_getA hK flX1_18 t0 rfl dX1_fewestGuides_1 ?_
  refine r_iload_n (i := 1) hK dX1_fewestGuides_4 rfl rfl ?_
  refine r_si2 hK hnn (c_atE t3 (by decide) rfl ha (hk a ha)) moX9_at mlX1_38 dX1_fewestGuides_5 (Nat.le_of_ble_eq_true rfl) (Nat.le_of_ble_eq_true rfl) (eqI ?_)
  refine r_bipush (v := 16) hK dX1_fewestGuides_8 (by decide) ?_
  refine r_irem hK dX1_fewestGuides_10 (by decide) ?_
  refine q_iret hK hR dX1_fewestGuides_11 ?_
  refine ⟨?_, rfl⟩
  have := hKc a
  rw [show (16 : Int32) = nI 16 from rfl, pk_rem (by omega) (by decide) (by decide)]
set_option maxHeartbeats 4000000 in
set_option maxRecDepth 100000 in
theorem l_lg {K : KT} {ad : Nat → Nat} {g : St} {np : Nat} {P : PD} {V : VT} {o : Nat} (hG : GdP o) (hs : GsC g o np P V) {Kc : Nat → Nat} (hk : ∀ q, q < 10 → g.1 (o + 3) q = nI (Kc q)) (hKc : ∀ q, Kc q ≤ 1000000000) {here : Nat} (hh : here < 10) (hK : Cx K RX1 cX1_leastGuide 3 ad) (hm : K.2.2.1.2.maxLocals = 3) (hnn : Nn K 0 0)
    (hR : Rt K 0 0 TT ad (some .int) (Qi ad (fun v g' => v = (if gdN P V Kc here < P.1 then nI (gdN P V Kc here) else -1) ∧ g' = g))) :
    ∀ m p, p + m = P.1 → fdF (fun p => decide (P.2.1 p = here) && (decide (V.1 p < 10) && decide (Kc (V.1 p) + (16 * V.2 p + 1) = Kc here))) m p = gdN P V Kc here → Wp K 0 0 TT ad g 2 [(0, .ref o), (1, .int (nI here)), (2, .int (nI p))] [] := by
  obtain ⟨o1, o2, o3, t0, t1, t2, t3⟩ := hG
  obtain ⟨hv, s1, s2, s3⟩ := id hs
  have h6 := hv.2.1
  intro m
  induction m with
  | zero =>
    intro p hpm hf
    have ep : p = P.1 := by omega
    subst ep
    refine r_iload_n (i := 2) hK dX1_leastGuide_2 rfl rfl ?_
    refine r_aload_n (i := 0) hK dX1_leastGuide_3 rfl rfl ?_
    refine r_getA hK flX1_21 t0 rfl dX1_leastGuide_4 ?_
    refine r_getI hK flX1_29 to_13 rfl dX1_leastGuide_7 ?_
    refine r_top (y := nI P.1) s1 ?_
    refine r_icmp_ge (tgt := 47) hK dX1_leastGuide_10 (by decide) (fun _ => ?_) (fun h => absurd (nI_le (Nat.le_refl _) (by omega)) h)
    refine r_iconst (v := (-1)) hK dX1_leastGuide_47 (by decide) ?_
    refine q_iret hK hR dX1_leastGuide_48 ⟨?_, rfl⟩
    have e2 : gdN P V Kc here = P.1 := hf.symm
    rw [e2, if_neg (Nat.lt_irrefl _)]
  | succ m ih =>
    intro p hpm hf
    have hp : p < P.1 := by omega
    refine r_iload_n (i := 2) hK dX1_leastGuide_2 rfl rfl ?_
    refine r_aload_n (i := 0) hK dX1_leastGuide_3 rfl rfl ?_
    refine r_getA hK flX1_21 t0 rfl dX1_leastGuide_4 ?_
    refine r_getI hK flX1_29 to_13 rfl dX1_leastGuide_7 ?_
    refine r_top (y := nI P.1) s1 ?_
    refine r_icmp_ge (tgt := 47) hK dX1_leastGuide_10 (by decide) (fun h => absurd h (nI_ge hp (by omega))) (fun _ => ?_)
    refine r_aload_n (i := 0) hK dX1_leastGuide_13 rfl rfl ?_
    refine r_iload_n (i := 2) hK dX1_leastGuide_14 rfl rfl ?_
    refine r_iload_n (i := 1) hK dX1_leastGuide_15 rfl rfl ?_
    refine r_iconst (v := 0) hK dX1_leastGuide_16 (by decide) ?_
    refine r_ci3 hK hnn (c_leads ⟨o1, o2, o3, t0, t1, t2, t3⟩ hs rfl hp rfl (by omega) (set := 0) rfl (by decide)) moX1_leads mlX1_87 t0 rfl rfl dX1_leastGuide_17 (Nat.le_of_ble_eq_true rfl) (Nat.le_of_ble_eq_true rfl) (eqI ?_)
    refine r_if_eq (tgt := 41) hK dX1_leastGuide_20 (by decide) (fun h20 => ?_) (fun h20 => ?_)
    · have hb : ldB P V here 0 p = false := by
        cases e : ldB P V here 0 p with
        | false => rfl
        | true => rw [e] at h20; exact absurd h20 (by decide)
      have hnx : fdF (fun p => decide (P.2.1 p = here) && (decide (V.1 p < 10) && decide (Kc (V.1 p) + (16 * V.2 p + 1) = Kc here))) m (p + 1) = gdN P V Kc here := by
        rw [← hf, fdF_succ, if_neg]
        simp only [Bool.and_eq_true, decide_eq_true_eq]
        intro z
        have : ldB P V here 0 p = true := ldB_iff.mpr ⟨z.1, z.2.1, Nat.zero_testBit p⟩
        rw [hb] at this
        cases this
      refine r_iincN (i := 2) hK hm dX1_leastGuide_41 rfl (by decide) ?_
      refine r_goto (tgt := 2) hK dX1_leastGuide_44 (by decide) ?_
      refine r_loc ?_ (ih (p + 1) (by omega) hnx)
      rfl
    · refine r_aload_n (i := 0) hK dX1_leastGuide_23 rfl rfl ?_
      have hb : ldB P V here 0 p = true := by
        cases e : ldB P V here 0 p with
        | true => rfl
        | false => rw [e] at h20; exact absurd rfl h20
      obtain ⟨b1, b2, b3⟩ := ldB_iff.mp hb
      have hv2 := (hv.2.2 p hp).2.2
      have hq1 := hKc (V.1 p)
      have hq2 := hKc here
      refine r_iload_n (i := 2) hK dX1_leastGuide_24 rfl rfl ?_
      refine r_ci1 hK hnn (c_keyBy ⟨o1, o2, o3, t0, t1, t2, t3⟩ hs rfl hp b2 hk) moX1_keyBy mlX1_118 t0 rfl rfl dX1_leastGuide_25 (Nat.le_of_ble_eq_true rfl) (Nat.le_of_ble_eq_true rfl) (eqI ?_)
      refine r_aload_n (i := 0) hK dX1_leastGuide_28 rfl rfl ?_
      refine r_getA hK flX1_18 t0 rfl dX1_leastGuide_29 ?_
      refine r_iload_n (i := 1) hK dX1_leastGuide_32 rfl rfl ?_
      refine r_si2 hK hnn (c_atE t3 (by decide) rfl hh (hk _ hh)) moX9_at mlX1_38 dX1_leastGuide_33 (Nat.le_of_ble_eq_true rfl) (Nat.le_of_ble_eq_true rfl) (eqI ?_)
      refine r_icmp_ne (tgt := 41) hK dX1_leastGuide_36 (by decide) (fun h36 => ?_) (fun h36 => ?_)
      · have hnx : fdF (fun p => decide (P.2.1 p = here) && (decide (V.1 p < 10) && decide (Kc (V.1 p) + (16 * V.2 p + 1) = Kc here))) m (p + 1) = gdN P V Kc here := by
          rw [← hf, fdF_succ, if_neg]
          simp only [Bool.and_eq_true, decide_eq_true_eq]
          exact fun z => h36 (by rw [z.2.2])
        refine r_iincN (i := 2) hK hm dX1_leastGuide_41 rfl (by decide) ?_
        refine r_goto (tgt := 2) hK dX1_leastGuide_44 (by decide) ?_
        refine r_loc ?_ (ih (p + 1) (by omega) hnx)
        rfl
      · refine r_iload_n (i := 2) hK dX1_leastGuide_39 rfl rfl ?_
        refine q_iret hK hR dX1_leastGuide_40 ?_
        have e1 := nI_inj (by omega) (by omega) h36
        have e2 : gdN P V Kc here = p := by
          rw [← hf, fdF_succ, if_pos]
          simp only [Bool.and_eq_true, decide_eq_true_eq]
          exact ⟨b1, b2, e1⟩
        exact ⟨by rw [e2, if_pos hp], rfl⟩
set_option maxHeartbeats 4000000 in
set_option maxRecDepth 100000 in
theorem c_leastGuide {ad : Nat → Nat} {g : St} {np : Nat} {P : PD} {V : VT} {o : Nat} (hG : GdP o) (hs : GsC g o np P V) {Kc : Nat → Nat} (hk : ∀ q, q < 10 → g.1 (o + 3) q = nI (Kc q)) (hKc : ∀ q, Kc q ≤ 1000000000) {here : Nat} {x : Int32} (hx : x = nI here) (hh : here < 10) : Ci 3 mX1_leastGuide [.ref o, .int x] ad g (fun v g' => v = (if gdN P V Kc here < P.1 then nI (gdN P V Kc here) else -1) ∧ g' = g) := by
  subst hx
  refine Cm.mk rfl (Nat.le_of_ble_eq_true rfl) (fun K hK hR hm hnn => ?_)
  refine r_iconst (v := 0) hK dX1_leastGuide_0 (by decide) ?_
  refine r_istore_n (i := 2) hK hm dX1_leastGuide_1 rfl (by decide) ?_
  refine r_loc ?_ (l_lg hG hs hk hKc hh hK hm hnn hR P.1 0 (by omega) rfl)
  rfl
set_option maxHeartbeats 4000000 in
set_option maxRecDepth 100000 in
theorem l_bG {K : KT} {ad : Nat → Nat} {g : St} {np : Nat} {P : PD} {V : VT} {o : Nat} (hG : GdP o) (hs : GsC g o np P V) {a t j n : Nat} (hk : ∀ q, q < 10 → g.1 (o + 3) q = nI (kP P V FC t q)) (ht : t < 10) (hj : j < 2 ^ 31) (hn : n ≤ 6) (hn2 : kP P V FC t a % 16 = n) (hend : gdA P V (kP P V FC t) a n = t) (hne : ∀ i, i < n → gdA P V (kP P V FC t) a i ≠ t) (hin : ∀ i, i ≤ n → gdA P V (kP P V FC t) a i < np ∧ kP P V FC t (gdA P V (kP P V FC t) a i) + i ≤ kP P V FC t a) (hl : kP P V FC t a < FC) (hK : Cx K RX1 cX1_bestGuide 4 ad) (hm : K.2.2.1.2.maxLocals = 7) (hnn : Nn K 0 0)
    (hR : Rt K 0 0 TT ad (some .int) (Qi ad (fun v g' => v = (if ¬ nI j < 0 ∧ (nI j).toNatClampNeg < kP P V FC t a % 16 then nI (gdN P V (kP P V FC t) (gdA P V (kP P V FC t) a (nI j).toNatClampNeg)) else -1) ∧ g' = g))) :
    ∀ m k, k + m = n → k ≤ j → Wp K 0 0 TT ad g 6 [(0, .ref o), (1, .int (nI a)), (2, .int (nI t)), (3, .int (nI j)), (4, .int (nI (gdA P V (kP P V FC t) a k))), (5, .int (nI k))] [] := by
  obtain ⟨o1, o2, o3, t0, t1, t2, t3⟩ := hG
  obtain ⟨hv, s1, s2, s3⟩ := id hs
  have h6 := hv.2.1
  have h10 := hv.1
  have hq : (if ¬ nI j < 0 ∧ (nI j).toNatClampNeg < kP P V FC t a % 16 then nI (gdN P V (kP P V FC t) (gdA P V (kP P V FC t) a (nI j).toNatClampNeg)) else -1) = (if j < n then nI (gdN P V (kP P V FC t) (gdA P V (kP P V FC t) a j)) else -1) := by
    rw [nI_clamp hj, hn2]
    by_cases c : j < n
    · rw [if_pos c, if_pos ⟨nI_pos hj, c⟩]
    · rw [if_neg c, if_neg (fun z => c z.2)]
  intro m
  induction m with
  | zero =>
    intro k hkm hkj
    refine r_iload (i := 5) hK dX1_bestGuide_6 rfl ?_
    refine r_iload_n (i := 3) hK dX1_bestGuide_8 rfl rfl ?_
    refine r_icmp_gt (tgt := 59) hK dX1_bestGuide_9 (by decide) (fun h => absurd h (nI_nlt hkj (by omega))) (fun _ => ?_)
    refine r_iload (i := 5) hK dX1_bestGuide_12 rfl ?_
    refine r_bipush (v := 6) hK dX1_bestGuide_14 (by decide) ?_
    refine r_icmp_ge (tgt := 59) hK dX1_bestGuide_16 (by decide) (fun _ => ?_) (fun _ => ?_)
    · refine r_iconst (v := (-1)) hK dX1_bestGuide_59 (by decide) ?_
      refine q_iret hK hR dX1_bestGuide_60 ⟨?_, rfl⟩
      rw [hq, if_neg (by omega)]
    · refine r_iload (i := 4) hK dX1_bestGuide_19 rfl ?_
      refine r_iload_n (i := 2) hK dX1_bestGuide_21 rfl rfl ?_
      refine r_icmp_eq (tgt := 59) hK dX1_bestGuide_22 (by decide) (fun _ => ?_) (fun h => absurd (by rw [show k = n by omega, hend]) h)
      refine r_iconst (v := (-1)) hK dX1_bestGuide_59 (by decide) ?_
      refine q_iret hK hR dX1_bestGuide_60 ⟨?_, rfl⟩
      rw [hq, if_neg (by omega)]
  | succ m ih =>
    intro k hkm hkj
    have hnt := hne k (by omega)
    have hkin := hin k (by omega)
    obtain ⟨g1, g2, g3, g4⟩ := gdN_is hv hnt (show kP P V FC t (gdA P V (kP P V FC t) a k) < FC by omega)
    refine r_iload (i := 5) hK dX1_bestGuide_6 rfl ?_
    refine r_iload_n (i := 3) hK dX1_bestGuide_8 rfl rfl ?_
    refine r_icmp_gt (tgt := 59) hK dX1_bestGuide_9 (by decide) (fun h => absurd h (nI_nlt hkj (by omega))) (fun _ => ?_)
    refine r_iload (i := 5) hK dX1_bestGuide_12 rfl ?_
    refine r_bipush (v := 6) hK dX1_bestGuide_14 (by decide) ?_
    refine r_icmp_ge (tgt := 59) hK dX1_bestGuide_16 (by decide) (fun h => absurd h (nI_ge (b := 6) (by omega) (by decide))) (fun _ => ?_)
    refine r_iload (i := 4) hK dX1_bestGuide_19 rfl ?_
    refine r_iload_n (i := 2) hK dX1_bestGuide_21 rfl rfl ?_
    refine r_icmp_eq (tgt := 59) hK dX1_bestGuide_22 (by decide) (fun h => absurd h (fun z => hnt (nI_inj (by omega) (by omega) z))) (fun _ => ?_)
    refine r_aload_n (i := 0) hK dX1_bestGuide_25 rfl rfl ?_
    refine r_iload (i := 4) hK dX1_bestGuide_26 rfl ?_
    refine r_ci1 hK hnn (Ci.eq (c_leastGuide ⟨o1, o2, o3, t0, t1, t2, t3⟩ hs hk (fun q => kP_le q) rfl (by omega)) (if_pos g1) rfl) moX1_leastGuide mlX1_121 t0 rfl rfl dX1_bestGuide_28 (Nat.le_of_ble_eq_true rfl) (Nat.le_of_ble_eq_true rfl) (eqI ?_)
    refine r_istore (i := 6) hK hm dX1_bestGuide_31 (by decide) ?_
    refine r_iload (i := 5) hK dX1_bestGuide_33 rfl ?_
    refine r_iload_n (i := 3) hK dX1_bestGuide_35 rfl rfl ?_
    refine r_icmp_ne (tgt := 42) hK dX1_bestGuide_36 (by decide) (fun h36 => ?_) (fun h36 => ?_)
    · refine r_aload_n (i := 0) hK dX1_bestGuide_42 rfl rfl ?_
      refine r_getA hK flX1_9 t0 rfl dX1_bestGuide_43 ?_
      refine r_iload (i := 6) hK dX1_bestGuide_46 rfl ?_
      refine r_si2 hK hnn (c_atE t1 (by decide) rfl (by omega) (by rw [(s3 _ g1).1, enI_in g3])) moX9_at mlX1_38 dX1_bestGuide_48 (Nat.le_of_ble_eq_true rfl) (Nat.le_of_ble_eq_true rfl) (eqI ?_)
      refine r_istore (i := 4) hK hm dX1_bestGuide_51 (by decide) ?_
      refine r_iincN (i := 5) hK hm dX1_bestGuide_53 rfl (by decide) ?_
      refine r_goto (tgt := 6) hK dX1_bestGuide_56 (by decide) ?_
      refine r_loc ?_ (ih (k + 1) (by omega) (by have : k ≠ j := fun z => h36 (by rw [z]); omega))
      rfl
    · refine r_iload (i := 6) hK dX1_bestGuide_39 rfl ?_
      refine q_iret hK hR dX1_bestGuide_41 ?_
      have ek : k = j := nI_inj (by omega) (by omega) h36
      refine ⟨?_, rfl⟩
      rw [nI_clamp hj, if_pos ⟨nI_pos hj, by omega⟩, ← ek]
set_option maxHeartbeats 4000000 in
set_option maxRecDepth 100000 in
theorem c_bestGuide {ad : Nat → Nat} {g : St} {np : Nat} {P : PD} {V : VT} {o : Nat} (hG : GdP o) (hs : GsC g o np P V) {a t : Nat} {i : Int32} (hk : ∀ q, q < 10 → g.1 (o + 3) q = nI (kP P V FC t q)) (ha : a < np) (ht : t < 10) (hl : kP P V FC t a < FC) : Ci 4 mX1_bestGuide [.ref o, .int (nI a), .int (nI t), .int i] ad g (fun v g' => v = (if ¬ i < 0 ∧ i.toNatClampNeg < kP P V FC t a % 16 then nI (gdN P V (kP P V FC t) (gdA P V (kP P V FC t) a i.toNatClampNeg)) else -1) ∧ g' = g) := by
  refine Cm.mk rfl (Nat.le_of_ble_eq_true rfl) (fun K hK hR hm hnn => ?_)
  refine r_iload_n (i := 1) hK dX1_bestGuide_0 rfl rfl ?_
  refine r_istore (i := 4) hK hm dX1_bestGuide_1 (by decide) ?_
  refine r_iconst (v := 0) hK dX1_bestGuide_3 (by decide) ?_
  refine r_istore (i := 5) hK hm dX1_bestGuide_4 (by decide) ?_
  by_cases h0 : i < 0
  · refine r_iload (i := 5) hK dX1_bestGuide_6 rfl ?_
    refine r_iload_n (i := 3) hK dX1_bestGuide_8 rfl rfl ?_
    refine r_icmp_gt (tgt := 59) hK dX1_bestGuide_9 (by decide) (fun _ => ?_) (fun h => absurd h0 h)
    refine r_iconst (v := (-1)) hK dX1_bestGuide_59 (by decide) ?_
    refine q_iret hK hR dX1_bestGuide_60 ⟨?_, rfl⟩
    rw [if_neg (fun z => z.1 h0)]
  · obtain ⟨j, hj, rfl⟩ := nI_of h0
    obtain ⟨n, n1, n2, n3, n4, n5⟩ := gd_go hs.1 ha hl
    refine r_loc ?_ (l_bG hG hs hk ht hj n1 n5 n2 n3 n4 hl hK hm hnn hR n 0 (by omega) (by omega))
    rfl
