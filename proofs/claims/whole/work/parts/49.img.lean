/-! IMAGES, THE TEXT -/
def cp6 (a b : Nat → Int32) : Nat → Int32 := va_cpy a b 0 0 6
theorem cp6_lt {a b : Nat → Int32} {j : Nat} (h : j < 6) : cp6 a b j = a j := by
  unfold cp6 va_cpy
  rw [if_pos (by omega)]
  congr 1
  omega
def ImP (o : Nat) : Prop := (o = 85 ∨ o = 88) ∧ TT[o]? = some (.inl (2, [(2, o + 1), (2, o + 2), (0, 0), (0, 0), (0, 0)])) ∧ TT[o + 1]? = some (.inr (0, 6, [])) ∧ TT[o + 2]? = some (.inr (0, 6, []))
theorem ip_t {i : Nat} (h : i < 2) : ImP (85 + 3 * i) := by
  obtain rfl | rfl : i = 0 ∨ i = 1 := by omega
  · exact ⟨by decide, rfl, rfl, rfl⟩
  · exact ⟨by decide, rfl, rfl, rfl⟩
theorem il_t {i : Nat} (h : i < 2) : ([85, 88] : List Nat)[(nI i).toNatClampNeg]? = some (85 + 3 * i) := by
  rw [nI_clamp (by omega)]
  obtain rfl | rfl : i = 0 ∨ i = 1 := by omega
  · rfl
  · rfl
theorem il_c {k : Nat} (h : k < 2) : ([85, 88] : List Nat)[k]? = some (85 + 3 * k) := by
  obtain rfl | rfl : k = 0 ∨ k = 1 := by omega
  · rfl
  · rfl
def gKp (g : St) (o : Nat) : St := upI (upI (upI (upR (upR g (o + 1) (cp6 (g.1 21) (g.1 (o + 1)))) (o + 2) (cp6 (g.1 20) (g.1 (o + 2)))) o 2 (g.1 0 9)) o 3 (g.1 76 0)) o 4 1
def gGb (g : St) (o : Nat) : St := upI (upI (upR (upR g 21 (cp6 (g.1 (o + 1)) (g.1 21))) 20 (cp6 (g.1 (o + 2)) (g.1 20))) 0 9 (g.1 o 2)) 76 0 (g.1 o 3)

set_option maxHeartbeats 4000000 in
set_option maxRecDepth 100000 in
theorem c_copy6 {ad : Nat → Nat} {g : St} {o q : Nat} (t0 : TT[o]? = some (.inr (0, 6, []))) (t1 : TT[q]? = some (.inr (0, 6, []))) : Cv 1 mX9_copy [.ref o, .ref q] ad g (fun g' => g' = upR g q (cp6 (g.1 o) (g.1 q))) := by
  refine Cm.mk rfl (Nat.le_of_ble_eq_true rfl) (fun K hK hR hm hnn => ?_)
  refine r_aload_n (i := 0) hK dX9_copy_0 rfl rfl ?_
  refine r_iconst (v := 0) hK dX9_copy_1 (by decide) ?_
  refine r_aload_n (i := 1) hK dX9_copy_2 rfl rfl ?_
  refine r_iconst (v := 0) hK dX9_copy_3 (by decide) ?_
  refine r_aload_n (i := 0) hK dX9_copy_4 rfl rfl ?_
  refine r_alen (v := 6) hK t0 (by decide) (by first | rfl | decide) dX9_copy_5 ?_
  refine r_aload_n (i := 1) hK dX9_copy_6 rfl rfl ?_
  refine r_alen (v := 6) hK t1 (by decide) (by first | rfl | decide) dX9_copy_7 ?_
  refine r_min hK hnn mwX9_326 dX9_copy_8 (Nat.le_of_ble_eq_true rfl) (Nat.le_of_ble_eq_true rfl) ?_
  refine r_copy hK mwX9_329 t0 t1 (by decide) (by decide) (by decide) (by decide) (by decide) dX9_copy_11 (Nat.le_of_ble_eq_true rfl) (Nat.le_of_ble_eq_true rfl) ?_
  refine q_vret hK hR dX9_copy_14 ?_
  rfl
set_option maxHeartbeats 4000000 in
set_option maxRecDepth 100000 in
theorem c_keep {ad : Nat → Nat} {g : St} {i : Int32} : Ci 2 mX9_keep [.ref 0, .int i] ad g (fun v g' => v = (if isB i 2 = true then 1 else UNK) ∧ g' = (if isB i 2 = true then gKp g (85 + 3 * i.toNatClampNeg) else g)) := by
  refine Cm.mk rfl (Nat.le_of_ble_eq_true rfl) (fun K hK hR hm hnn => ?_)
  refine r_iload_n (i := 1) hK dX9_keep_0 rfl rfl ?_
  refine r_if_lt (tgt := 13) hK dX9_keep_1 (by decide) (fun h1 => ?_) (fun h1 => ?_)
  · refine r_ldc hK ckX9_129 dX9_keep_13 ?_
    refine q_iret hK hR dX9_keep_15 ?_
    have hnb : ¬ isB i 2 = true := by
      unfold isB
      first
        | (rw [decide_eq_true h1]; simp; done)
        | (rw [decide_eq_false (p := i < nI 2) h10]; simp; done)
    rw [if_neg hnb, if_neg hnb]
    exact ⟨rfl, rfl⟩
  · refine r_iload_n (i := 1) hK dX9_keep_4 rfl rfl ?_
    refine r_aload_n (i := 0) hK dX9_keep_5 rfl rfl ?_
    refine r_getA hK flX9_71 to_0 rfl dX9_keep_6 ?_
    refine r_alen (v := 2) hK to_84 (by decide) (by first | rfl | decide) dX9_keep_9 ?_
    refine r_icmp_lt (tgt := 16) hK dX9_keep_10 (by decide) (fun h10 => ?_) (fun h10 => ?_)
    · refine r_aload_n (i := 0) hK dX9_keep_16 rfl rfl ?_
      have hib : isB i 2 = true := by unfold isB; rw [decide_eq_false h1, decide_eq_true (p := i < nI 2) h10]; rfl
      obtain ⟨hi1, hi2⟩ := isB_cl (by decide) hib
      have hI := ip_t hi1
      obtain ⟨o1, t0, t1, t2⟩ := id hI
      refine r_getA hK flX9_71 to_0 rfl dX9_keep_17 ?_
      refine r_iload_n (i := 1) hK dX9_keep_20 rfl rfl ?_
      refine r_aald4 hK to_84 (fun z => z.elim h1 (fun y => absurd hi1 (Nat.not_lt.mpr y))) (il_c hi1) dX9_keep_21 ?_
      refine r_astore_n (i := 2) hK hm dX9_keep_22 rfl (by decide) ?_
      refine r_aload_n (i := 0) hK dX9_keep_23 rfl rfl ?_
      refine r_getA hK flX9_26 to_0 rfl dX9_keep_24 ?_
      refine r_getA hK flX9_159 to_13 rfl dX9_keep_27 ?_
      refine r_aload_n (i := 2) hK dX9_keep_30 rfl rfl ?_
      refine r_getA hK flX9_309 t0 rfl dX9_keep_31 ?_
      refine r_sv2 hK hnn (c_copy6 to_21 t1) moX9_copy mlX9_310 dX9_keep_34 (Nat.le_of_ble_eq_true rfl) (Nat.le_of_ble_eq_true rfl) (eqV ?_)
      refine r_aload_n (i := 0) hK dX9_keep_37 rfl rfl ?_
      refine r_getA hK flX9_26 to_0 rfl dX9_keep_38 ?_
      refine r_getA hK flX9_156 to_13 rfl dX9_keep_41 ?_
      refine r_aload_n (i := 2) hK dX9_keep_44 rfl rfl ?_
      refine r_getA hK flX9_314 t0 rfl dX9_keep_45 ?_
      refine r_sv2 hK hnn (c_copy6 to_20 t2) moX9_copy mlX9_310 dX9_keep_48 (Nat.le_of_ble_eq_true rfl) (Nat.le_of_ble_eq_true rfl) (eqV ?_)
      rw [show (upR g (85 + 3 * i.toNatClampNeg + 1) (cp6 (g.1 21) (g.1 (85 + 3 * i.toNatClampNeg + 1)))).1 (85 + 3 * i.toNatClampNeg + 2) = g.1 (85 + 3 * i.toNatClampNeg + 2) from upR_n (by omega), show (upR g (85 + 3 * i.toNatClampNeg + 1) (cp6 (g.1 21) (g.1 (85 + 3 * i.toNatClampNeg + 1)))).1 20 = g.1 20 from upR_n (by omega)]
      refine r_aload_n (i := 2) hK dX9_keep_51 rfl rfl ?_
      refine r_aload_n (i := 0) hK dX9_keep_52 rfl rfl ?_
      refine r_getI hK flX9_116 to_0 rfl dX9_keep_53 ?_
      refine r_top (y := g.1 0 9) ((congrFun ((upR_n (by omega)).trans (upR_n (by omega))) _)) ?_
      refine r_putI hK flX9_315 ft2_2 t0 rfl dX9_keep_56 ?_
      refine r_aload_n (i := 2) hK dX9_keep_59 rfl rfl ?_
      refine r_aload_n (i := 0) hK dX9_keep_60 rfl rfl ?_
      refine r_getA hK flX9_58 to_0 rfl dX9_keep_61 ?_
      refine r_getI hK flX9_306 to_76 rfl dX9_keep_64 ?_
      refine r_top (y := g.1 76 0) ((congrFun ((upI_n (by omega)).trans ((upR_n (by omega)).trans (upR_n (by omega)))) _)) ?_
      refine r_putI hK flX9_316 ft2_3 t0 rfl dX9_keep_67 ?_
      refine r_aload_n (i := 2) hK dX9_keep_70 rfl rfl ?_
      refine r_iconst (v := 1) hK dX9_keep_71 (by decide) ?_
      refine r_putZ hK flX9_100 ft2_4 t0 rfl (by decide) dX9_keep_72 ?_
      refine r_iconst (v := 1) hK dX9_keep_75 (by decide) ?_
      refine q_iret hK hR dX9_keep_76 ?_
      rw [if_pos hib, if_pos hib]
      refine ⟨rfl, ?_⟩
      unfold gKp
      rfl
    · refine r_ldc hK ckX9_129 dX9_keep_13 ?_
      refine q_iret hK hR dX9_keep_15 ?_
      have hnb : ¬ isB i 2 = true := by
        unfold isB
        first
          | (rw [decide_eq_true h1]; simp; done)
          | (rw [decide_eq_false (p := i < nI 2) h10]; simp; done)
      rw [if_neg hnb, if_neg hnb]
      exact ⟨rfl, rfl⟩
set_option maxHeartbeats 4000000 in
set_option maxRecDepth 100000 in
theorem c_goBack {ad : Nat → Nat} {g : St} {i : Int32} : Ci 2 mX9_goBack [.ref 0, .int i] ad g (fun v g' => v = (if isB i 2 = true then (if g.1 (85 + 3 * i.toNatClampNeg) 4 = 0 then NTT else 1) else UNK) ∧ g' = (if isB i 2 = true then (if g.1 (85 + 3 * i.toNatClampNeg) 4 = 0 then g else gGb g (85 + 3 * i.toNatClampNeg)) else g)) := by
  refine Cm.mk rfl (Nat.le_of_ble_eq_true rfl) (fun K hK hR hm hnn => ?_)
  refine r_iload_n (i := 1) hK dX9_goBack_0 rfl rfl ?_
  refine r_if_lt (tgt := 13) hK dX9_goBack_1 (by decide) (fun h1 => ?_) (fun h1 => ?_)
  · refine r_ldc hK ckX9_129 dX9_goBack_13 ?_
    refine q_iret hK hR dX9_goBack_15 ?_
    have hnb : ¬ isB i 2 = true := by
      unfold isB
      first
        | (rw [decide_eq_true h1]; simp; done)
        | (rw [decide_eq_false (p := i < nI 2) h10]; simp; done)
    rw [if_neg hnb, if_neg hnb]
    exact ⟨rfl, rfl⟩
  · refine r_iload_n (i := 1) hK dX9_goBack_4 rfl rfl ?_
    refine r_aload_n (i := 0) hK dX9_goBack_5 rfl rfl ?_
    refine r_getA hK flX9_71 to_0 rfl dX9_goBack_6 ?_
    refine r_alen (v := 2) hK to_84 (by decide) (by first | rfl | decide) dX9_goBack_9 ?_
    refine r_icmp_lt (tgt := 16) hK dX9_goBack_10 (by decide) (fun h10 => ?_) (fun h10 => ?_)
    · refine r_aload_n (i := 0) hK dX9_goBack_16 rfl rfl ?_
      have hib : isB i 2 = true := by unfold isB; rw [decide_eq_false h1, decide_eq_true (p := i < nI 2) h10]; rfl
      obtain ⟨hi1, hi2⟩ := isB_cl (by decide) hib
      have hI := ip_t hi1
      obtain ⟨o1, t0, t1, t2⟩ := id hI
      refine r_getA hK flX9_71 to_0 rfl dX9_goBack_17 ?_
      refine r_iload_n (i := 1) hK dX9_goBack_20 rfl rfl ?_
      refine r_aald4 hK to_84 (fun z => z.elim h1 (fun y => absurd hi1 (Nat.not_lt.mpr y))) (il_c hi1) dX9_goBack_21 ?_
      refine r_astore_n (i := 2) hK hm dX9_goBack_22 rfl (by decide) ?_
      refine r_aload_n (i := 2) hK dX9_goBack_23 rfl rfl ?_
      refine r_getI hK flX9_100 t0 rfl dX9_goBack_24 ?_
      refine r_if_ne (tgt := 34) hK dX9_goBack_27 (by decide) (fun h27 => ?_) (fun h27 => ?_)
      · refine r_aload_n (i := 2) hK dX9_goBack_34 rfl rfl ?_
        refine r_getA hK flX9_309 t0 rfl dX9_goBack_35 ?_
        refine r_aload_n (i := 0) hK dX9_goBack_38 rfl rfl ?_
        refine r_getA hK flX9_26 to_0 rfl dX9_goBack_39 ?_
        refine r_getA hK flX9_159 to_13 rfl dX9_goBack_42 ?_
        refine r_sv2 hK hnn (c_copy6 t1 to_21) moX9_copy mlX9_310 dX9_goBack_45 (Nat.le_of_ble_eq_true rfl) (Nat.le_of_ble_eq_true rfl) (eqV ?_)
        refine r_aload_n (i := 2) hK dX9_goBack_48 rfl rfl ?_
        refine r_getA hK flX9_314 t0 rfl dX9_goBack_49 ?_
        refine r_aload_n (i := 0) hK dX9_goBack_52 rfl rfl ?_
        refine r_getA hK flX9_26 to_0 rfl dX9_goBack_53 ?_
        refine r_getA hK flX9_156 to_13 rfl dX9_goBack_56 ?_
        refine r_sv2 hK hnn (c_copy6 t2 to_20) moX9_copy mlX9_310 dX9_goBack_59 (Nat.le_of_ble_eq_true rfl) (Nat.le_of_ble_eq_true rfl) (eqV ?_)
        rw [show (upR g 21 (cp6 (g.1 (85 + 3 * i.toNatClampNeg + 1)) (g.1 21))).1 (85 + 3 * i.toNatClampNeg + 2) = g.1 (85 + 3 * i.toNatClampNeg + 2) from upR_n (by omega), show (upR g 21 (cp6 (g.1 (85 + 3 * i.toNatClampNeg + 1)) (g.1 21))).1 20 = g.1 20 from upR_n (by omega)]
        refine r_aload_n (i := 0) hK dX9_goBack_62 rfl rfl ?_
        refine r_aload_n (i := 2) hK dX9_goBack_63 rfl rfl ?_
        refine r_getI hK flX9_315 t0 rfl dX9_goBack_64 ?_
        refine r_top (y := g.1 (85 + 3 * i.toNatClampNeg) 2) ((congrFun ((upR_n (by omega)).trans (upR_n (by omega))) _)) ?_
        refine r_putI hK flX9_116 ft9_9 to_0 rfl dX9_goBack_67 ?_
        refine r_aload_n (i := 0) hK dX9_goBack_70 rfl rfl ?_
        refine r_getA hK flX9_58 to_0 rfl dX9_goBack_71 ?_
        refine r_aload_n (i := 2) hK dX9_goBack_74 rfl rfl ?_
        refine r_getI hK flX9_316 t0 rfl dX9_goBack_75 ?_
        refine r_top (y := g.1 (85 + 3 * i.toNatClampNeg) 3) ((congrFun ((upI_n (by omega)).trans ((upR_n (by omega)).trans (upR_n (by omega)))) _)) ?_
        refine r_putI hK flX9_306 ft0_0 to_76 rfl dX9_goBack_78 ?_
        refine r_iconst (v := 1) hK dX9_goBack_81 (by decide) ?_
        refine q_iret hK hR dX9_goBack_82 ?_
        rw [if_pos hib, if_pos hib, if_neg h27, if_neg h27]
        refine ⟨rfl, ?_⟩
        unfold gGb
        rfl
      · refine r_ldcw hK ckX9_298 dX9_goBack_30 ?_
        refine q_iret hK hR dX9_goBack_33 ?_
        rw [if_pos hib, if_pos hib]
        first
          | (rw [if_pos (Classical.not_not.mp h27), if_pos (Classical.not_not.mp h27)]; exact ⟨rfl, rfl⟩)
          | (rw [if_pos h27, if_pos h27]; exact ⟨rfl, rfl⟩)
    · refine r_ldc hK ckX9_129 dX9_goBack_13 ?_
      refine q_iret hK hR dX9_goBack_15 ?_
      have hnb : ¬ isB i 2 = true := by
        unfold isB
        first
          | (rw [decide_eq_true h1]; simp; done)
          | (rw [decide_eq_false (p := i < nI 2) h10]; simp; done)
      rw [if_neg hnb, if_neg hnb]
      exact ⟨rfl, rfl⟩
def byt (v : Int64) (k : Nat) : Int32 := ((v.toUInt64 >>> ((8 * nI k).toInt64.toUInt64 &&& Int64.toUInt64 63)).toInt64 &&& 255).toInt32
def apF (v : Int64) : Nat → Nat → St → St
  | 0, _, g => g
  | k + 1, L, g => apF v k (L + 1) (upI (upI g 2 L (byt v k)) 1 1 (nI (L + 1)))
theorem apF_succ (v : Int64) (k L : Nat) (g : St) : apF v (k + 1) L g = apF v k (L + 1) (upI (upI g 2 L (byt v k)) 1 1 (nI (L + 1))) := rfl
theorem apF_len {v : Int64} : ∀ k L (g : St), g.1 1 1 = nI L → (apF v k L g).1 1 1 = nI (L + k)
  | 0, L, g, h => h
  | k + 1, L, g, h => by
    rw [apF_succ, apF_len k (L + 1) _ (by rw [upI_s, upd_s]), show L + 1 + k = L + (k + 1) by omega]
def aFee (TL : Nat) (n : Int32) : Int32 := if n < 1 ∨ 8 < n then OUT else if 400 < TL + n.toNatClampNeg then FUL else nI (TL + n.toNatClampNeg)
def gFee (TL : Nat) (n : Int32) (v : Int64) (g : St) : St := if n < 1 ∨ 8 < n then g else if 400 < TL + n.toNatClampNeg then g else apF v n.toNatClampNeg TL g

set_option maxHeartbeats 4000000 in
set_option maxRecDepth 100000 in
theorem l_ap {K : KT} {ad : Nat → Nat} {v : Int64} {G : St} (hK : Cx K RX8 cX8_append 2 ad) (hm : K.2.2.1.2.maxLocals = 5) (hnn : Nn K 0 0)
    (hR : Rt K 0 0 TT ad none (Qv ad (fun g' => g' = G))) :
    ∀ k L (g : St), g.1 1 1 = nI L → L + k ≤ 400 → apF v k L g = G → Wp K 0 0 TT ad g 5 [(0, .ref 1), (2, .long v), (4, .int (nI k - 1))] [] := by
  intro k
  induction k with
  | zero =>
    intro L g hL hb hg
    refine r_iload (i := 4) hK dX8_append_5 rfl ?_
    refine r_if_lt (tgt := 49) hK dX8_append_7 (by decide) (fun _ => ?_) (fun h => absurd (by decide) h)
    refine q_vret hK hR dX8_append_49 ?_
    exact hg
  | succ k ih =>
    intro L g hL hb hg
    rw [apF_succ] at hg
    rw [show nI (k + 1) - 1 = nI k from by rw [show (1 : Int32) = nI 1 from rfl, pk_sub (by omega)]; rfl]
    refine r_iload (i := 4) hK dX8_append_5 rfl ?_
    refine r_if_lt (tgt := 49) hK dX8_append_7 (by decide) (fun h => absurd h (nI_pos (by omega))) (fun _ => ?_)
    refine r_aload_n (i := 0) hK dX8_append_10 rfl rfl ?_
    refine r_getA hK flX8_9 to_1 rfl dX8_append_11 ?_
    refine r_aload_n (i := 0) hK dX8_append_14 rfl rfl ?_
    refine r_getI hK flX8_15 to_1 rfl dX8_append_15 ?_
    refine r_top (y := nI L) hL ?_
    refine r_lload_n (i := 2) hK dX8_append_18 rfl rfl ?_
    refine r_bipush (v := 8) hK dX8_append_19 (by decide) ?_
    refine r_iload (i := 4) hK dX8_append_21 rfl ?_
    refine r_imul hK dX8_append_23 ?_
    refine r_lushr hK dX8_append_24 ?_
    refine r_ldc2 hK ckX8_19 dX8_append_25 ?_
    refine r_land hK dX8_append_28 ?_
    refine r_l2i hK dX8_append_29 ?_
    refine r_sv3 hK hnn (c_ptE to_2 (by decide) rfl (by omega) rfl) moX9_put mlX8_21 dX8_append_30 (Nat.le_of_ble_eq_true rfl) (Nat.le_of_ble_eq_true rfl) (eqV ?_)
    refine r_aload_n (i := 0) hK dX8_append_33 rfl rfl ?_
    refine r_dup hK dX8_append_34 rfl ?_
    refine r_getI hK flX8_15 to_1 rfl dX8_append_35 ?_
    refine r_top (y := nI L) ((congrFun (upI_n (by decide)) _).trans hL) ?_
    refine r_iconst (v := 1) hK dX8_append_38 (by decide) ?_
    refine r_iadd hK dX8_append_39 ?_
    refine r_top (y := nI (L + 1)) (nI_add _ _) ?_
    refine r_putI hK flX8_15 ft8_1 to_1 rfl dX8_append_40 ?_
    refine r_iincc (i := 4) (c := (-1)) hK hm dX8_append_43 rfl (by decide) (by decide) ?_
    refine r_goto (tgt := 5) hK dX8_append_46 (by decide) ?_
    rw [show nI k + (-1) = nI k - 1 from (Int32.sub_eq_add_neg _ _).symm]
    refine r_loc ?_ (ih (L + 1) _ (by rw [upI_s, upd_s]) (by omega) (by rw [← hg]; rfl))
    rfl
set_option maxHeartbeats 4000000 in
set_option maxRecDepth 100000 in
theorem c_append {ad : Nat → Nat} {g : St} {k L : Nat} {n : Int32} {v : Int64} (hn : n = nI k) (hL : g.1 1 1 = nI L) (hb : L + k ≤ 400) : Cv 2 mX8_append [.ref 1, .int n, .long v] ad g (fun g' => g' = apF v k L g) := by
  subst hn
  refine Cm.mk rfl (Nat.le_of_ble_eq_true rfl) (fun K hK hR hm hnn => ?_)
  refine r_iload_n (i := 1) hK dX8_append_0 rfl rfl ?_
  refine r_iconst (v := 1) hK dX8_append_1 (by decide) ?_
  refine r_isub hK dX8_append_2 ?_
  refine r_istore (i := 4) hK hm dX8_append_3 (by decide) ?_
  refine r_loc ?_ (l_ap hK hm hnn hR k L g hL hb rfl)
  rfl
theorem l8I {n : Int32} (h : ¬ n < 1) (h2 : n ≤ 8) : n.toNatClampNeg ≤ 8 ∧ n = nI n.toNatClampNeg := by
  have h3 : isB n 9 = true := by
    unfold isB
    have e0 : ¬ n < 0 := by
      rw [Int32.lt_iff_toInt_lt] at h ⊢
      rw [Int32.toInt_zero]
      rw [show (1 : Int32) = nI 1 from rfl, nI_toInt (by decide)] at h
      omega
    have e1 : n < nI 9 := by
      rw [Int32.le_iff_toInt_le, show (8 : Int32) = nI 8 from rfl, nI_toInt (by decide)] at h2
      rw [Int32.lt_iff_toInt_lt, nI_toInt (by decide)]
      omega
    rw [decide_eq_false e0, decide_eq_true e1]; rfl
  obtain ⟨k1, k2⟩ := isB_cl (by decide) h3
  exact ⟨by omega, k2⟩
set_option maxHeartbeats 4000000 in
set_option maxRecDepth 100000 in
theorem c_feed {ad : Nat → Nat} {g : St} {TL : Nat} {n : Int32} {v : Int64} (hT : g.1 1 1 = nI TL) (hTL : TL ≤ 400) : Ci 3 mX9_feed [.ref 0, .int n, .long v] ad g (fun r g' => r = aFee TL n ∧ g' = gFee TL n v g) := by
  refine Cm.mk rfl (Nat.le_of_ble_eq_true rfl) (fun K hK hR hm hnn => ?_)
  refine r_iload_n (i := 1) hK dX9_feed_0 rfl rfl ?_
  refine r_iconst (v := 1) hK dX9_feed_1 (by decide) ?_
  refine r_icmp_lt (tgt := 11) hK dX9_feed_2 (by decide) (fun h2 => ?_) (fun h2 => ?_)
  · refine r_ldc hK ckX9_76 dX9_feed_11 ?_
    refine q_iret hK hR dX9_feed_13 ?_
    unfold aFee gFee
    first
      | (rw [if_pos (Or.inl h2), if_pos (Or.inl h2)]; exact ⟨rfl, rfl⟩)
      | (rw [if_pos (Or.inr (Int32.not_le.mp h8)), if_pos (Or.inr (Int32.not_le.mp h8))]; exact ⟨rfl, rfl⟩)
  · refine r_iload_n (i := 1) hK dX9_feed_5 rfl rfl ?_
    refine r_bipush (v := 8) hK dX9_feed_6 (by decide) ?_
    refine r_icmp_le (tgt := 14) hK dX9_feed_8 (by decide) (fun h8 => ?_) (fun h8 => ?_)
    · refine r_aload_n (i := 0) hK dX9_feed_14 rfl rfl ?_
      have hor : ¬ (n < 1 ∨ 8 < n) := fun z => z.elim h2 (fun y => absurd h8 (Int32.not_le.mpr y))
      obtain ⟨hn1, hn2⟩ := l8I h2 h8
      refine r_getA hK flX9_12 to_0 rfl dX9_feed_15 ?_
      refine r_getI hK flX9_77 to_1 rfl dX9_feed_18 ?_
      refine r_iload_n (i := 1) hK dX9_feed_21 rfl rfl ?_
      refine r_iadd hK dX9_feed_22 ?_
      refine r_top (y := nI (TL + n.toNatClampNeg)) (by have e := nI_add TL n.toNatClampNeg; rw [← hn2] at e; rw [hT]; exact e) ?_
      refine r_sipush (v := 400) hK dX9_feed_23 (by decide) ?_
      refine r_icmp_le (tgt := 32) hK dX9_feed_26 (by decide) (fun h26 => ?_) (fun h26 => ?_)
      · refine r_aload_n (i := 0) hK dX9_feed_32 rfl rfl ?_
        have hl : TL + n.toNatClampNeg ≤ 400 := (nI_leI (b := 400) (by omega) (by decide)).mp h26
        refine r_getA hK flX9_12 to_0 rfl dX9_feed_33 ?_
        refine r_iload_n (i := 1) hK dX9_feed_36 rfl rfl ?_
        refine r_lload_n (i := 2) hK dX9_feed_37 rfl rfl ?_
        refine r_cv2 hK hnn (c_append hn2 hT hl) moX8_append mlX9_82 to_1 rfl rfl dX9_feed_38 (Nat.le_of_ble_eq_true rfl) (Nat.le_of_ble_eq_true rfl) (eqV ?_)
        refine r_aload_n (i := 0) hK dX9_feed_41 rfl rfl ?_
        refine r_getA hK flX9_12 to_0 rfl dX9_feed_42 ?_
        refine r_getI hK flX9_77 to_1 rfl dX9_feed_45 ?_
        refine q_iret hK hR dX9_feed_48 ?_
        unfold aFee gFee
        rw [if_neg hor, if_neg (Nat.not_lt.mpr hl), if_neg hor, if_neg (Nat.not_lt.mpr hl)]
        exact ⟨apF_len _ _ _ hT, rfl⟩
      · refine r_ldc hK ckX9_81 dX9_feed_29 ?_
        refine q_iret hK hR dX9_feed_31 ?_
        unfold aFee gFee
        have hl : 400 < TL + n.toNatClampNeg := Nat.lt_of_not_le (fun z => h26 ((nI_leI (b := 400) (by omega) (by decide)).mpr z))
        rw [if_neg hor, if_pos hl, if_neg hor, if_pos hl]
        exact ⟨rfl, rfl⟩
    · refine r_ldc hK ckX9_76 dX9_feed_11 ?_
      refine q_iret hK hR dX9_feed_13 ?_
      unfold aFee gFee
      first
        | (rw [if_pos (Or.inl h2), if_pos (Or.inl h2)]; exact ⟨rfl, rfl⟩)
        | (rw [if_pos (Or.inr (Int32.not_le.mp h8)), if_pos (Or.inr (Int32.not_le.mp h8))]; exact ⟨rfl, rfl⟩)
