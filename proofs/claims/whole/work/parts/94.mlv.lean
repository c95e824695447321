/-! THE MODEL: by lot, the outer loop -/
set_option maxHeartbeats 4000000 in
set_option maxRecDepth 100000 in
theorem lm_lx {K : KT} {ad : Nat → Nat} {g : St} {t i : Nat} {x : Int32} {R : CA} (hK : Cx K RX10 cX10_lot 6 ad) (hm : K.2.2.1.2.maxLocals = 17) (hnn : Nn K 0 0)
    {Qx : Int32 → St → Prop} (hR : Rt K 0 0 TT ad (some .int) (Qi ad Qx)) (hq : ∀ v g', v = lA x R ∧ FM g g' → Qx v g') {g1 : St} (hf : FQ g g1) (hlen : g1.1 91 44 = nI i) (hi : i ≤ 1957) : Wp K 0 0 TT ad g1 67 [(0, .ref 91), (2, .int (nI t)), (3, .int x), (4, .long (lN R.1)), (6, .long (lN R.2.2)), (8, .int (lgI R.2.1)), (9, .int (nI i))] [] := by
  refine r_iload (i := 9) hK dX10_lot_67 rfl ?_
  refine r_aload_n (i := 0) hK dX10_lot_69 rfl rfl ?_
  refine r_getI hK flX10_309 to_91 rfl dX10_lot_70 ?_
  refine r_top (y := nI i) hlen ?_
  refine r_icmp_ge (tgt := 311) hK dX10_lot_73 (by decide) (fun _ => ?_) (fun h => absurd (nI_le (Nat.le_refl _) (by omega)) h)
  refine r_iload_n (i := 3) hK dX10_lot_311 rfl rfl ?_
  refine r_if_ne (tgt := 321) hK dX10_lot_312 (by decide) (fun h312 => ?_) (fun h312 => ?_)
  · refine r_iload_n (i := 3) hK dX10_lot_321 rfl rfl ?_
    refine r_iconst (v := 1) hK dX10_lot_322 (by decide) ?_
    refine r_icmp_ne (tgt := 331) hK dX10_lot_323 (by decide) (fun h323 => ?_) (fun h323 => ?_)
    · refine r_lload (i := 6) hK dX10_lot_331 rfl ?_
      refine r_ldc2 hK ckX10_323 dX10_lot_333 ?_
      refine r_ldiv hK dX10_lot_336 (by decide) ?_
      refine r_l2i hK dX10_lot_337 ?_
      refine q_iret hK hR dX10_lot_338 ?_
      refine hq _ _ ⟨?_, hf.fm⟩
      unfold lA
      first
        | (rw [if_pos h312]; exact lN_i _)
        | (rw [if_pos (Classical.not_not.mp h312)]; exact lN_i _)
        | (rw [if_neg h312, if_pos h323]; done)
        | (rw [if_neg h312, if_pos (Classical.not_not.mp h323)]; done)
        | (rw [if_neg h312, if_neg h323]; done)
    · refine r_iload (i := 8) hK dX10_lot_326 rfl ?_
      refine r_goto (tgt := 338) hK dX10_lot_328 (by decide) ?_
      refine q_iret hK hR dX10_lot_338 ?_
      refine hq _ _ ⟨?_, hf.fm⟩
      unfold lA
      first
        | (rw [if_pos h312]; exact lN_i _)
        | (rw [if_pos (Classical.not_not.mp h312)]; exact lN_i _)
        | (rw [if_neg h312, if_pos h323]; done)
        | (rw [if_neg h312, if_pos (Classical.not_not.mp h323)]; done)
        | (rw [if_neg h312, if_neg h323]; done)
  · refine r_lload (i := 4) hK dX10_lot_315 rfl ?_
    refine r_l2i hK dX10_lot_317 ?_
    refine r_goto (tgt := 338) hK dX10_lot_318 (by decide) ?_
    refine q_iret hK hR dX10_lot_338 ?_
    refine hq _ _ ⟨?_, hf.fm⟩
    unfold lA
    first
      | (rw [if_pos h312]; exact lN_i _)
      | (rw [if_pos (Classical.not_not.mp h312)]; exact lN_i _)
      | (rw [if_neg h312, if_pos h323]; done)
      | (rw [if_neg h312, if_pos (Classical.not_not.mp h323)]; done)
      | (rw [if_neg h312, if_neg h323]; done)
set_option maxHeartbeats 4000000 in
set_option maxRecDepth 100000 in
theorem lm_lo {K : KT} {ad : Nat → Nat} {g : St} {X : LN} (hX : MC g X) {V : VT} (hV : vOk X.1 X.2.2.1 V) (hG : MG g V X.2.2.1.1) {t : Nat} (ht : t < X.1) {x : Int32} (hK : Cx K RX10 cX10_lot 6 ad) (hm : K.2.2.1.2.maxLocals = 17) (hnn : Nn K 0 0)
    {R : CA} {Qx : Int32 → St → Prop} (hR : Rt K 0 0 TT ad (some .int) (Qi ad Qx)) (hq : ∀ v g', v = lA x R ∧ FM g g' → Qx v g') :
    ∀ F i, i + F = 1957 → ∀ q mm B g1, FQ g g1 → QM g1 q mm → g1.1 91 44 = nI mm → i ≤ mm → (∀ j, j < mm → vQ X.1 X.2.2.1 (q j)) → i + pS X.2.2.1 q i (mm - i) ≤ 1957 → B.2.1 ≤ 5347 → cAdd B (qS cAdd (0, 0, 0) (cE X.2.2.1 V t) q i (mm - i)) = R →
      Wp K 0 0 TT ad g1 67 [(0, .ref 91), (2, .int (nI t)), (3, .int x), (4, .long (lN B.1)), (6, .long (lN B.2.2)), (8, .int (lgI B.2.1)), (9, .int (nI i))] [] := by
  obtain ⟨hok, hpo, hlaw, x1, hW, hPs, x4⟩ := id hX
  have h10 := hok.2.1
  have h6 := hpo.1
  have hhm : ∀ p, p < X.2.2.1.1 → X.2.2.1.2.1 p < 10 := fun p hp => by have := (hpo.2 p hp).1; omega
  intro F
  induction F with
  | zero =>
    intro i hiF q mm B g1 hf hQ hlen hle hvq hpot hB hsum
    have z := pS_ge (P := X.2.2.1) (q := q) (i := i) (mm - i)
    have e : mm = i := by omega
    subst e
    rw [Nat.sub_self] at hsum
    have e2 : B = R := (cA_r B).symm.trans hsum
    subst e2
    exact lm_lx hK hm hnn hR hq hf hlen (by omega)
  | succ F ih =>
    intro i hiF q mm B g1 hf hQ hlen hle hvq hpot hB hsum
    by_cases him : i < mm
    · have hG1 := MG_fq hG hf
      have hPs1 := (MC_of hX hf.fm).2.2.2.2.2.1
      obtain ⟨he1, he2, he3, he4⟩ := hvq i him
      have hM6 : ctM X.2.2.1 V (q i).2.1 (q i).1 ≤ X.2.2.1.1 := sp_cn_le _ _
      have hz := pS_ge (P := X.2.2.1) (q := q) (i := i) (mm - i)
      have hml : mm ≤ 1957 := by omega
      have esum : qS cAdd (0, 0, 0) (cE X.2.2.1 V t) q i (mm - i) = cAdd (cE X.2.2.1 V t (q i)) (qS cAdd (0, 0, 0) (cE X.2.2.1 V t) q (i + 1) (mm - i - 1)) := by
        rw [show mm - i = (mm - i - 1) + 1 by omega]
        exact qS_h cA_z cA_r cA_a _
      have epot : pS X.2.2.1 q i (mm - i) = qW X.2.2.1 (q i) + pS X.2.2.1 q (i + 1) (mm - i - 1) := by
        rw [show mm - i = (mm - i - 1) + 1 by omega]
        exact qS_h Nat.zero_add Nat.add_zero Nat.add_assoc _
      have hw1 : 1 ≤ qW X.2.2.1 (q i) := nP_1 _
      rw [epot] at hpot
      have hpot1 : i + 1 + pS X.2.2.1 q (i + 1) (mm - (i + 1)) ≤ 1957 := by
        rw [show mm - (i + 1) = mm - i - 1 by omega]; omega
      have hsum1 : cAdd (cAdd B (cE X.2.2.1 V t (q i))) (qS cAdd (0, 0, 0) (cE X.2.2.1 V t) q (i + 1) (mm - (i + 1))) = R := by
        rw [show mm - (i + 1) = mm - i - 1 by omega, cA_a, ← esum]; exact hsum
      have h305 : ∀ q2 g2, FQ g g2 → QM g2 q2 (mm + ctM X.2.2.1 V (q i).2.1 (q i).1) → g2.1 91 44 = nI (mm + ctM X.2.2.1 V (q i).2.1 (q i).1) → (∀ j, j < mm → q2 j = q j) → (∀ d, d < ctM X.2.2.1 V (q i).2.1 (q i).1 → q2 (mm + d) = chE X.2.2.1 V (q i) d) → ¬ (q i).1 = t → ¬ ctM X.2.2.1 V (q i).2.1 (q i).1 = 0 → Wp K 0 0 TT ad g2 305 [(0, .ref 91), (2, .int (nI t)), (3, .int x), (4, .long (lN B.1)), (6, .long (lN B.2.2)), (8, .int (lgI B.2.1)), (9, .int (nI i))] [] := by
        intro q2 g2 hf2 hQ2 hl2 hag hcs hht hM1
        have hvq2 : ∀ j, j < mm + ctM X.2.2.1 V (q i).2.1 (q i).1 → vQ X.1 X.2.2.1 (q2 j) := fun j hj => by
          by_cases e : j < mm
          · rw [hag j e]; exact hvq j e
          · have z := hcs (j - mm) (by omega)
            rw [show mm + (j - mm) = j by omega] at z
            rw [z]; exact ch_v hV (hvq i him) (by omega)
        have hpc := pS_ch (P := X.2.2.1) (V := V) (e := q i) (q := q2) (k := mm) hM1 hcs
        have hpot2 : i + 1 + pS X.2.2.1 q2 (i + 1) (mm + ctM X.2.2.1 V (q i).2.1 (q i).1 - (i + 1)) ≤ 1957 := by
          have z1 : pS X.2.2.1 q2 (i + 1) ((mm - i - 1) + ctM X.2.2.1 V (q i).2.1 (q i).1) = pS X.2.2.1 q2 (i + 1) (mm - i - 1) + pS X.2.2.1 q2 (i + 1 + (mm - i - 1)) (ctM X.2.2.1 V (q i).2.1 (q i).1) := qS_ap Nat.add_zero Nat.add_assoc _
          rw [show i + 1 + (mm - i - 1) = mm by omega] at z1
          have z2 : pS X.2.2.1 q2 (i + 1) (mm - i - 1) = pS X.2.2.1 q (i + 1) (mm - i - 1) := qS_cg _ (fun j a b => hag j (by omega))
          rw [show mm + ctM X.2.2.1 V (q i).2.1 (q i).1 - (i + 1) = (mm - i - 1) + ctM X.2.2.1 V (q i).2.1 (q i).1 by omega, z1, z2]
          omega
        have hsum2 : cAdd B (qS cAdd (0, 0, 0) (cE X.2.2.1 V t) q2 (i + 1) (mm + ctM X.2.2.1 V (q i).2.1 (q i).1 - (i + 1))) = R := by
          have z1 : qS cAdd (0, 0, 0) (cE X.2.2.1 V t) q2 (i + 1) ((mm - i - 1) + ctM X.2.2.1 V (q i).2.1 (q i).1) = cAdd (qS cAdd (0, 0, 0) (cE X.2.2.1 V t) q2 (i + 1) (mm - i - 1)) (qS cAdd (0, 0, 0) (cE X.2.2.1 V t) q2 (i + 1 + (mm - i - 1)) (ctM X.2.2.1 V (q i).2.1 (q i).1)) := qS_ap cA_r cA_a _
          rw [show i + 1 + (mm - i - 1) = mm by omega] at z1
          have z2 : qS cAdd (0, 0, 0) (cE X.2.2.1 V t) q2 (i + 1) (mm - i - 1) = qS cAdd (0, 0, 0) (cE X.2.2.1 V t) q (i + 1) (mm - i - 1) := qS_cg _ (fun j a b => hag j (by omega))
          rw [show mm + ctM X.2.2.1 V (q i).2.1 (q i).1 - (i + 1) = (mm - i - 1) + ctM X.2.2.1 V (q i).2.1 (q i).1 by omega, z1, z2, ← cE_c h6 hht hM1 hcs, ← hsum, esum]
          exact congrArg (cAdd B) (Prod.ext (Nat.add_comm _ _) (Prod.ext (Nat.max_comm _ _) (Nat.add_comm _ _)))
        refine r_iincN (i := 9) hK hm dX10_lot_305 rfl (by decide) ?_
        refine r_goto (tgt := 67) hK dX10_lot_308 (by decide) ?_
        refine r_loc ?_ (ih (i + 1) (by omega) q2 (mm + ctM X.2.2.1 V (q i).2.1 (q i).1) B g2 hf2 hQ2 hl2 (by omega) hvq2 hpot2 hB hsum2)
        rfl
      refine r_iload (i := 9) hK dX10_lot_67 rfl ?_
      refine r_aload_n (i := 0) hK dX10_lot_69 rfl rfl ?_
      refine r_getI hK flX10_309 to_91 rfl dX10_lot_70 ?_
      refine r_top (y := nI mm) hlen ?_
      refine r_icmp_ge (tgt := 311) hK dX10_lot_73 (by decide) (fun h => absurd h (nI_ge him (by omega))) (fun _ => ?_)
      refine r_aload_n (i := 0) hK dX10_lot_76 rfl rfl ?_
      refine r_aload_n (i := 0) hK dX10_lot_77 rfl rfl ?_
      refine r_getA hK flX10_86 to_91 rfl dX10_lot_78 ?_
      refine r_iload (i := 9) hK dX10_lot_81 rfl ?_
      refine r_ialN hK to_116 rfl (by omega) (by decide) (hQ i him).2.1 dX10_lot_83 ?_
      refine r_aload_n (i := 0) hK dX10_lot_84 rfl rfl ?_
      refine r_getA hK flX10_83 to_91 rfl dX10_lot_85 ?_
      refine r_iload (i := 9) hK dX10_lot_88 rfl ?_
      refine r_ialN hK to_115 rfl (by omega) (by decide) (hQ i him).1 dX10_lot_90 ?_
      refine r_ci2 hK hnn (c_mCount hPs1 h6 hhm hG1 rfl (Nat.lt_trans he2 (by decide)) rfl (by omega)) moX10_countLeads mlX10_320 to_91 rfl rfl dX10_lot_91 (Nat.le_of_ble_eq_true rfl) (Nat.le_of_ble_eq_true rfl) (eqI ?_)
      refine r_top (y := nI (ctM X.2.2.1 V (q i).2.1 (q i).1)) rfl ?_
      refine r_istore (i := 10) hK hm dX10_lot_94 (by decide) ?_
      refine r_aload_n (i := 0) hK dX10_lot_96 rfl rfl ?_
      refine r_getA hK flX10_83 to_91 rfl dX10_lot_97 ?_
      refine r_iload (i := 9) hK dX10_lot_100 rfl ?_
      refine r_ialN hK to_115 rfl (by omega) (by decide) (hQ i him).1 dX10_lot_102 ?_
      refine r_iload_n (i := 2) hK dX10_lot_103 rfl rfl ?_
      refine r_icmp_ne (tgt := 157) hK dX10_lot_104 (by decide) (fun h104 => ?_) (fun h104 => ?_)
      · refine r_iload (i := 10) hK dX10_lot_157 rfl ?_
        have hht : ¬ (q i).1 = t := fun z => h104 (congrArg nI z)
        refine r_if_ne (tgt := 177) hK dX10_lot_159 (by decide) (fun h159 => ?_) (fun h159 => ?_)
        · refine r_aload_n (i := 0) hK dX10_lot_177 rfl rfl ?_
          refine r_getA hK flX10_92 to_91 rfl dX10_lot_178 ?_
          refine r_iload (i := 9) hK dX10_lot_181 rfl ?_
          refine r_lalN hK to_118 rfl (by omega) (by decide) (hQ i him).2.2.2 dX10_lot_183 ?_
          refine r_lstore (i := 11) hK hm dX10_lot_184 (by decide) ?_
          refine r_iconst (v := 0) hK dX10_lot_186 (by decide) ?_
          refine r_istore (i := 13) hK hm dX10_lot_187 (by decide) ?_
          refine r_iconst (v := 0) hK dX10_lot_189 (by decide) ?_
          refine r_istore (i := 14) hK hm dX10_lot_190 (by decide) ?_
          have hM1 : ¬ ctM X.2.2.1 V (q i).2.1 (q i).1 = 0 := fun z => h159 (congrArg nI z)
          have hcap : mm + ctM X.2.2.1 V (q i).2.1 (q i).1 ≤ 1957 := by
            have z1 := pS_ch (P := X.2.2.1) (V := V) (e := q i) (q := fun d => chE X.2.2.1 V (q i) d) (k := 0) hM1 (fun c _ => by rw [Nat.zero_add])
            have z2 := pS_ge (P := X.2.2.1) (q := q) (i := i + 1) (mm - i - 1)
            have z3 := pS_ge (P := X.2.2.1) (q := fun d => chE X.2.2.1 V (q i) d) (i := 0) (ctM X.2.2.1 V (q i).2.1 (q i).1)
            omega
          have hin := lm_in (t := t) (x := x) (B := B) (MC_of hX FM.rf) hV hG (q := q) (i := i) (mm := mm) him (hvq i him) hcap hK hm hnn (fun q2 g2 hf2 hQ2 hl2 hag hcs => h305 q2 g2 hf2 hQ2 hl2 hag hcs hht hM1) X.2.2.1.1 0 (by omega) 0 (q i).2.2.2 rfl (fun _ => by rw [Nat.mul_zero, Nat.sub_zero]) q g1 hf hQ hlen (fun _ _ => rfl) (fun d hd => absurd hd (Nat.not_lt_zero d))
          refine r_loc ?_ hin
          rfl
        · refine r_lload (i := 4) hK dX10_lot_162 rfl ?_
          have hM0 : ctM X.2.2.1 V (q i).2.1 (q i).1 = 0 := nI_inj (by omega) (by decide) (by first | exact h159 | exact Classical.not_not.mp h159)
          refine r_aload_n (i := 0) hK dX10_lot_164 rfl rfl ?_
          refine r_getA hK flX10_92 to_91 rfl dX10_lot_165 ?_
          refine r_iload (i := 9) hK dX10_lot_168 rfl ?_
          refine r_lalN hK to_118 rfl (by omega) (by decide) (hQ i him).2.2.2 dX10_lot_170 ?_
          refine r_ladd hK dX10_lot_171 ?_
          refine r_topL (y := lN (B.1 + (q i).2.2.2)) (lN_add _ _) ?_
          refine r_lstore (i := 4) hK hm dX10_lot_172 (by decide) ?_
          refine r_goto (tgt := 305) hK dX10_lot_174 (by decide) ?_
          refine r_iincN (i := 9) hK hm dX10_lot_305 rfl (by decide) ?_
          refine r_goto (tgt := 67) hK dX10_lot_308 (by decide) ?_
          first
            | (have hce := cE_t (P := X.2.2.1) (V := V) hht; refine r_loc ?_ (ih (i + 1) (by omega) q mm (cAdd B (cE X.2.2.1 V t (q i))) g1 hf hQ hlen (by omega) hvq hpot1 (by rw [hce]; show max B.2.1 ((q i).2.2.1 + 1) ≤ 5347; omega) hsum1); rw [hce]; rfl)
            | (have hce := cE_0 (P := X.2.2.1) (V := V) hht hM0; refine r_loc ?_ (ih (i + 1) (by omega) q mm (cAdd B (cE X.2.2.1 V t (q i))) g1 hf hQ hlen (by omega) hvq hpot1 (by rw [hce]; show max B.2.1 0 ≤ 5347; omega) hsum1); rw [hce]; simp only [List.map_cons, List.map_nil]; rw [show (cAdd B ((q i).2.2.2, 0, 0)).2.1 = B.2.1 from Nat.max_zero _]; rfl)
      · refine r_aload_n (i := 0) hK dX10_lot_107 rfl rfl ?_
        have hht : (q i).1 = t := nI_inj (by omega) (by omega) h104
        refine r_getA hK flX10_89 to_91 rfl dX10_lot_108 ?_
        refine r_iload (i := 9) hK dX10_lot_111 rfl ?_
        refine r_ialN hK to_117 rfl (by omega) (by decide) (hQ i him).2.2.1 dX10_lot_113 ?_
        refine r_iload (i := 8) hK dX10_lot_114 rfl ?_
        refine r_icmp_le (tgt := 129) hK dX10_lot_116 (by decide) (fun h116 => ?_) (fun h116 => ?_)
        · refine r_iload (i := 8) hK dX10_lot_129 rfl ?_
          refine r_top (y := lgI (max B.2.1 ((q i).2.2.1 + 1))) (by rw [← lg_max hB (by omega), if_neg (Int32.not_lt.mpr h116)]) ?_
          refine r_istore (i := 8) hK hm dX10_lot_131 (by decide) ?_
          refine r_lload (i := 6) hK dX10_lot_133 rfl ?_
          refine r_aload_n (i := 0) hK dX10_lot_135 rfl rfl ?_
          refine r_getA hK flX10_92 to_91 rfl dX10_lot_136 ?_
          refine r_iload (i := 9) hK dX10_lot_139 rfl ?_
          refine r_lalN hK to_118 rfl (by omega) (by decide) (hQ i him).2.2.2 dX10_lot_141 ?_
          refine r_aload_n (i := 0) hK dX10_lot_142 rfl rfl ?_
          refine r_getA hK flX10_89 to_91 rfl dX10_lot_143 ?_
          refine r_iload (i := 9) hK dX10_lot_146 rfl ?_
          refine r_ialN hK to_117 rfl (by omega) (by decide) (hQ i him).2.2.1 dX10_lot_148 ?_
          refine r_i2l hK dX10_lot_149 ?_
          refine r_lmul hK dX10_lot_150 ?_
          refine r_ladd hK dX10_lot_151 ?_
          refine r_topL (y := lN (B.2.2 + (q i).2.2.2 * (q i).2.2.1)) (by rw [nI_l (by omega), lN_mul, lN_add]) ?_
          refine r_lstore (i := 6) hK hm dX10_lot_152 (by decide) ?_
          refine r_goto (tgt := 305) hK dX10_lot_154 (by decide) ?_
          refine r_iincN (i := 9) hK hm dX10_lot_305 rfl (by decide) ?_
          refine r_goto (tgt := 67) hK dX10_lot_308 (by decide) ?_
          first
            | (have hce := cE_t (P := X.2.2.1) (V := V) hht; refine r_loc ?_ (ih (i + 1) (by omega) q mm (cAdd B (cE X.2.2.1 V t (q i))) g1 hf hQ hlen (by omega) hvq hpot1 (by rw [hce]; show max B.2.1 ((q i).2.2.1 + 1) ≤ 5347; omega) hsum1); rw [hce]; rfl)
            | (have hce := cE_0 (P := X.2.2.1) (V := V) hht hM0; refine r_loc ?_ (ih (i + 1) (by omega) q mm (cAdd B (cE X.2.2.1 V t (q i))) g1 hf hQ hlen (by omega) hvq hpot1 (by rw [hce]; show max B.2.1 0 ≤ 5347; omega) hsum1); rw [hce]; simp only [List.map_cons, List.map_nil]; rw [show (cAdd B ((q i).2.2.2, 0, 0)).2.1 = B.2.1 from Nat.max_zero _]; rfl)
        · refine r_aload_n (i := 0) hK dX10_lot_119 rfl rfl ?_
          refine r_getA hK flX10_89 to_91 rfl dX10_lot_120 ?_
          refine r_iload (i := 9) hK dX10_lot_123 rfl ?_
          refine r_ialN hK to_117 rfl (by omega) (by decide) (hQ i him).2.2.1 dX10_lot_125 ?_
          refine r_top (y := lgI (max B.2.1 ((q i).2.2.1 + 1))) (by rw [← lg_max hB (by omega), if_pos (Int32.not_le.mp h116)]) ?_
          refine r_goto (tgt := 131) hK dX10_lot_126 (by decide) ?_
          refine r_istore (i := 8) hK hm dX10_lot_131 (by decide) ?_
          refine r_lload (i := 6) hK dX10_lot_133 rfl ?_
          refine r_aload_n (i := 0) hK dX10_lot_135 rfl rfl ?_
          refine r_getA hK flX10_92 to_91 rfl dX10_lot_136 ?_
          refine r_iload (i := 9) hK dX10_lot_139 rfl ?_
          refine r_lalN hK to_118 rfl (by omega) (by decide) (hQ i him).2.2.2 dX10_lot_141 ?_
          refine r_aload_n (i := 0) hK dX10_lot_142 rfl rfl ?_
          refine r_getA hK flX10_89 to_91 rfl dX10_lot_143 ?_
          refine r_iload (i := 9) hK dX10_lot_146 rfl ?_
          refine r_ialN hK to_117 rfl (by omega) (by decide) (hQ i him).2.2.1 dX10_lot_148 ?_
          refine r_i2l hK dX10_lot_149 ?_
          refine r_lmul hK dX10_lot_150 ?_
          refine r_ladd hK dX10_lot_151 ?_
          refine r_topL (y := lN (B.2.2 + (q i).2.2.2 * (q i).2.2.1)) (by rw [nI_l (by omega), lN_mul, lN_add]) ?_
          refine r_lstore (i := 6) hK hm dX10_lot_152 (by decide) ?_
          refine r_goto (tgt := 305) hK dX10_lot_154 (by decide) ?_
          refine r_iincN (i := 9) hK hm dX10_lot_305 rfl (by decide) ?_
          refine r_goto (tgt := 67) hK dX10_lot_308 (by decide) ?_
          first
            | (have hce := cE_t (P := X.2.2.1) (V := V) hht; refine r_loc ?_ (ih (i + 1) (by omega) q mm (cAdd B (cE X.2.2.1 V t (q i))) g1 hf hQ hlen (by omega) hvq hpot1 (by rw [hce]; show max B.2.1 ((q i).2.2.1 + 1) ≤ 5347; omega) hsum1); rw [hce]; rfl)
            | (have hce := cE_0 (P := X.2.2.1) (V := V) hht hM0; refine r_loc ?_ (ih (i + 1) (by omega) q mm (cAdd B (cE X.2.2.1 V t (q i))) g1 hf hQ hlen (by omega) hvq hpot1 (by rw [hce]; show max B.2.1 0 ≤ 5347; omega) hsum1); rw [hce]; simp only [List.map_cons, List.map_nil]; rw [show (cAdd B ((q i).2.2.2, 0, 0)).2.1 = B.2.1 from Nat.max_zero _]; rfl)
    · have e : mm = i := by omega
      subst e
      rw [Nat.sub_self] at hsum
      have e2 : B = R := (cA_r B).symm.trans hsum
      subst e2
      exact lm_lx hK hm hnn hR hq hf hlen (by omega)
