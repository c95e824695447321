/-! THE MODEL: needs -/
theorem mkey (a m : Nat) : nI a + (16 : Int32) * nI m + 1 = nI (a + (16 * m + 1)) := by
  rw [show (16 : Int32) = nI 16 from rfl, pk_mul, nI_add, ← nI_succ]
  rfl
theorem nlt_of {a b : Nat} (h : ¬ nI a ≤ nI b) (hb : b < 2 ^ 31) : ¬ a ≤ b := fun z => h (nI_le z hb)
theorem nge_of {a b : Nat} (h : nI a ≤ nI b) (ha : a < 2 ^ 31) : ¬ b < a := fun z => absurd h (nI_ge z ha)
theorem lt_of_I {a b : Nat} (h : nI a < nI b) (ha : a < 2 ^ 31) : a < b := Nat.lt_of_not_le (fun z => absurd h (nI_nlt z ha))
theorem nlt_I {a b : Nat} (h : ¬ nI a < nI b) (hb : b < 2 ^ 31) : ¬ a < b := fun z => h (nI_lt z hb)
theorem min_if {a b : Nat} : min a b = if b < a then b else a := by
  split
  · omega
  · omega

set_option maxHeartbeats 4000000 in
set_option maxRecDepth 100000 in
theorem l_nI {K : KT} {ad : Nat → Nat} {g : St} {D : WD} {np k : Nat} {tI : Int32} {K0 : Nat → Nat} (hok : wOk np D) (hW : MWC g D) (hk : k < 2 ^ 31) (hK0 : ∀ a, K0 a ≤ 1000000) (hK : Cx K RX10 cX10_findNeeds 2 ad) (hm : K.2.2.1.2.maxLocals = 7) (hnn : Nn K 0 0)
    (h33 : ∀ f : Nat → Int32, (∀ a, a < 10 → f a = nI (sp_rd (wE D (knb k)) (2 * D.1) K0 a)) → Wp K 0 0 TT ad (upR g 109 f) 33 [(0, .ref 91), (1, .int (nI k)), (2, .int tI), (3, .int (B1 (sp_ch (wE D (knb k)) (2 * D.1) K0)))] []) :
    ∀ m w, w + m = D.1 → ∀ f : Nat → Int32, (∀ a, a < 10 → f a = nI (sp_rd (wE D (knb k)) (2 * w) K0 a)) → Wp K 0 0 TT ad (upR g 109 f) 42 [(0, .ref 91), (1, .int (nI k)), (2, .int tI), (3, .int (B1 (sp_ch (wE D (knb k)) (2 * w) K0))), (4, .int (nI w))] [] := by
  have h14 := hok.1
  have hnp := hok.2.1
  intro m
  induction m with
  | zero =>
    intro w hwm f hf
    have e : w = D.1 := by omega
    subst e
    refine r_iload (i := 4) hK dX10_findNeeds_42 rfl ?_
    refine r_aload_n (i := 0) hK dX10_findNeeds_44 rfl rfl ?_
    refine r_getI hK flX10_128 to_91 rfl dX10_findNeeds_45 ?_
    refine r_top (y := nI D.1) ((congrFun (upR_n (by decide)) _).trans hW.1) ?_
    refine r_icmp_ge (tgt := 256) hK dX10_findNeeds_48 (by decide) (fun _ => ?_) (fun h => absurd (nI_le (Nat.le_refl _) (by omega)) h)
    refine r_goto (tgt := 33) hK dX10_findNeeds_256 (by decide) ?_
    refine r_loc ?_ (h33 f hf)
    rfl
  | succ m ih =>
    intro w hwm f hf
    have hw : w < D.1 := by omega
    obtain ⟨q1, q2, hne, q4, q5⟩ := hok.2.2 w hw
    obtain ⟨Kf, hKf⟩ : ∃ x, x = sp_rd (wE D (knb k)) (2 * w) K0 := ⟨_, rfl⟩
    obtain ⟨bq, hbq⟩ : ∃ x, x = sp_ch (wE D (knb k)) (2 * w) K0 := ⟨_, rfl⟩
    obtain ⟨bq2, hbq2⟩ : ∃ x, x = sp_ch (wE D (knb k)) (2 * (w + 1)) K0 := ⟨_, rfl⟩
    have ih2 : ∀ f : Nat → Int32, (∀ a, a < 10 → f a = nI (if (knb k) w = true then wS D w Kf a else Kf a)) → Wp K 0 0 TT ad (upR g 109 f) 42 [(0, .ref 91), (1, .int (nI k)), (2, .int tI), (3, .int (B1 bq2)), (4, .int (nI (w + 1)))] [] := fun f2 hf2 => by
      rw [hbq2]
      refine ih (w + 1) (by omega) f2 (fun a ha => ?_)
      rw [hf2 a ha, wE_step hw hne, ← hKf]
      split
      · rfl
      · rfl
    have hb2q : bq2 = (bq || ((knb k) w && (decide (Kf (D.2.2.1 w) + (16 * D.2.2.2 w + 1) < Kf (D.2.1 w)) || decide (Kf (D.2.1 w) + (16 * D.2.2.2 w + 1) < Kf (D.2.2.1 w))))) := by rw [hbq2, wE_chg hw hne, hbq, hKf]
    rw [← hbq]
    have hf : ∀ a, a < 10 → f a = nI (Kf a) := fun a ha => by rw [hKf]; exact hf a ha
    have hb1 : Kf (D.2.1 w) ≤ 1000000 := by rw [hKf]; exact Nat.le_trans (sp_rd_le _ _ _ _) (hK0 _)
    have hb2 : Kf (D.2.2.1 w) ≤ 1000000 := by rw [hKf]; exact Nat.le_trans (sp_rd_le _ _ _ _) (hK0 _)
    clear ih hbq hbq2 hKf
    refine r_iload (i := 4) hK dX10_findNeeds_42 rfl ?_
    refine r_aload_n (i := 0) hK dX10_findNeeds_44 rfl rfl ?_
    refine r_getI hK flX10_128 to_91 rfl dX10_findNeeds_45 ?_
    refine r_top (y := nI D.1) ((congrFun (upR_n (by decide)) _).trans hW.1) ?_
    refine r_icmp_ge (tgt := 256) hK dX10_findNeeds_48 (by decide) (fun h => absurd h (nI_ge hw (by omega))) (fun _ => ?_)
    refine r_iload_n (i := 1) hK dX10_findNeeds_51 rfl rfl ?_
    refine r_iload (i := 4) hK dX10_findNeeds_52 rfl ?_
    refine r_si2 hK hnn (c_mHas rfl hk rfl (by omega)) moX10_has mlX10_210 dX10_findNeeds_54 (Nat.le_of_ble_eq_true rfl) (Nat.le_of_ble_eq_true rfl) (eqI ?_)
    refine r_if_eq (tgt := 250) hK dX10_findNeeds_57 (by decide) (fun h57 => ?_) (fun h57 => ?_)
    · refine r_iincN (i := 4) hK hm dX10_findNeeds_250 rfl (by decide) ?_
      refine r_goto (tgt := 42) hK dX10_findNeeds_253 (by decide) ?_
      have hkw : (knb k) w = false := B1_0.mp h57
      have hqq : bq2 = bq := by rw [hb2q, hkw, Bool.false_and, Bool.or_false]
      rw [hqq] at ih2
      refine r_loc ?_ (ih2 f (fun a ha => by rw [hf a ha, if_neg (by rw [hkw]; decide)]))
      rfl
    · refine r_aload_n (i := 0) hK dX10_findNeeds_60 rfl rfl ?_
      have hkw : (knb k) w = true := B1_n.mp h57
      have hch : bq2 = (bq || (decide ((Kf (D.2.2.1 w) + (16 * (D.2.2.2 w) + 1)) < Kf (D.2.1 w)) || decide ((Kf (D.2.1 w) + (16 * (D.2.2.2 w) + 1)) < Kf (D.2.2.1 w)))) := by rw [hb2q, hkw, Bool.true_and]
      have hstep : ∀ a, a < 10 → upd (upd f (D.2.1 w) (nI (min (Kf (D.2.1 w)) (Kf (D.2.2.1 w) + (16 * (D.2.2.2 w) + 1))))) (D.2.2.1 w) (nI (min (Kf (D.2.2.1 w)) (Kf (D.2.1 w) + (16 * (D.2.2.2 w) + 1)))) a = nI (if (knb k) w = true then wS D w Kf a else Kf a) := fun a ha => by
        rw [if_pos hkw]
        unfold wS
        by_cases e1 : a = (D.2.1 w)
        · rw [if_pos e1, e1, upd_e hne, upd_s]
        · rw [if_neg e1]
          by_cases e2 : a = (D.2.2.1 w)
          · rw [if_pos e2, e2, upd_s]
          · rw [if_neg e2, upd_e e2, upd_e e1]; exact hf a ha
      have h249 : Wp K 0 0 TT ad (upR g 109 (upd f (D.2.1 w) (nI (min (Kf (D.2.1 w)) (Kf (D.2.2.1 w) + (16 * (D.2.2.2 w) + 1)))))) 249 [(0, .ref 91), (1, .int (nI k)), (2, .int tI), (3, .int (B1 bq2)), (4, .int (nI w)), (5, .int (nI (Kf (D.2.2.1 w) + (16 * (D.2.2.2 w) + 1)))), (6, .int (nI (Kf (D.2.1 w) + (16 * (D.2.2.2 w) + 1))))] [.int (nI (min (Kf (D.2.2.1 w)) (Kf (D.2.1 w) + (16 * (D.2.2.2 w) + 1)))), .int (nI (D.2.2.1 w)), .ref 109] := by
        refine r_iasN hK to_109 rfl (by omega) (by decide) dX10_findNeeds_249 ?_
        refine r_g upR_upI ?_
        refine r_iincN (i := 4) hK hm dX10_findNeeds_250 rfl (by decide) ?_
        refine r_goto (tgt := 42) hK dX10_findNeeds_253 (by decide) ?_
        refine r_loc ?_ (ih2 _ hstep)
        rfl
      have h203 : Wp K 0 0 TT ad (upR g 109 f) 203 [(0, .ref 91), (1, .int (nI k)), (2, .int tI), (3, .int (B1 bq2)), (4, .int (nI w)), (5, .int (nI (Kf (D.2.2.1 w) + (16 * (D.2.2.2 w) + 1)))), (6, .int (nI (Kf (D.2.1 w) + (16 * (D.2.2.2 w) + 1))))] [.int (nI (min (Kf (D.2.1 w)) (Kf (D.2.2.1 w) + (16 * (D.2.2.2 w) + 1)))), .int (nI (D.2.1 w)), .ref 109] := by
        refine r_iasN hK to_109 rfl (by omega) (by decide) dX10_findNeeds_203 ?_
        refine r_g upR_upI ?_
        refine r_aload_n (i := 0) hK dX10_findNeeds_204 rfl rfl ?_
        refine r_getA hK flX10_65 to_91 rfl dX10_findNeeds_205 ?_
        refine r_aload_n (i := 0) hK dX10_findNeeds_208 rfl rfl ?_
        refine r_getA hK flX10_13 to_91 rfl dX10_findNeeds_209 ?_
        refine r_iload (i := 4) hK dX10_findNeeds_212 rfl ?_
        refine r_ialN hK to_93 rfl (by omega) (by decide) ((congrFun (upR_n (by decide)) _).trans (hW.2 _ hw).2.1) dX10_findNeeds_214 ?_
        refine r_iload (i := 6) hK dX10_findNeeds_215 rfl ?_
        refine r_aload_n (i := 0) hK dX10_findNeeds_217 rfl rfl ?_
        refine r_getA hK flX10_65 to_91 rfl dX10_findNeeds_218 ?_
        refine r_aload_n (i := 0) hK dX10_findNeeds_221 rfl rfl ?_
        refine r_getA hK flX10_13 to_91 rfl dX10_findNeeds_222 ?_
        refine r_iload (i := 4) hK dX10_findNeeds_225 rfl ?_
        refine r_ialN hK to_93 rfl (by omega) (by decide) ((congrFun (upR_n (by decide)) _).trans (hW.2 _ hw).2.1) dX10_findNeeds_227 ?_
        refine r_ialN hK to_109 rfl (by omega) (by decide) ((congrFun upR_s _).trans ((upd_e (Ne.symm hne)).trans (hf _ (by omega)))) dX10_findNeeds_228 ?_
        refine r_icmp_ge (tgt := 237) hK dX10_findNeeds_229 (by decide) (fun h229 => ?_) (fun h229 => ?_)
        · refine r_aload_n (i := 0) hK dX10_findNeeds_237 rfl rfl ?_
          refine r_getA hK flX10_65 to_91 rfl dX10_findNeeds_238 ?_
          refine r_aload_n (i := 0) hK dX10_findNeeds_241 rfl rfl ?_
          refine r_getA hK flX10_13 to_91 rfl dX10_findNeeds_242 ?_
          refine r_iload (i := 4) hK dX10_findNeeds_245 rfl ?_
          refine r_ialN hK to_93 rfl (by omega) (by decide) ((congrFun (upR_n (by decide)) _).trans (hW.2 _ hw).2.1) dX10_findNeeds_247 ?_
          refine r_ialN hK to_109 rfl (by omega) (by decide) ((congrFun upR_s _).trans ((upd_e (Ne.symm hne)).trans (hf _ (by omega)))) dX10_findNeeds_248 ?_
          first
            | (refine r_top (y := (nI (min (Kf (D.2.2.1 w)) (Kf (D.2.1 w) + (16 * (D.2.2.2 w) + 1))))) (by rw [min_if, if_pos (Nat.lt_of_not_le (nlt_of h229 (by omega)))]) ?_; refine r_loc ?_ h249; rfl)
            | (refine r_top (y := (nI (min (Kf (D.2.2.1 w)) (Kf (D.2.1 w) + (16 * (D.2.2.2 w) + 1))))) (by rw [min_if, if_neg (nge_of h229 (by omega))]) ?_; refine r_loc ?_ h249; rfl)
        · refine r_iload (i := 6) hK dX10_findNeeds_232 rfl ?_
          refine r_goto (tgt := 249) hK dX10_findNeeds_234 (by decide) ?_
          first
            | (refine r_top (y := (nI (min (Kf (D.2.2.1 w)) (Kf (D.2.1 w) + (16 * (D.2.2.2 w) + 1))))) (by rw [min_if, if_pos (Nat.lt_of_not_le (nlt_of h229 (by omega)))]) ?_; refine r_loc ?_ h249; rfl)
            | (refine r_top (y := (nI (min (Kf (D.2.2.1 w)) (Kf (D.2.1 w) + (16 * (D.2.2.2 w) + 1))))) (by rw [min_if, if_neg (nge_of h229 (by omega))]) ?_; refine r_loc ?_ h249; rfl)
      have h158 : Wp K 0 0 TT ad (upR g 109 f) 158 [(0, .ref 91), (1, .int (nI k)), (2, .int tI), (3, .int (B1 bq2)), (4, .int (nI w)), (5, .int (nI (Kf (D.2.2.1 w) + (16 * (D.2.2.2 w) + 1)))), (6, .int (nI (Kf (D.2.1 w) + (16 * (D.2.2.2 w) + 1))))] [] := by
        refine r_aload_n (i := 0) hK dX10_findNeeds_158 rfl rfl ?_
        refine r_getA hK flX10_65 to_91 rfl dX10_findNeeds_159 ?_
        refine r_aload_n (i := 0) hK dX10_findNeeds_162 rfl rfl ?_
        refine r_getA hK flX10_7 to_91 rfl dX10_findNeeds_163 ?_
        refine r_iload (i := 4) hK dX10_findNeeds_166 rfl ?_
        refine r_ialN hK to_92 rfl (by omega) (by decide) ((congrFun (upR_n (by decide)) _).trans (hW.2 _ hw).1) dX10_findNeeds_168 ?_
        refine r_iload (i := 5) hK dX10_findNeeds_169 rfl ?_
        refine r_aload_n (i := 0) hK dX10_findNeeds_171 rfl rfl ?_
        refine r_getA hK flX10_65 to_91 rfl dX10_findNeeds_172 ?_
        refine r_aload_n (i := 0) hK dX10_findNeeds_175 rfl rfl ?_
        refine r_getA hK flX10_7 to_91 rfl dX10_findNeeds_176 ?_
        refine r_iload (i := 4) hK dX10_findNeeds_179 rfl ?_
        refine r_ialN hK to_92 rfl (by omega) (by decide) ((congrFun (upR_n (by decide)) _).trans (hW.2 _ hw).1) dX10_findNeeds_181 ?_
        refine r_ialN hK to_109 rfl (by omega) (by decide) ((congrFun upR_s _).trans (hf _ (by omega))) dX10_findNeeds_182 ?_
        refine r_icmp_ge (tgt := 191) hK dX10_findNeeds_183 (by decide) (fun h183 => ?_) (fun h183 => ?_)
        · refine r_aload_n (i := 0) hK dX10_findNeeds_191 rfl rfl ?_
          refine r_getA hK flX10_65 to_91 rfl dX10_findNeeds_192 ?_
          refine r_aload_n (i := 0) hK dX10_findNeeds_195 rfl rfl ?_
          refine r_getA hK flX10_7 to_91 rfl dX10_findNeeds_196 ?_
          refine r_iload (i := 4) hK dX10_findNeeds_199 rfl ?_
          refine r_ialN hK to_92 rfl (by omega) (by decide) ((congrFun (upR_n (by decide)) _).trans (hW.2 _ hw).1) dX10_findNeeds_201 ?_
          refine r_ialN hK to_109 rfl (by omega) (by decide) ((congrFun upR_s _).trans (hf _ (by omega))) dX10_findNeeds_202 ?_
          first
            | (refine r_top (y := (nI (min (Kf (D.2.1 w)) (Kf (D.2.2.1 w) + (16 * (D.2.2.2 w) + 1))))) (by rw [min_if, if_pos (Nat.lt_of_not_le (nlt_of h183 (by omega)))]) ?_; refine r_loc ?_ h203; rfl)
            | (refine r_top (y := (nI (min (Kf (D.2.1 w)) (Kf (D.2.2.1 w) + (16 * (D.2.2.2 w) + 1))))) (by rw [min_if, if_neg (nge_of h183 (by omega))]) ?_; refine r_loc ?_ h203; rfl)
        · refine r_iload (i := 5) hK dX10_findNeeds_186 rfl ?_
          refine r_goto (tgt := 203) hK dX10_findNeeds_188 (by decide) ?_
          first
            | (refine r_top (y := (nI (min (Kf (D.2.1 w)) (Kf (D.2.2.1 w) + (16 * (D.2.2.2 w) + 1))))) (by rw [min_if, if_pos (Nat.lt_of_not_le (nlt_of h183 (by omega)))]) ?_; refine r_loc ?_ h203; rfl)
            | (refine r_top (y := (nI (min (Kf (D.2.1 w)) (Kf (D.2.2.1 w) + (16 * (D.2.2.2 w) + 1))))) (by rw [min_if, if_neg (nge_of h183 (by omega))]) ?_; refine r_loc ?_ h203; rfl)
      refine r_getA hK flX10_65 to_91 rfl dX10_findNeeds_61 ?_
      refine r_aload_n (i := 0) hK dX10_findNeeds_64 rfl rfl ?_
      refine r_getA hK flX10_13 to_91 rfl dX10_findNeeds_65 ?_
      refine r_iload (i := 4) hK dX10_findNeeds_68 rfl ?_
      refine r_ialN hK to_93 rfl (by omega) (by decide) ((congrFun (upR_n (by decide)) _).trans (hW.2 _ hw).2.1) dX10_findNeeds_70 ?_
      refine r_ialN hK to_109 rfl (by omega) (by decide) ((congrFun upR_s _).trans (hf _ (by omega))) dX10_findNeeds_71 ?_
      refine r_bipush (v := 16) hK dX10_findNeeds_72 (by decide) ?_
      refine r_aload_n (i := 0) hK dX10_findNeeds_74 rfl rfl ?_
      refine r_getA hK flX10_16 to_91 rfl dX10_findNeeds_75 ?_
      refine r_iload (i := 4) hK dX10_findNeeds_78 rfl ?_
      refine r_ialN hK to_94 rfl (by omega) (by decide) ((congrFun (upR_n (by decide)) _).trans (hW.2 _ hw).2.2) dX10_findNeeds_80 ?_
      refine r_imul hK dX10_findNeeds_81 ?_
      refine r_iadd hK dX10_findNeeds_82 ?_
      refine r_iconst (v := 1) hK dX10_findNeeds_83 (by decide) ?_
      refine r_iadd hK dX10_findNeeds_84 ?_
      refine r_top (y := nI (Kf (D.2.2.1 w) + (16 * (D.2.2.2 w) + 1))) (mkey _ _) ?_
      refine r_istore (i := 5) hK hm dX10_findNeeds_85 (by decide) ?_
      refine r_aload_n (i := 0) hK dX10_findNeeds_87 rfl rfl ?_
      refine r_getA hK flX10_65 to_91 rfl dX10_findNeeds_88 ?_
      refine r_aload_n (i := 0) hK dX10_findNeeds_91 rfl rfl ?_
      refine r_getA hK flX10_7 to_91 rfl dX10_findNeeds_92 ?_
      refine r_iload (i := 4) hK dX10_findNeeds_95 rfl ?_
      refine r_ialN hK to_92 rfl (by omega) (by decide) ((congrFun (upR_n (by decide)) _).trans (hW.2 _ hw).1) dX10_findNeeds_97 ?_
      refine r_ialN hK to_109 rfl (by omega) (by decide) ((congrFun upR_s _).trans (hf _ (by omega))) dX10_findNeeds_98 ?_
      refine r_bipush (v := 16) hK dX10_findNeeds_99 (by decide) ?_
      refine r_aload_n (i := 0) hK dX10_findNeeds_101 rfl rfl ?_
      refine r_getA hK flX10_16 to_91 rfl dX10_findNeeds_102 ?_
      refine r_iload (i := 4) hK dX10_findNeeds_105 rfl ?_
      refine r_ialN hK to_94 rfl (by omega) (by decide) ((congrFun (upR_n (by decide)) _).trans (hW.2 _ hw).2.2) dX10_findNeeds_107 ?_
      refine r_imul hK dX10_findNeeds_108 ?_
      refine r_iadd hK dX10_findNeeds_109 ?_
      refine r_iconst (v := 1) hK dX10_findNeeds_110 (by decide) ?_
      refine r_iadd hK dX10_findNeeds_111 ?_
      refine r_top (y := nI (Kf (D.2.1 w) + (16 * (D.2.2.2 w) + 1))) (mkey _ _) ?_
      refine r_istore (i := 6) hK hm dX10_findNeeds_112 (by decide) ?_
      refine r_iload_n (i := 3) hK dX10_findNeeds_114 rfl rfl ?_
      refine r_if_ne (tgt := 152) hK dX10_findNeeds_115 (by decide) (fun h115 => ?_) (fun h115 => ?_)
      · refine r_iconst (v := 1) hK dX10_findNeeds_152 (by decide) ?_
        refine r_goto (tgt := 157) hK dX10_findNeeds_153 (by decide) ?_
        refine r_istore_n (i := 3) hK hm dX10_findNeeds_157 rfl (by decide) ?_
        first
          | (have e9 : bq2 = true := (by rw [hch, B1_n.mp h115, Bool.true_or]); rw [e9] at h158; refine r_loc ?_ h158; rfl)
          | (have e9 : bq2 = true := (by rw [hch, decide_eq_true (lt_of_I h132 (by omega)), Bool.true_or, Bool.or_true]); rw [e9] at h158; refine r_loc ?_ h158; rfl)
          | (have e9 : bq2 = true := (by rw [hch, decide_eq_true (Nat.lt_of_not_le (nlt_of h149 (by omega))), Bool.or_true, Bool.or_true]); rw [e9] at h158; refine r_loc ?_ h158; rfl)
          | (have e9 : bq2 = false := (by rw [hch, B1_0.mp h115, decide_eq_false (nlt_I h132 (by omega)), decide_eq_false (nge_of h149 (by omega))]; rfl); rw [e9] at h158; refine r_loc ?_ h158; rfl)
      · refine r_iload (i := 5) hK dX10_findNeeds_118 rfl ?_
        refine r_aload_n (i := 0) hK dX10_findNeeds_120 rfl rfl ?_
        refine r_getA hK flX10_65 to_91 rfl dX10_findNeeds_121 ?_
        refine r_aload_n (i := 0) hK dX10_findNeeds_124 rfl rfl ?_
        refine r_getA hK flX10_7 to_91 rfl dX10_findNeeds_125 ?_
        refine r_iload (i := 4) hK dX10_findNeeds_128 rfl ?_
        refine r_ialN hK to_92 rfl (by omega) (by decide) ((congrFun (upR_n (by decide)) _).trans (hW.2 _ hw).1) dX10_findNeeds_130 ?_
        refine r_ialN hK to_109 rfl (by omega) (by decide) ((congrFun upR_s _).trans (hf _ (by omega))) dX10_findNeeds_131 ?_
        refine r_icmp_lt (tgt := 152) hK dX10_findNeeds_132 (by decide) (fun h132 => ?_) (fun h132 => ?_)
        · refine r_iconst (v := 1) hK dX10_findNeeds_152 (by decide) ?_
          refine r_goto (tgt := 157) hK dX10_findNeeds_153 (by decide) ?_
          refine r_istore_n (i := 3) hK hm dX10_findNeeds_157 rfl (by decide) ?_
          first
            | (have e9 : bq2 = true := (by rw [hch, B1_n.mp h115, Bool.true_or]); rw [e9] at h158; refine r_loc ?_ h158; rfl)
            | (have e9 : bq2 = true := (by rw [hch, decide_eq_true (lt_of_I h132 (by omega)), Bool.true_or, Bool.or_true]); rw [e9] at h158; refine r_loc ?_ h158; rfl)
            | (have e9 : bq2 = true := (by rw [hch, decide_eq_true (Nat.lt_of_not_le (nlt_of h149 (by omega))), Bool.or_true, Bool.or_true]); rw [e9] at h158; refine r_loc ?_ h158; rfl)
            | (have e9 : bq2 = false := (by rw [hch, B1_0.mp h115, decide_eq_false (nlt_I h132 (by omega)), decide_eq_false (nge_of h149 (by omega))]; rfl); rw [e9] at h158; refine r_loc ?_ h158; rfl)
        · refine r_iload (i := 6) hK dX10_findNeeds_135 rfl ?_
          refine r_aload_n (i := 0) hK dX10_findNeeds_137 rfl rfl ?_
          refine r_getA hK flX10_65 to_91 rfl dX10_findNeeds_138 ?_
          refine r_aload_n (i := 0) hK dX10_findNeeds_141 rfl rfl ?_
          refine r_getA hK flX10_13 to_91 rfl dX10_findNeeds_142 ?_
          refine r_iload (i := 4) hK dX10_findNeeds_145 rfl ?_
          refine r_ialN hK to_93 rfl (by omega) (by decide) ((congrFun (upR_n (by decide)) _).trans (hW.2 _ hw).2.1) dX10_findNeeds_147 ?_
          refine r_ialN hK to_109 rfl (by omega) (by decide) ((congrFun upR_s _).trans (hf _ (by omega))) dX10_findNeeds_148 ?_
          refine r_icmp_ge (tgt := 156) hK dX10_findNeeds_149 (by decide) (fun h149 => ?_) (fun h149 => ?_)
          · refine r_iconst (v := 0) hK dX10_findNeeds_156 (by decide) ?_
            refine r_istore_n (i := 3) hK hm dX10_findNeeds_157 rfl (by decide) ?_
            first
              | (have e9 : bq2 = true := (by rw [hch, B1_n.mp h115, Bool.true_or]); rw [e9] at h158; refine r_loc ?_ h158; rfl)
              | (have e9 : bq2 = true := (by rw [hch, decide_eq_true (lt_of_I h132 (by omega)), Bool.true_or, Bool.or_true]); rw [e9] at h158; refine r_loc ?_ h158; rfl)
              | (have e9 : bq2 = true := (by rw [hch, decide_eq_true (Nat.lt_of_not_le (nlt_of h149 (by omega))), Bool.or_true, Bool.or_true]); rw [e9] at h158; refine r_loc ?_ h158; rfl)
              | (have e9 : bq2 = false := (by rw [hch, B1_0.mp h115, decide_eq_false (nlt_I h132 (by omega)), decide_eq_false (nge_of h149 (by omega))]; rfl); rw [e9] at h158; refine r_loc ?_ h158; rfl)
          · refine r_iconst (v := 1) hK dX10_findNeeds_152 (by decide) ?_
            refine r_goto (tgt := 157) hK dX10_findNeeds_153 (by decide) ?_
            refine r_istore_n (i := 3) hK hm dX10_findNeeds_157 rfl (by decide) ?_
            first
              | (have e9 : bq2 = true := (by rw [hch, B1_n.mp h115, Bool.true_or]); rw [e9] at h158; refine r_loc ?_ h158; rfl)
              | (have e9 : bq2 = true := (by rw [hch, decide_eq_true (lt_of_I h132 (by omega)), Bool.true_or, Bool.or_true]); rw [e9] at h158; refine r_loc ?_ h158; rfl)
              | (have e9 : bq2 = true := (by rw [hch, decide_eq_true (Nat.lt_of_not_le (nlt_of h149 (by omega))), Bool.or_true, Bool.or_true]); rw [e9] at h158; refine r_loc ?_ h158; rfl)
              | (have e9 : bq2 = false := (by rw [hch, B1_0.mp h115, decide_eq_false (nlt_I h132 (by omega)), decide_eq_false (nge_of h149 (by omega))]; rfl); rw [e9] at h158; refine r_loc ?_ h158; rfl)
