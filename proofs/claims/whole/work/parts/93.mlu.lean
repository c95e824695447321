/-! THE MODEL: by lot, the two loops -/
def vQ (np : Nat) (P : PD) (e : QE) : Prop := e.1 < np ∧ e.2.1 < 64 ∧ e.2.2.1 + 891 * frS P e.2.1 ≤ 5346 ∧ e.2.2.2 ≤ 1000000000
theorem ch_v {np : Nat} {P : PD} {V : VT} (hv : vOk np P V) {e : QE} (he : vQ np P e) {c : Nat} (hc : c < ctM P V e.2.1 e.1) : vQ np P (chE P V e c) := by
  obtain ⟨q1, q2, q3, q4⟩ := ctQ_is hc
  obtain ⟨a1, a2, a3, a4⟩ := he
  have h1 := frS_lt q1 q4
  have h2 := hv.2.2 _ q1
  have h6 := hv.2.1
  refine ⟨h2.2.1 q3, bit6 a2 (by omega), ?_, Nat.le_trans (ctO_le hc) a4⟩
  show e.2.2.1 + V.2 (ctQ P V e.2.1 e.1 c) + 891 * frS P (e.2.1 ||| 1 <<< ctQ P V e.2.1 e.1 c) ≤ 5346
  have := h2.2.2
  omega
def lA (x : Int32) (R : CA) : Int32 := if x = 0 then nI R.1 else if x = 1 then lgI R.2.1 else (lN R.2.2 / 1000000).toInt32
set_option maxHeartbeats 4000000 in
set_option maxRecDepth 100000 in
theorem lm_in {K : KT} {ad : Nat → Nat} {g : St} {X : LN} (hX : MC g X) {V : VT} (hV : vOk X.1 X.2.2.1 V) (hG : MG g V X.2.2.1.1) {t : Nat} {x : Int32} {B : CA} {q : Nat → QE} {i mm : Nat} (hi : i < mm) (he : vQ X.1 X.2.2.1 (q i)) (hcap : mm + ctM X.2.2.1 V (q i).2.1 (q i).1 ≤ 1957) (hK : Cx K RX10 cX10_lot 6 ad) (hm : K.2.2.1.2.maxLocals = 17) (hnn : Nn K 0 0)
    (h305 : ∀ q2 g1, FQ g g1 → QM g1 q2 (mm + ctM X.2.2.1 V (q i).2.1 (q i).1) → g1.1 91 44 = nI (mm + ctM X.2.2.1 V (q i).2.1 (q i).1) → (∀ j, j < mm → q2 j = q j) → (∀ d, d < ctM X.2.2.1 V (q i).2.1 (q i).1 → q2 (mm + d) = chE X.2.2.1 V (q i) d) → Wp K 0 0 TT ad g1 305 [(0, .ref 91), (2, .int (nI t)), (3, .int x), (4, .long (lN B.1)), (6, .long (lN B.2.2)), (8, .int (lgI B.2.1)), (9, .int (nI i))] []) :
    ∀ k p, p + k = X.2.2.1.1 → ∀ c rs, sp_cn (ldB X.2.2.1 V (q i).1 (q i).2.1) p = c → (c < ctM X.2.2.1 V (q i).2.1 (q i).1 → rs = (q i).2.2.2 - (q i).2.2.2 / ctM X.2.2.1 V (q i).2.1 (q i).1 * c) → ∀ q2 g1, FQ g g1 → QM g1 q2 (mm + c) → g1.1 91 44 = nI (mm + c) → (∀ j, j < mm → q2 j = q j) → (∀ d, d < c → q2 (mm + d) = chE X.2.2.1 V (q i) d) →
      Wp K 0 0 TT ad g1 192 [(0, .ref 91), (2, .int (nI t)), (3, .int x), (4, .long (lN B.1)), (6, .long (lN B.2.2)), (8, .int (lgI B.2.1)), (9, .int (nI i)), (10, .int (nI (ctM X.2.2.1 V (q i).2.1 (q i).1))), (11, .long (lN rs)), (13, .int (nI c)), (14, .int (nI p))] [] := by
  obtain ⟨hok, hpo, hlaw, x1, hW, hPs, x4⟩ := id hX
  have h10 := hok.2.1
  have h6 := hpo.1
  have hhm : ∀ p, p < X.2.2.1.1 → X.2.2.1.2.1 p < 10 := fun p hp => by have := (hpo.2 p hp).1; omega
  obtain ⟨he1, he2, he3, he4⟩ := id he
  have hM6 : ctM X.2.2.1 V (q i).2.1 (q i).1 ≤ X.2.2.1.1 := sp_cn_le _ _
  intro k
  induction k with
  | zero =>
    intro p hpk c rs hc hrs q2 g1 hf hQ hlen hag hcs
    have hPs1 := (MC_of hX hf.fm).2.2.2.2.2.1
    have e : p = X.2.2.1.1 := by omega
    subst e
    have e2 : ctM X.2.2.1 V (q i).2.1 (q i).1 = c := hc
    have h9 := h305 q2 g1 hf (by rw [e2]; exact hQ) (by rw [e2]; exact hlen) hag (by rw [e2]; exact hcs)
    refine r_iload (i := 14) hK dX10_lot_192 rfl ?_
    refine r_aload_n (i := 0) hK dX10_lot_194 rfl rfl ?_
    refine r_getI hK flX10_131 to_91 rfl dX10_lot_195 ?_
    refine r_top (y := nI X.2.2.1.1) hPs1.1 ?_
    refine r_icmp_ge (tgt := 305) hK dX10_lot_198 (by decide) (fun _ => ?_) (fun h => absurd (nI_le (Nat.le_refl _) (by omega)) h)
    refine r_loc ?_ h9
    rfl
  | succ k ih =>
    intro p hpk c rs hc hrs q2 g1 hf hQ hlen hag hcs
    have hPs1 := (MC_of hX hf.fm).2.2.2.2.2.1
    have hG1 := MG_fq hG hf
    have hp : p < X.2.2.1.1 := by omega
    have hcp1 : ldB X.2.2.1 V (q i).1 (q i).2.1 p = true → sp_cn (ldB X.2.2.1 V (q i).1 (q i).2.1) (p + 1) = c + 1 := fun z => by rw [sp_cn_succ, if_pos z, hc]
    refine r_iload (i := 14) hK dX10_lot_192 rfl ?_
    refine r_aload_n (i := 0) hK dX10_lot_194 rfl rfl ?_
    refine r_getI hK flX10_131 to_91 rfl dX10_lot_195 ?_
    refine r_top (y := nI X.2.2.1.1) hPs1.1 ?_
    refine r_icmp_ge (tgt := 305) hK dX10_lot_198 (by decide) (fun h => absurd h (nI_ge hp (by omega))) (fun _ => ?_)
    refine r_aload_n (i := 0) hK dX10_lot_201 rfl rfl ?_
    refine r_iload (i := 14) hK dX10_lot_202 rfl ?_
    refine r_aload_n (i := 0) hK dX10_lot_204 rfl rfl ?_
    refine r_getA hK flX10_86 to_91 rfl dX10_lot_205 ?_
    refine r_iload (i := 9) hK dX10_lot_208 rfl ?_
    refine r_ialN hK to_116 rfl (by omega) (by decide) ((hQ i (by omega)).2.1.trans (by rw [hag i hi])) dX10_lot_210 ?_
    refine r_aload_n (i := 0) hK dX10_lot_211 rfl rfl ?_
    refine r_getA hK flX10_83 to_91 rfl dX10_lot_212 ?_
    refine r_iload (i := 9) hK dX10_lot_215 rfl ?_
    refine r_ialN hK to_115 rfl (by omega) (by decide) ((hQ i (by omega)).1.trans (by rw [hag i hi])) dX10_lot_217 ?_
    refine r_ci3 hK hnn (c_mLeads hPs1 h6 hhm hG1 rfl hp rfl (Nat.lt_trans he2 (by decide)) rfl (by omega)) moX10_leads mlX10_299 to_91 rfl rfl dX10_lot_218 (Nat.le_of_ble_eq_true rfl) (Nat.le_of_ble_eq_true rfl) (eqI ?_)
    refine r_if_eq (tgt := 299) hK dX10_lot_221 (by decide) (fun h221 => ?_) (fun h221 => ?_)
    · refine r_iincN (i := 14) hK hm dX10_lot_299 rfl (by decide) ?_
      refine r_goto (tgt := 192) hK dX10_lot_302 (by decide) ?_
      first
        | (have hcp : sp_cn (ldB X.2.2.1 V (q i).1 (q i).2.1) (p + 1) = c := (by rw [sp_cn_succ, if_neg (by rw [B1_0.mp h221]; decide), hc]; rfl); refine r_loc ?_ (ih (p + 1) (by omega) c rs hcp hrs q2 g1 hf hQ hlen hag hcs); rfl)
        | (refine r_loc ?_ (ih (p + 1) (by omega) (c + 1) _ (hcp1 (B1_n.mp h221)) hrs2 _ g296 (hf.tr hf9) hQ9 hl9 hag2 hcs2); rfl)
    · refine r_iincN (i := 13) hK hm dX10_lot_224 rfl (by decide) ?_
      refine r_iload (i := 13) hK dX10_lot_227 rfl ?_
      have hbp := B1_n.mp h221
      have hcM : c < ctM X.2.2.1 V (q i).2.1 (q i).1 := by
        have z := cn_le (b := ldB X.2.2.1 V (q i).1 (q i).2.1) (X.2.2.1.1 - (p + 1)) (p + 1)
        rw [show p + 1 + (X.2.2.1.1 - (p + 1)) = X.2.2.1.1 by omega, hcp1 hbp] at z
        exact z
      have hQp : ctQ X.2.2.1 V (q i).2.1 (q i).1 c = p := by unfold ctQ; rw [← hc]; exact ldI_at hp hbp
      have hv10 : V.1 p < 10 := (ldB_iff.mp hbp).2.1
      have hch : chE X.2.2.1 V (q i) c = (V.1 p, (q i).2.1 ||| 1 <<< p, (q i).2.2.1 + V.2 p, ctO (ctM X.2.2.1 V (q i).2.1 (q i).1) (q i).2.2.2 c) := by unfold chE; rw [hQp]
      have hMl : ¬ (nI (ctM X.2.2.1 V (q i).2.1 (q i).1)).toInt64 = 0 := by rw [nI_l (by omega)]; exact fun z => by have := congrArg Int64.toInt z; rw [lN_toInt (by omega)] at this; have e0 : (0 : Int64).toInt = 0 := (by decide); omega
      have hdm := Nat.div_mul_le_self (q i).2.2.2 (ctM X.2.2.1 V (q i).2.1 (q i).1)
      have hsh : (q i).2.2.2 / ctM X.2.2.1 V (q i).2.1 (q i).1 * c + (q i).2.2.2 / ctM X.2.2.1 V (q i).2.1 (q i).1 ≤ (q i).2.2.2 := by
        rw [← Nat.mul_succ]
        exact Nat.le_trans (Nat.mul_le_mul_left _ hcM) hdm
      have hsl : ctO (ctM X.2.2.1 V (q i).2.1 (q i).1) (q i).2.2.2 c ≤ rs := by
        rw [hrs hcM]
        unfold ctO
        split <;> omega
      have hrs2 : c + 1 < ctM X.2.2.1 V (q i).2.1 (q i).1 → rs - ctO (ctM X.2.2.1 V (q i).2.1 (q i).1) (q i).2.2.2 c = (q i).2.2.2 - (q i).2.2.2 / ctM X.2.2.1 V (q i).2.1 (q i).1 * (c + 1) := fun z => by
        rw [hrs hcM, Nat.mul_succ]
        unfold ctO
        rw [if_neg (by omega)]
        omega
      have hag2 : ∀ j, j < mm → uQ q2 (mm + c) (chE X.2.2.1 V (q i) c) j = q j := fun j hj => by rw [uQ_n (by omega)]; exact hag j hj
      have hcs2 : ∀ d, d < c + 1 → uQ q2 (mm + c) (chE X.2.2.1 V (q i) c) (mm + d) = chE X.2.2.1 V (q i) d := fun d hd => by
        by_cases e : d = c
        · rw [e, uQ_s]
        · rw [uQ_n (by omega)]; exact hcs d (by omega)
      refine r_iload (i := 10) hK dX10_lot_229 rfl ?_
      refine r_icmp_ne (tgt := 239) hK dX10_lot_231 (by decide) (fun h231 => ?_) (fun h231 => ?_)
      · refine r_aload_n (i := 0) hK dX10_lot_239 rfl rfl ?_
        refine r_getA hK flX10_92 to_91 rfl dX10_lot_240 ?_
        refine r_iload (i := 9) hK dX10_lot_243 rfl ?_
        refine r_lalN hK to_118 rfl (by omega) (by decide) ((hQ i (by omega)).2.2.2.trans (by rw [hag i hi])) dX10_lot_245 ?_
        refine r_iload (i := 10) hK dX10_lot_246 rfl ?_
        refine r_i2l hK dX10_lot_248 ?_
        refine r_ldiv hK dX10_lot_249 (fun z => hMl z) ?_
        refine r_topL (y := lN (ctO (ctM X.2.2.1 V (q i).2.1 (q i).1) (q i).2.2.2 c)) ?_ ?_
        · rw [nI_l (by omega)]; exact (pk_lDiv (by omega) (by omega) (by omega)).trans (by unfold ctO; rw [if_neg (fun z => h231 (congrArg nI (show c + 1 = ctM X.2.2.1 V (q i).2.1 (q i).1 by omega)))])
        refine r_lstore (i := 15) hK hm dX10_lot_250 (by decide) ?_
        refine r_lload (i := 11) hK dX10_lot_252 rfl ?_
        refine r_lload (i := 15) hK dX10_lot_254 rfl ?_
        refine r_lsub hK dX10_lot_256 ?_
        refine r_topL (y := lN (rs - ctO (ctM X.2.2.1 V (q i).2.1 (q i).1) (q i).2.2.2 c)) (lN_sub hsl) ?_
        refine r_lstore (i := 11) hK hm dX10_lot_257 (by decide) ?_
        refine r_aload_n (i := 0) hK dX10_lot_259 rfl rfl ?_
        refine r_aload_n (i := 0) hK dX10_lot_260 rfl rfl ?_
        refine r_getA hK flX10_74 to_91 rfl dX10_lot_261 ?_
        refine r_iload (i := 14) hK dX10_lot_264 rfl ?_
        refine r_ialN hK to_112 rfl (by omega) (by decide) ((hG1 p hp).1.trans (enI_in hv10)) dX10_lot_266 ?_
        refine r_aload_n (i := 0) hK dX10_lot_267 rfl rfl ?_
        refine r_getA hK flX10_86 to_91 rfl dX10_lot_268 ?_
        refine r_iload (i := 9) hK dX10_lot_271 rfl ?_
        refine r_ialN hK to_116 rfl (by omega) (by decide) ((hQ i (by omega)).2.1.trans (by rw [hag i hi])) dX10_lot_273 ?_
        refine r_iconst (v := 1) hK dX10_lot_274 (by decide) ?_
        refine r_iload (i := 14) hK dX10_lot_275 rfl ?_
        refine r_ishl hK dX10_lot_277 ?_
        refine r_ior hK dX10_lot_278 ?_
        refine r_top (y := nI ((q i).2.1 ||| 1 <<< p)) (setbit (by omega)) ?_
        refine r_aload_n (i := 0) hK dX10_lot_279 rfl rfl ?_
        refine r_getA hK flX10_89 to_91 rfl dX10_lot_280 ?_
        refine r_iload (i := 9) hK dX10_lot_283 rfl ?_
        refine r_ialN hK to_117 rfl (by omega) (by decide) ((hQ i (by omega)).2.2.1.trans (by rw [hag i hi])) dX10_lot_285 ?_
        refine r_aload_n (i := 0) hK dX10_lot_286 rfl rfl ?_
        refine r_getA hK flX10_77 to_91 rfl dX10_lot_287 ?_
        refine r_iload (i := 14) hK dX10_lot_290 rfl ?_
        refine r_ialN hK to_113 rfl (by omega) (by decide) (hG1 p hp).2 dX10_lot_292 ?_
        refine r_iadd hK dX10_lot_293 ?_
        refine r_top (y := nI ((q i).2.2.1 + V.2 p)) (nI_add _ _) ?_
        refine r_lload (i := 15) hK dX10_lot_294 rfl ?_
        refine r_cv4 hK hnn (c_mAddLot (e := chE X.2.2.1 V (q i) c) hQ hlen (by omega) (by rw [hch]) (by rw [hch]) (by rw [hch]) (by rw [hch])) moX10_addLot mlX10_316 to_91 rfl rfl dX10_lot_296 (Nat.le_of_ble_eq_true rfl) (Nat.le_of_ble_eq_true rfl) (fun g296 q296 => ?_)
        obtain ⟨hf9, hQ9, hl9⟩ := q296
        refine r_iincN (i := 14) hK hm dX10_lot_299 rfl (by decide) ?_
        refine r_goto (tgt := 192) hK dX10_lot_302 (by decide) ?_
        first
          | (have hcp : sp_cn (ldB X.2.2.1 V (q i).1 (q i).2.1) (p + 1) = c := (by rw [sp_cn_succ, if_neg (by rw [B1_0.mp h221]; decide), hc]; rfl); refine r_loc ?_ (ih (p + 1) (by omega) c rs hcp hrs q2 g1 hf hQ hlen hag hcs); rfl)
          | (refine r_loc ?_ (ih (p + 1) (by omega) (c + 1) _ (hcp1 (B1_n.mp h221)) hrs2 _ g296 (hf.tr hf9) hQ9 hl9 hag2 hcs2); rfl)
      · refine r_lload (i := 11) hK dX10_lot_234 rfl ?_
        refine r_topL (y := lN (ctO (ctM X.2.2.1 V (q i).2.1 (q i).1) (q i).2.2.2 c)) (by rw [hrs hcM]; unfold ctO; rw [if_pos (by have := nI_inj (by omega) (by omega) h231; omega)]) ?_
        refine r_goto (tgt := 250) hK dX10_lot_236 (by decide) ?_
        refine r_lstore (i := 15) hK hm dX10_lot_250 (by decide) ?_
        refine r_lload (i := 11) hK dX10_lot_252 rfl ?_
        refine r_lload (i := 15) hK dX10_lot_254 rfl ?_
        refine r_lsub hK dX10_lot_256 ?_
        refine r_topL (y := lN (rs - ctO (ctM X.2.2.1 V (q i).2.1 (q i).1) (q i).2.2.2 c)) (lN_sub hsl) ?_
        refine r_lstore (i := 11) hK hm dX10_lot_257 (by decide) ?_
        refine r_aload_n (i := 0) hK dX10_lot_259 rfl rfl ?_
        refine r_aload_n (i := 0) hK dX10_lot_260 rfl rfl ?_
        refine r_getA hK flX10_74 to_91 rfl dX10_lot_261 ?_
        refine r_iload (i := 14) hK dX10_lot_264 rfl ?_
        refine r_ialN hK to_112 rfl (by omega) (by decide) ((hG1 p hp).1.trans (enI_in hv10)) dX10_lot_266 ?_
        refine r_aload_n (i := 0) hK dX10_lot_267 rfl rfl ?_
        refine r_getA hK flX10_86 to_91 rfl dX10_lot_268 ?_
        refine r_iload (i := 9) hK dX10_lot_271 rfl ?_
        refine r_ialN hK to_116 rfl (by omega) (by decide) ((hQ i (by omega)).2.1.trans (by rw [hag i hi])) dX10_lot_273 ?_
        refine r_iconst (v := 1) hK dX10_lot_274 (by decide) ?_
        refine r_iload (i := 14) hK dX10_lot_275 rfl ?_
        refine r_ishl hK dX10_lot_277 ?_
        refine r_ior hK dX10_lot_278 ?_
        refine r_top (y := nI ((q i).2.1 ||| 1 <<< p)) (setbit (by omega)) ?_
        refine r_aload_n (i := 0) hK dX10_lot_279 rfl rfl ?_
        refine r_getA hK flX10_89 to_91 rfl dX10_lot_280 ?_
        refine r_iload (i := 9) hK dX10_lot_283 rfl ?_
        refine r_ialN hK to_117 rfl (by omega) (by decide) ((hQ i (by omega)).2.2.1.trans (by rw [hag i hi])) dX10_lot_285 ?_
        refine r_aload_n (i := 0) hK dX10_lot_286 rfl rfl ?_
        refine r_getA hK flX10_77 to_91 rfl dX10_lot_287 ?_
        refine r_iload (i := 14) hK dX10_lot_290 rfl ?_
        refine r_ialN hK to_113 rfl (by omega) (by decide) (hG1 p hp).2 dX10_lot_292 ?_
        refine r_iadd hK dX10_lot_293 ?_
        refine r_top (y := nI ((q i).2.2.1 + V.2 p)) (nI_add _ _) ?_
        refine r_lload (i := 15) hK dX10_lot_294 rfl ?_
        refine r_cv4 hK hnn (c_mAddLot (e := chE X.2.2.1 V (q i) c) hQ hlen (by omega) (by rw [hch]) (by rw [hch]) (by rw [hch]) (by rw [hch])) moX10_addLot mlX10_316 to_91 rfl rfl dX10_lot_296 (Nat.le_of_ble_eq_true rfl) (Nat.le_of_ble_eq_true rfl) (fun g296 q296 => ?_)
        obtain ⟨hf9, hQ9, hl9⟩ := q296
        refine r_iincN (i := 14) hK hm dX10_lot_299 rfl (by decide) ?_
        refine r_goto (tgt := 192) hK dX10_lot_302 (by decide) ?_
        first
          | (have hcp : sp_cn (ldB X.2.2.1 V (q i).1 (q i).2.1) (p + 1) = c := (by rw [sp_cn_succ, if_neg (by rw [B1_0.mp h221]; decide), hc]; rfl); refine r_loc ?_ (ih (p + 1) (by omega) c rs hcp hrs q2 g1 hf hQ hlen hag hcs); rfl)
          | (refine r_loc ?_ (ih (p + 1) (by omega) (c + 1) _ (hcp1 (B1_n.mp h221)) hrs2 _ g296 (hf.tr hf9) hQ9 hl9 hag2 hcs2); rfl)
