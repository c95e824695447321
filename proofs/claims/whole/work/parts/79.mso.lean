/-! THE MODEL: soonest -/
/-- one entry of the table -/
def ZE (K : Nat → Nat) (P : PD) (V : VT) (set a : Nat) (x : Int32) : Prop := ∃ z, x = nI z ∧ K a ≤ z ∧ z ≤ 1000000 ∧ (cdS P V K set a → z = K a)
def ZC (g : St) (K : Nat → Nat) (P : PD) (V : VT) (np S : Nat) : Prop := ∀ set, S ≤ set → set < 64 → ∀ a, a < np → ZE K P V set a (g.1 114 (10 * set + a))
theorem lt_or1 {S p : Nat} (h : S.testBit p = false) : S < S ||| 1 <<< p := by
  refine Nat.lt_of_le_of_ne Nat.left_le_or (fun z => ?_)
  have := or_bit (s := S) (p := p) (q := p)
  rw [← z, h] at this
  simp at this

set_option maxHeartbeats 4000000 in
set_option maxRecDepth 100000 in
theorem lm_sP {K : KT} {ad : Nat → Nat} {g : St} {X : LN} (hX : MC g X) {V : VT} (hV : vOk X.1 X.2.2.1 V) (hG : MG g V X.2.2.1.1) {t : Nat} (ht : t < X.1) {Kf : Nat → Nat} (hKf : Kf = kP X.2.2.1 V FR t) {S a : Nat} (hS : S < 64) (ha : a < X.1) (hat : a ≠ t) (hZ : ZC g Kf X.2.2.1 V X.1 (S + 1)) (hK : Cx K RX10 cX10_findSoon 3 ad) (hm : K.2.2.1.2.maxLocals = 7) (hnn : Nn K 0 0)
    (h117 : ∀ b, Kf a ≤ b → b ≤ 1000000 → (cdS X.2.2.1 V Kf S a → b = Kf a) → Wp K 0 0 TT ad g 117 [(0, .ref 91), (1, .int (nI t)), (2, .int (nI S)), (3, .int (nI a)), (4, .int (nI b))] []) :
    ∀ m p, p + m = X.2.2.1.1 → ∀ b, Kf a ≤ b → b ≤ 1000000 → (∀ q, q < p → ldB X.2.2.1 V a S q = true → Kf (V.1 q) + (16 * V.2 q + 1) = Kf a → cdS X.2.2.1 V Kf S a → b ≤ Kf a) → Wp K 0 0 TT ad g 33 [(0, .ref 91), (1, .int (nI t)), (2, .int (nI S)), (3, .int (nI a)), (4, .int (nI b)), (5, .int (nI p))] [] := by
  obtain ⟨hok, hpo, hlaw, x1, hW, hPs, x4⟩ := id hX
  have h10 := hok.2.1
  have h6 := hpo.1
  have hhm : ∀ p, p < X.2.2.1.1 → X.2.2.1.2.1 p < 10 := fun p hp => by have := (hpo.2 p hp).1; omega
  intro m
  induction m with
  | zero =>
    intro p hpm b hb9 hbF hbq
    have e : p = X.2.2.1.1 := by omega
    subst e
    have hfin : cdS X.2.2.1 V Kf S a → b = Kf a := fun hc => by
      by_cases hl : Kf a < 1000000
      · rw [hKf] at hl
        obtain ⟨q, q1, q2, q3, q4⟩ := kP_tight hV hat hl
        rw [← hKf] at q4
        have hfree := cdS_free hc q1 q3
        have := hbq q q1 (ldB_iff.mpr ⟨q3, q2, hfree⟩) q4 hc
        omega
      · omega
    refine r_iload (i := 5) hK dX10_findSoon_33 rfl ?_
    refine r_aload_n (i := 0) hK dX10_findSoon_35 rfl rfl ?_
    refine r_getI hK flX10_131 to_91 rfl dX10_findSoon_36 ?_
    refine r_top (y := nI X.2.2.1.1) hPs.1 ?_
    refine r_icmp_ge (tgt := 117) hK dX10_findSoon_39 (by decide) (fun _ => ?_) (fun h => absurd (nI_le (Nat.le_refl _) (by omega)) h)
    refine r_loc ?_ (h117 b hb9 hbF hfin)
    rfl
  | succ m ih =>
    intro p hpm b hb9 hbF hbq
    have hp : p < X.2.2.1.1 := by omega
    refine r_iload (i := 5) hK dX10_findSoon_33 rfl ?_
    refine r_aload_n (i := 0) hK dX10_findSoon_35 rfl rfl ?_
    refine r_getI hK flX10_131 to_91 rfl dX10_findSoon_36 ?_
    refine r_top (y := nI X.2.2.1.1) hPs.1 ?_
    refine r_icmp_ge (tgt := 117) hK dX10_findSoon_39 (by decide) (fun h => absurd h (nI_ge hp (by omega))) (fun _ => ?_)
    refine r_iload_n (i := 3) hK dX10_findSoon_42 rfl rfl ?_
    refine r_iload_n (i := 1) hK dX10_findSoon_43 rfl rfl ?_
    refine r_icmp_eq (tgt := 117) hK dX10_findSoon_44 (by decide) (fun h => absurd h (fun z => hat (nI_inj (by omega) (by omega) z))) (fun _ => ?_)
    refine r_aload_n (i := 0) hK dX10_findSoon_47 rfl rfl ?_
    refine r_iload (i := 5) hK dX10_findSoon_48 rfl ?_
    refine r_iload_n (i := 2) hK dX10_findSoon_50 rfl rfl ?_
    refine r_iload_n (i := 3) hK dX10_findSoon_51 rfl rfl ?_
    refine r_ci3 hK hnn (c_mLeads hPs h6 hhm hG rfl hp rfl (by omega) rfl (by omega)) moX10_leads mlX10_299 to_91 rfl rfl dX10_findSoon_52 (Nat.le_of_ble_eq_true rfl) (Nat.le_of_ble_eq_true rfl) (eqI ?_)
    refine r_if_eq (tgt := 111) hK dX10_findSoon_55 (by decide) (fun h55 => ?_) (fun h55 => ?_)
    · refine r_iincN (i := 5) hK hm dX10_findSoon_111 rfl (by decide) ?_
      refine r_goto (tgt := 33) hK dX10_findSoon_114 (by decide) ?_
      first
        | (refine r_loc ?_ (ih (p + 1) (by omega) (z + (16 * V.2 p + 1)) (by omega) (by have := lt_of_ge h99 (by omega); omega) (fun q hq hl ht9 hc => ?_)); rfl; (by_cases e : q = p; (subst e; have := hz4 (cdS_step hc hb1 (by omega)); omega); (have := lt_of_ge h99 (by omega); have := hbq q (by omega) hl ht9 hc; omega)))
        | (refine r_loc ?_ (ih (p + 1) (by omega) b hb9 hbF (fun q hq hl ht9 hc => ?_)); rfl; (by_cases e : q = p; (subst e; have h8 := nge_of h99 (by omega); have := hz4 (cdS_step hc hb1 (by omega)); omega); exact hbq q (by omega) hl ht9 hc))
        | (refine r_loc ?_ (ih (p + 1) (by omega) b hb9 hbF (fun q hq hl ht9 hc => ?_)); rfl; (by_cases e : q = p; (subst e; rw [B1_0.mp h55] at hl; cases hl); exact hbq q (by omega) hl ht9 hc))
    · refine r_aload_n (i := 0) hK dX10_findSoon_58 rfl rfl ?_
      obtain ⟨hb1, hv10, hb3⟩ := ldB_iff.mp (B1_n.mp h55)
      obtain ⟨z, hz1, hz2, hz3, hz4⟩ := hZ (S ||| 1 <<< p) (lt_or1 hb3) (bit6 hS (by omega)) (V.1 p) ((hV.2.2 p hp).2.1 hv10)
      have hvv := (hV.2.2 p hp).2.2
      have hvn := (hV.2.2 p hp).2.1 hv10
      have hor6 := bit6 hS (show p < 6 by omega)
      have hfx := kP_fix hV (F := FR) (t := t) hp hv10
      rw [← hKf, hb1] at hfx
      refine r_getA hK flX10_80 to_91 rfl dX10_findSoon_59 ?_
      refine r_bipush (v := 10) hK dX10_findSoon_62 (by decide) ?_
      refine r_iload_n (i := 2) hK dX10_findSoon_64 rfl rfl ?_
      refine r_iconst (v := 1) hK dX10_findSoon_65 (by decide) ?_
      refine r_iload (i := 5) hK dX10_findSoon_66 rfl ?_
      refine r_ishl hK dX10_findSoon_68 ?_
      refine r_ior hK dX10_findSoon_69 ?_
      refine r_top (y := nI (S ||| 1 <<< p)) (setbit (by omega)) ?_
      refine r_imul hK dX10_findSoon_70 ?_
      refine r_top (y := nI (10 * (S ||| 1 <<< p))) (pk_mul 10 _) ?_
      refine r_aload_n (i := 0) hK dX10_findSoon_71 rfl rfl ?_
      refine r_getA hK flX10_74 to_91 rfl dX10_findSoon_72 ?_
      refine r_iload (i := 5) hK dX10_findSoon_75 rfl ?_
      refine r_ialN hK to_112 rfl (by omega) (by decide) ((hG p hp).1.trans (enI_in hv10)) dX10_findSoon_77 ?_
      refine r_iadd hK dX10_findSoon_78 ?_
      refine r_top (y := nI (10 * (S ||| 1 <<< p) + V.1 p)) (nI_add _ _) ?_
      refine r_ialN hK to_114 rfl (by omega) (by decide) hz1 dX10_findSoon_79 ?_
      refine r_bipush (v := 16) hK dX10_findSoon_80 (by decide) ?_
      refine r_aload_n (i := 0) hK dX10_findSoon_82 rfl rfl ?_
      refine r_getA hK flX10_77 to_91 rfl dX10_findSoon_83 ?_
      refine r_iload (i := 5) hK dX10_findSoon_86 rfl ?_
      refine r_ialN hK to_113 rfl (by omega) (by decide) (hG p hp).2 dX10_findSoon_88 ?_
      refine r_imul hK dX10_findSoon_89 ?_
      refine r_iadd hK dX10_findSoon_90 ?_
      refine r_iconst (v := 1) hK dX10_findSoon_91 (by decide) ?_
      refine r_iadd hK dX10_findSoon_92 ?_
      refine r_top (y := nI (z + (16 * V.2 p + 1))) (mkey _ _) ?_
      refine r_istore (i := 6) hK hm dX10_findSoon_93 (by decide) ?_
      refine r_iload (i := 6) hK dX10_findSoon_95 rfl ?_
      refine r_iload (i := 4) hK dX10_findSoon_97 rfl ?_
      refine r_icmp_ge (tgt := 107) hK dX10_findSoon_99 (by decide) (fun h99 => ?_) (fun h99 => ?_)
      · refine r_iload (i := 4) hK dX10_findSoon_107 rfl ?_
        refine r_istore (i := 4) hK hm dX10_findSoon_109 (by decide) ?_
        refine r_iincN (i := 5) hK hm dX10_findSoon_111 rfl (by decide) ?_
        refine r_goto (tgt := 33) hK dX10_findSoon_114 (by decide) ?_
        first
          | (refine r_loc ?_ (ih (p + 1) (by omega) (z + (16 * V.2 p + 1)) (by omega) (by have := lt_of_ge h99 (by omega); omega) (fun q hq hl ht9 hc => ?_)); rfl; (by_cases e : q = p; (subst e; have := hz4 (cdS_step hc hb1 (by omega)); omega); (have := lt_of_ge h99 (by omega); have := hbq q (by omega) hl ht9 hc; omega)))
          | (refine r_loc ?_ (ih (p + 1) (by omega) b hb9 hbF (fun q hq hl ht9 hc => ?_)); rfl; (by_cases e : q = p; (subst e; have h8 := nge_of h99 (by omega); have := hz4 (cdS_step hc hb1 (by omega)); omega); exact hbq q (by omega) hl ht9 hc))
          | (refine r_loc ?_ (ih (p + 1) (by omega) b hb9 hbF (fun q hq hl ht9 hc => ?_)); rfl; (by_cases e : q = p; (subst e; rw [B1_0.mp h55] at hl; cases hl); exact hbq q (by omega) hl ht9 hc))
      · refine r_iload (i := 6) hK dX10_findSoon_102 rfl ?_
        refine r_goto (tgt := 109) hK dX10_findSoon_104 (by decide) ?_
        refine r_istore (i := 4) hK hm dX10_findSoon_109 (by decide) ?_
        refine r_iincN (i := 5) hK hm dX10_findSoon_111 rfl (by decide) ?_
        refine r_goto (tgt := 33) hK dX10_findSoon_114 (by decide) ?_
        first
          | (refine r_loc ?_ (ih (p + 1) (by omega) (z + (16 * V.2 p + 1)) (by omega) (by have := lt_of_ge h99 (by omega); omega) (fun q hq hl ht9 hc => ?_)); rfl; (by_cases e : q = p; (subst e; have := hz4 (cdS_step hc hb1 (by omega)); omega); (have := lt_of_ge h99 (by omega); have := hbq q (by omega) hl ht9 hc; omega)))
          | (refine r_loc ?_ (ih (p + 1) (by omega) b hb9 hbF (fun q hq hl ht9 hc => ?_)); rfl; (by_cases e : q = p; (subst e; have h8 := nge_of h99 (by omega); have := hz4 (cdS_step hc hb1 (by omega)); omega); exact hbq q (by omega) hl ht9 hc))
          | (refine r_loc ?_ (ih (p + 1) (by omega) b hb9 hbF (fun q hq hl ht9 hc => ?_)); rfl; (by_cases e : q = p; (subst e; rw [B1_0.mp h55] at hl; cases hl); exact hbq q (by omega) hl ht9 hc))
/-- the table alone -/
def FZ (g g' : St) : Prop := (∀ j, j ≠ 114 → g'.1 j = g.1 j) ∧ g'.2 = g.2
theorem FZ.rf {g : St} : FZ g g := ⟨fun _ _ => rfl, rfl⟩
theorem FZ.up {g g' : St} {k : Nat} {x : Int32} (h : FZ g g') : FZ g (upI g' 114 k x) := ⟨fun i hi => (upI_n hi).trans (h.1 i hi), h.2⟩
theorem FZ.fm {g g' : St} (h : FZ g g') : FM g g' := ⟨fun j hj => h.1 j (by omega), fun k _ => congrFun (h.1 91 (by decide)) k, fun j _ => by rw [h.2]⟩
theorem MG_fz {g g' : St} {V : VT} {n : Nat} (h : MG g V n) (hf : FZ g g') : MG g' V n := fun q hq => by rw [hf.1 112 (by decide), hf.1 113 (by decide)]; exact h q hq
set_option maxHeartbeats 4000000 in
set_option maxRecDepth 100000 in
theorem lm_sA {K : KT} {ad : Nat → Nat} {g : St} {X : LN} (hX : MC g X) {V : VT} (hV : vOk X.1 X.2.2.1 V) (hG : MG g V X.2.2.1.1) {t : Nat} (ht : t < X.1) {Kf : Nat → Nat} (hKf : Kf = kP X.2.2.1 V FR t) {S : Nat} (hS : S < 64) (hK : Cx K RX10 cX10_findSoon 3 ad) (hm : K.2.2.1.2.maxLocals = 7) (hnn : Nn K 0 0)
    (h136 : ∀ g1, FZ g g1 → ZC g1 Kf X.2.2.1 V X.1 S → Wp K 0 0 TT ad g1 136 [(0, .ref 91), (1, .int (nI t)), (2, .int (nI S))] []) :
    ∀ m a, a + m = X.1 → ∀ g1, FZ g g1 → ZC g1 Kf X.2.2.1 V X.1 (S + 1) → (∀ q, q < a → ZE Kf X.2.2.1 V S q (g1.1 114 (10 * S + q))) → Wp K 0 0 TT ad g1 9 [(0, .ref 91), (1, .int (nI t)), (2, .int (nI S)), (3, .int (nI a))] [] := by
  obtain ⟨hok, hpo, hlaw, x1, hW, hPs, x4⟩ := id hX
  have h10 := hok.2.1
  have h6 := hpo.1
  have hhm : ∀ p, p < X.2.2.1.1 → X.2.2.1.2.1 p < 10 := fun p hp => by have := (hpo.2 p hp).1; omega
  intro m
  induction m with
  | zero =>
    intro a ham g1 hfz hZ hA
    have e : a = X.1 := by omega
    subst e
    refine r_iload_n (i := 3) hK dX10_findSoon_9 rfl rfl ?_
    refine r_aload_n (i := 0) hK dX10_findSoon_10 rfl rfl ?_
    refine r_getI hK flX10_121 to_91 rfl dX10_findSoon_11 ?_
    refine r_top (y := nI X.1) ((hfz.fm.2.1 0 rfl).trans x1) ?_
    refine r_icmp_ge (tgt := 136) hK dX10_findSoon_14 (by decide) (fun _ => ?_) (fun h => absurd (nI_le (Nat.le_refl _) (by omega)) h)
    refine r_loc ?_ (h136 g1 hfz (fun set h1 h2 q hq => ?_))
    · rfl
    · by_cases e : set = S
      · subst e; exact hA q hq
      · exact hZ set (by omega) h2 q hq
  | succ m ih =>
    intro a ham g1 hfz hZ hA
    have ha : a < X.1 := by omega
    have hfr := hfz.fm
    have hG1 := MG_fz hG hfz
    have h117 : ∀ b, Kf a ≤ b → b ≤ 1000000 → (cdS X.2.2.1 V Kf S a → b = Kf a) → Wp K 0 0 TT ad g1 117 [(0, .ref 91), (1, .int (nI t)), (2, .int (nI S)), (3, .int (nI a)), (4, .int (nI b))] [] := by
      intro b hb1 hb2 hb3
      refine r_aload_n (i := 0) hK dX10_findSoon_117 rfl rfl ?_
      refine r_getA hK flX10_80 to_91 rfl dX10_findSoon_118 ?_
      refine r_bipush (v := 10) hK dX10_findSoon_121 (by decide) ?_
      refine r_iload_n (i := 2) hK dX10_findSoon_123 rfl rfl ?_
      refine r_imul hK dX10_findSoon_124 ?_
      refine r_top (y := nI (10 * S)) (pk_mul 10 _) ?_
      refine r_iload_n (i := 3) hK dX10_findSoon_125 rfl rfl ?_
      refine r_iadd hK dX10_findSoon_126 ?_
      refine r_top (y := nI (10 * S + a)) (nI_add _ _) ?_
      refine r_iload (i := 4) hK dX10_findSoon_127 rfl ?_
      refine r_iasN hK to_114 rfl (by omega) (by decide) dX10_findSoon_129 ?_
      refine r_iincN (i := 3) hK hm dX10_findSoon_130 rfl (by decide) ?_
      refine r_goto (tgt := 9) hK dX10_findSoon_133 (by decide) ?_
      refine r_loc ?_ (ih (a + 1) (by omega) _ hfz.up (fun set h1 h2 q hq => ?_) (fun q hq => ?_))
      · rfl
      · rw [upI_s, upd_e (by omega)]; exact hZ set h1 h2 q hq
      · rw [upI_s]
        by_cases e : q = a
        · subst e; rw [upd_s]; exact ⟨b, rfl, hb1, hb2, hb3⟩
        · rw [upd_e (by omega)]; exact hA q (by omega)
    refine r_iload_n (i := 3) hK dX10_findSoon_9 rfl rfl ?_
    refine r_aload_n (i := 0) hK dX10_findSoon_10 rfl rfl ?_
    refine r_getI hK flX10_121 to_91 rfl dX10_findSoon_11 ?_
    refine r_top (y := nI X.1) ((hfr.2.1 0 rfl).trans x1) ?_
    refine r_icmp_ge (tgt := 136) hK dX10_findSoon_14 (by decide) (fun h => absurd h (nI_ge ha (by omega))) (fun _ => ?_)
    refine r_iload_n (i := 3) hK dX10_findSoon_17 rfl rfl ?_
    refine r_iload_n (i := 1) hK dX10_findSoon_18 rfl rfl ?_
    refine r_icmp_ne (tgt := 26) hK dX10_findSoon_19 (by decide) (fun h19 => ?_) (fun h19 => ?_)
    · refine r_ldc hK ckX10_248 dX10_findSoon_26 ?_
      refine r_istore (i := 4) hK hm dX10_findSoon_28 (by decide) ?_
      refine r_iconst (v := 0) hK dX10_findSoon_30 (by decide) ?_
      refine r_istore (i := 5) hK hm dX10_findSoon_31 (by decide) ?_
      have hat : ¬ a = t := (fun z => h19 (by rw [z]))
      refine r_loc ?_ (lm_sP (MC_of hX hfr) hV hG1 ht hKf hS ha hat hZ hK hm hnn h117 X.2.2.1.1 0 (by omega) 1000000 (by rw [hKf]; exact kP_le a) (Nat.le_refl _) (fun q hq => absurd hq (Nat.not_lt_zero _)))
      rfl
    · refine r_iconst (v := 0) hK dX10_findSoon_22 (by decide) ?_
      refine r_goto (tgt := 28) hK dX10_findSoon_23 (by decide) ?_
      refine r_istore (i := 4) hK hm dX10_findSoon_28 (by decide) ?_
      refine r_iconst (v := 0) hK dX10_findSoon_30 (by decide) ?_
      refine r_istore (i := 5) hK hm dX10_findSoon_31 (by decide) ?_
      have hat : a = t := nI_inj (by omega) (by omega) h19
      have h0 : Kf a = 0 := by rw [hat, hKf]; exact kP_t
      refine r_iload (i := 5) hK dX10_findSoon_33 rfl ?_
      refine r_aload_n (i := 0) hK dX10_findSoon_35 rfl rfl ?_
      refine r_getI hK flX10_131 to_91 rfl dX10_findSoon_36 ?_
      have h117a := h117 0 (by omega) (by omega) (fun _ => h0.symm)
      refine r_icmp_ge (tgt := 117) hK dX10_findSoon_39 (by decide) (fun _ => ?_) (fun _ => ?_)
      · refine r_loc ?_ h117a; rfl
      · refine r_iload_n (i := 3) hK dX10_findSoon_42 rfl rfl ?_
        refine r_iload_n (i := 1) hK dX10_findSoon_43 rfl rfl ?_
        refine r_icmp_eq (tgt := 117) hK dX10_findSoon_44 (by decide) (fun _ => ?_) (fun h => absurd (by rw [hat]) h)
        refine r_loc ?_ h117a; rfl
theorem FZ.tr {g g1 g2 : St} (h : FZ g g1) (h2 : FZ g1 g2) : FZ g g2 := ⟨fun j hj => (h2.1 j hj).trans (h.1 j hj), h2.2.trans h.2⟩
set_option maxHeartbeats 4000000 in
set_option maxRecDepth 100000 in
theorem lm_sS {K : KT} {ad : Nat → Nat} {g : St} {X : LN} (hX : MC g X) {V : VT} (hV : vOk X.1 X.2.2.1 V) (hG : MG g V X.2.2.1.1) {t : Nat} (ht : t < X.1) {Kf : Nat → Nat} (hKf : Kf = kP X.2.2.1 V FR t) (hK : Cx K RX10 cX10_findSoon 3 ad) (hm : K.2.2.1.2.maxLocals = 7) (hnn : Nn K 0 0)
    (hR : Rt K 0 0 TT ad none (Qv ad (fun g' => FZ g g' ∧ ZC g' Kf X.2.2.1 V X.1 0))) :
    ∀ j, j ≤ 64 → ∀ g1, FZ g g1 → ZC g1 Kf X.2.2.1 V X.1 j → Wp K 0 0 TT ad g1 3 [(0, .ref 91), (1, .int (nI t)), (2, .int (nI j - 1))] [] := by
  obtain ⟨hok, hpo, hlaw, x1, hW, hPs, x4⟩ := id hX
  have h10 := hok.2.1
  have h6 := hpo.1
  have hhm : ∀ p, p < X.2.2.1.1 → X.2.2.1.2.1 p < 10 := fun p hp => by have := (hpo.2 p hp).1; omega
  intro j
  induction j with
  | zero =>
    intro hj g1 hfz hZ
    refine r_iload_n (i := 2) hK dX10_findSoon_3 rfl rfl ?_
    refine r_if_lt (tgt := 142) hK dX10_findSoon_4 (by decide) (fun _ => ?_) (fun h => absurd (by decide) h)
    refine q_vret hK hR dX10_findSoon_142 ?_
    exact ⟨hfz, hZ⟩
  | succ S ih =>
    intro hj g1 hfz hZ
    rw [nI_pred]
    have h136 : ∀ g2, FZ g1 g2 → ZC g2 Kf X.2.2.1 V X.1 S → Wp K 0 0 TT ad g2 136 [(0, .ref 91), (1, .int (nI t)), (2, .int (nI S))] [] := by
      intro g2 hf12 hZ2
      have hf2 := hfz.tr hf12
      refine r_iincc (i := 2) (c := (-1)) hK hm dX10_findSoon_136 rfl (by decide) (by decide) ?_
      refine r_goto (tgt := 3) hK dX10_findSoon_139 (by decide) ?_
      refine r_loc ?_ (ih (by omega) g2 hf2 hZ2)
      simp only [List.map_cons, List.map_nil]
      rw [← dec_1]
      rfl
    refine r_iload_n (i := 2) hK dX10_findSoon_3 rfl rfl ?_
    refine r_if_lt (tgt := 142) hK dX10_findSoon_4 (by decide) (fun h => absurd h (nI_pos (by omega))) (fun _ => ?_)
    refine r_iconst (v := 0) hK dX10_findSoon_7 (by decide) ?_
    refine r_istore_n (i := 3) hK hm dX10_findSoon_8 rfl (by decide) ?_
    refine r_loc ?_ (lm_sA (MC_of hX hfz.fm) hV (MG_fz hG hfz) ht hKf (show S < 64 by omega) hK hm hnn h136 X.1 0 (by omega) g1 FZ.rf hZ (fun q hq => absurd hq (Nat.not_lt_zero _)))
    rfl
set_option maxHeartbeats 4000000 in
set_option maxRecDepth 100000 in
theorem c_mFindSoon {ad : Nat → Nat} {g : St} {X : LN} (hX : MC g X) {V : VT} (hV : vOk X.1 X.2.2.1 V) (hG : MG g V X.2.2.1.1) {t : Nat} (ht : t < X.1) {Kf : Nat → Nat} (hKf : Kf = kP X.2.2.1 V FR t) {x : Int32} (hx : x = nI t) : Cv 3 mX10_findSoon [.ref 91, .int x] ad g (fun g' => FZ g g' ∧ ZC g' Kf X.2.2.1 V X.1 0) := by
  subst hx
  refine Cm.mk rfl (Nat.le_of_ble_eq_true rfl) (fun K hK hR hm hnn => ?_)
  refine r_bipush (v := 63) hK dX10_findSoon_0 (by decide) ?_
  refine r_istore_n (i := 2) hK hm dX10_findSoon_2 rfl (by decide) ?_
  refine r_loc ?_ (lm_sS hX hV hG ht hKf hK hm hnn hR 64 (Nat.le_refl _) g FZ.rf (fun set h1 h2 => absurd h2 (by omega)))
  rfl
