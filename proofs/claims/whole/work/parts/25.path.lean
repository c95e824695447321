/-! PATH: the class's routes -/
abbrev knb (k : Nat) : Nat → Bool := fun w => k.testBit w
/-- the ways as the land at o has them -/
def WyC (g : St) (o : Nat) (D : WD) : Prop := g.1 o 9 = nI D.1 ∧ ∀ w, w < D.1 → g.1 (o + 1) w = nI (D.2.1 w) ∧ g.1 (o + 2) w = nI (D.2.2.1 w) ∧ g.1 (o + 3) w = nI (D.2.2.2 w)
def oeV (f t x : Int32) : Int32 := if f = x then t else if t = x then f else -1

set_option maxHeartbeats 4000000 in
set_option maxRecDepth 100000 in
theorem c_otherEnd {ad : Nat → Nat} {g : St} {o : Nat} {w x : Int32} (hL : LnP o) : Ci 2 mX4_otherEnd [.ref o, .int w, .int x] ad g (fun v g' => v = oeV (atF (g.1 (o + 1)) 14 w) (atF (g.1 (o + 2)) 14 w) x ∧ g' = g) := by
  obtain ⟨-, t0, t1, t2, t3, t4, t5, t6, t7, t8⟩ := hL
  refine Cm.mk rfl (Nat.le_of_ble_eq_true rfl) (fun K hK hR hm hnn => ?_)
  refine r_aload_n (i := 0) hK dX4_otherEnd_0 rfl rfl ?_
  refine r_getA hK flX4_9 t0 rfl dX4_otherEnd_1 ?_
  refine r_iload_n (i := 1) hK dX4_otherEnd_4 rfl rfl ?_
  refine r_si2 hK hnn (c_at t1 (by decide)) moX9_at mlX4_50 dX4_otherEnd_5 (Nat.le_of_ble_eq_true rfl) (Nat.le_of_ble_eq_true rfl) (eqI ?_)
  refine r_istore_n (i := 3) hK hm dX4_otherEnd_8 rfl (by decide) ?_
  refine r_aload_n (i := 0) hK dX4_otherEnd_9 rfl rfl ?_
  refine r_getA hK flX4_15 t0 rfl dX4_otherEnd_10 ?_
  refine r_iload_n (i := 1) hK dX4_otherEnd_13 rfl rfl ?_
  refine r_si2 hK hnn (c_at t2 (by decide)) moX9_at mlX4_50 dX4_otherEnd_14 (Nat.le_of_ble_eq_true rfl) (Nat.le_of_ble_eq_true rfl) (eqI ?_)
  refine r_istore (i := 4) hK hm dX4_otherEnd_17 (by decide) ?_
  refine r_iload_n (i := 3) hK dX4_otherEnd_19 rfl rfl ?_
  refine r_iload_n (i := 2) hK dX4_otherEnd_20 rfl rfl ?_
  refine r_icmp_ne (tgt := 29) hK dX4_otherEnd_21 (by decide) (fun h21 => ?_) (fun h21 => ?_)
  · refine r_iload (i := 4) hK dX4_otherEnd_29 rfl ?_
    refine r_iload_n (i := 2) hK dX4_otherEnd_31 rfl rfl ?_
    refine r_icmp_ne (tgt := 39) hK dX4_otherEnd_32 (by decide) (fun h32 => ?_) (fun h32 => ?_)
    · refine r_iconst (v := (-1)) hK dX4_otherEnd_39 (by decide) ?_
      refine q_iret hK hR dX4_otherEnd_40 ?_
      exact ⟨by simp [oeV, *], rfl⟩
    · refine r_iload_n (i := 3) hK dX4_otherEnd_35 rfl rfl ?_
      refine r_goto (tgt := 40) hK dX4_otherEnd_36 (by decide) ?_
      refine q_iret hK hR dX4_otherEnd_40 ?_
      exact ⟨by simp [oeV, *], rfl⟩
  · refine r_iload (i := 4) hK dX4_otherEnd_24 rfl ?_
    refine r_goto (tgt := 40) hK dX4_otherEnd_26 (by decide) ?_
    refine q_iret hK hR dX4_otherEnd_40 ?_
    exact ⟨by simp [oeV, *], rfl⟩
def oeI (D : WD) (w a : Nat) : Int32 := if oE D w a < 10 then nI (oE D w a) else -1
theorem c_oeE {ad : Nat → Nat} {g : St} {D : WD} {np w a : Nat} {wi x : Int32} (hok : wOk np D) (hW : WyC g 13 D) (hw : w < D.1) (hi : wi = nI w) (hx : x = nI a) (ha : a < 2 ^ 31) : Ci 2 mX4_otherEnd [.ref 13, .int wi, .int x] ad g (fun v g' => v = oeI D w a ∧ g' = g) := by
  subst hi; subst hx
  have h1 := hok.1
  have h2 := hok.2.1
  obtain ⟨q1, q2, q3, q4, q5⟩ := hok.2.2 w hw
  obtain ⟨e1, e2, e3⟩ := hW.2 w hw
  refine Ci.eq (c_otherEnd lp_13) ?_ rfl
  rw [atF_in (by omega) (by decide), atF_in (by omega) (by decide), e1, e2]
  unfold oeV oeI oE
  have i1 : nI (D.2.1 w) = nI a ↔ D.2.1 w = a := nI_eq (by omega) ha
  have i2 : nI (D.2.2.1 w) = nI a ↔ D.2.2.1 w = a := nI_eq (by omega) ha
  by_cases c1 : D.2.1 w = a
  · rw [if_pos (i1.mpr c1), if_pos c1, if_pos (by omega)]
  · rw [if_neg (fun z => c1 (i1.mp z)), if_neg c1]
    by_cases c2 : D.2.2.1 w = a
    · rw [if_pos (i2.mpr c2), if_pos c2, if_pos (by omega)]
    · rw [if_neg (fun z => c2 (i2.mp z)), if_neg c2, if_neg (by omega)]

set_option maxHeartbeats 4000000 in
set_option maxRecDepth 100000 in
theorem l_mI {K : KT} {ad : Nat → Nat} {g : St} {D : WD} {np k : Nat} {tI rn : Int32} {K0 : Nat → Nat} (hok : wOk np D) (hW : WyC g 13 D) (hk : k < 2 ^ 31) (hK0 : ∀ a, K0 a ≤ 1000000000) (hK : Cx K RX6 cX6_measure 2 ad) (hm : K.2.2.1.2.maxLocals = 12) (hnn : Nn K 0 0)
    (hx : ∀ f : Nat → Int32, (∀ a, a < 10 → f a = nI (sp_rd (wE D (knb k)) (2 * D.1) K0 a)) → Wp K 0 0 TT ad (upR g 23 f) 212 [(0, .ref 22), (1, .ref 13), (2, .int (nI k)), (3, .int tI), (4, .int (if sp_ch (wE D (knb k)) (2 * D.1) K0 = true then 1 else 0)), (5, .int rn)] []) :
    ∀ m w, w + m = D.1 → ∀ f : Nat → Int32, (∀ a, a < 10 → f a = nI (sp_rd (wE D (knb k)) (2 * w) K0 a)) → Wp K 0 0 TT ad (upR g 23 f) 42 [(0, .ref 22), (1, .ref 13), (2, .int (nI k)), (3, .int tI), (4, .int (if sp_ch (wE D (knb k)) (2 * w) K0 = true then 1 else 0)), (5, .int rn), (6, .int (nI w))] [] := by
  have h14 := hok.1
  have h10 := hok.2.1
  intro m
  induction m with
  | zero =>
    intro w hwm f hf
    have e : w = D.1 := by omega
    subst e
    refine r_iload (i := 6) hK dX6_measure_42 rfl ?_
    refine r_aload_n (i := 1) hK dX6_measure_44 rfl rfl ?_
    refine r_getI hK flX6_57 to_13 rfl dX6_measure_45 ?_
    refine r_top (y := nI D.1) hW.1 ?_
    refine r_icmp_ge (tgt := 212) hK dX6_measure_48 (by decide) (fun _ => ?_) (fun h => absurd (nI_le (Nat.le_refl _) (by omega)) h)
    refine r_loc ?_ (hx f hf)
    rfl
  | succ m ih =>
    intro w hwm f hf
    have hw : w < D.1 := by omega
    obtain ⟨w1, w2, hne, w4, w5⟩ := hok.2.2 w hw
    have hfrom : D.2.1 w < 10 := by omega
    have hto : D.2.2.1 w < 10 := by omega
    refine r_iload (i := 6) hK dX6_measure_42 rfl ?_
    refine r_aload_n (i := 1) hK dX6_measure_44 rfl rfl ?_
    refine r_getI hK flX6_57 to_13 rfl dX6_measure_45 ?_
    refine r_top (y := nI D.1) hW.1 ?_
    refine r_icmp_ge (tgt := 212) hK dX6_measure_48 (by decide) (fun h => absurd h (nI_ge hw (by omega))) (fun _ => ?_)
    refine r_iload_n (i := 2) hK dX6_measure_51 rfl rfl ?_
    refine r_iload (i := 6) hK dX6_measure_52 rfl ?_
    refine r_ishr hK dX6_measure_54 ?_
    refine r_iconst (v := 1) hK dX6_measure_55 (by decide) ?_
    refine r_iand hK dX6_measure_56 ?_
    refine r_iconst (v := 1) hK dX6_measure_57 (by decide) ?_
    refine r_icmp_ne (tgt := 206) hK dX6_measure_58 (by decide) (fun h58 => ?_) (fun h58 => ?_)
    · have hkn : knb k w = false := by
        cases e : knb k w with
        | false => rfl
        | true => exact absurd ((tb_iff hk (by omega)).mpr e) h58
      refine r_iincN (i := 6) hK hm dX6_measure_206 rfl (by decide) ?_
      refine r_goto (tgt := 42) hK dX6_measure_209 (by decide) ?_
      refine r_loc ?_ (ih (w + 1) (by omega) f (fun a ha => ?_))
      · simp only [List.map_cons, List.map_nil]
        rw [wE_chg hw hne, hkn]
        simp only [Bool.false_and, Bool.or_false]
        rfl
      · rw [wE_step hw hne, if_neg (by rw [hkn]; decide)]
        exact hf a ha
    · have hkn : knb k w = true := (tb_iff hk (by omega)).mp h58
      obtain ⟨c, hc⟩ : ∃ c, c = 16 * D.2.2.2 w + 1 := ⟨_, rfl⟩
      obtain ⟨A, hA⟩ : ∃ A, sp_rd (wE D (knb k)) (2 * w) K0 (D.2.1 w) = A := ⟨_, rfl⟩
      obtain ⟨B, hB⟩ : ∃ B, sp_rd (wE D (knb k)) (2 * w) K0 (D.2.2.1 w) = B := ⟨_, rfl⟩
      have hA9 : A ≤ 1000000000 := by rw [← hA]; exact Nat.le_trans (sp_rd_le _ _ _ _) (hK0 _)
      have hB9 : B ≤ 1000000000 := by rw [← hB]; exact Nat.le_trans (sp_rd_le _ _ _ _) (hK0 _)
      have hfA : f (D.2.1 w) = nI A := by rw [hf _ hfrom, hA]
      have hfB : f (D.2.2.1 w) = nI B := by rw [hf _ hto, hB]
      refine r_aload_n (i := 1) hK dX6_measure_61 rfl rfl ?_
      refine r_getA hK flX6_60 to_13 rfl dX6_measure_62 ?_
      refine r_iload (i := 6) hK dX6_measure_65 rfl ?_
      refine r_si2 hK hnn (c_atE to_14 (by decide) rfl (by omega) (hW.2 w hw).1) moX9_at mlX6_33 dX6_measure_67 (Nat.le_of_ble_eq_true rfl) (Nat.le_of_ble_eq_true rfl) (eqI ?_)
      refine r_istore (i := 7) hK hm dX6_measure_70 (by decide) ?_
      refine r_aload_n (i := 1) hK dX6_measure_72 rfl rfl ?_
      refine r_getA hK flX6_63 to_13 rfl dX6_measure_73 ?_
      refine r_iload (i := 6) hK dX6_measure_76 rfl ?_
      refine r_si2 hK hnn (c_atE to_15 (by decide) rfl (by omega) (hW.2 w hw).2.1) moX9_at mlX6_33 dX6_measure_78 (Nat.le_of_ble_eq_true rfl) (Nat.le_of_ble_eq_true rfl) (eqI ?_)
      refine r_istore (i := 8) hK hm dX6_measure_81 (by decide) ?_
      refine r_aload_n (i := 1) hK dX6_measure_83 rfl rfl ?_
      refine r_getA hK flX6_48 to_13 rfl dX6_measure_84 ?_
      refine r_iload (i := 6) hK dX6_measure_87 rfl ?_
      refine r_si2 hK hnn (c_atE to_16 (by decide) rfl (by omega) (hW.2 w hw).2.2) moX9_at mlX6_33 dX6_measure_89 (Nat.le_of_ble_eq_true rfl) (Nat.le_of_ble_eq_true rfl) (eqI ?_)
      refine r_bipush (v := 16) hK dX6_measure_92 (by decide) ?_
      refine r_imul hK dX6_measure_94 ?_
      refine r_iconst (v := 1) hK dX6_measure_95 (by decide) ?_
      refine r_iadd hK dX6_measure_96 ?_
      refine r_top (y := nI c) (by rw [show (16 : Int32) = nI 16 from rfl, show (1 : Int32) = nI 1 from rfl, pk_mul, nI_add, hc, Nat.mul_comm]) ?_
      refine r_istore (i := 9) hK hm dX6_measure_97 (by decide) ?_
      refine r_aload_n (i := 0) hK dX6_measure_99 rfl rfl ?_
      refine r_getA hK flX6_9 to_22 rfl dX6_measure_100 ?_
      refine r_iload (i := 7) hK dX6_measure_103 rfl ?_
      refine r_si2 hK hnn (c_atE to_23 (by decide) rfl hfrom hfA) moX9_at mlX6_33 dX6_measure_105 (Nat.le_of_ble_eq_true rfl) (Nat.le_of_ble_eq_true rfl) (eqI ?_)
      refine r_aload_n (i := 0) hK dX6_measure_108 rfl rfl ?_
      refine r_getA hK flX6_9 to_22 rfl dX6_measure_109 ?_
      refine r_iload (i := 8) hK dX6_measure_112 rfl ?_
      refine r_si2 hK hnn (c_atE to_23 (by decide) rfl hto hfB) moX9_at mlX6_33 dX6_measure_114 (Nat.le_of_ble_eq_true rfl) (Nat.le_of_ble_eq_true rfl) (eqI ?_)
      refine r_iload (i := 9) hK dX6_measure_117 rfl ?_
      refine r_iadd hK dX6_measure_119 ?_
      refine r_top (nI_add _ _) ?_
      refine r_min hK hnn mwX6_66 dX6_measure_120 (Nat.le_of_ble_eq_true rfl) (Nat.le_of_ble_eq_true rfl) ?_
      refine r_top (min_nI (by omega) (by omega)) ?_
      refine r_istore (i := 10) hK hm dX6_measure_123 (by decide) ?_
      refine r_aload_n (i := 0) hK dX6_measure_125 rfl rfl ?_
      refine r_getA hK flX6_9 to_22 rfl dX6_measure_126 ?_
      refine r_iload (i := 8) hK dX6_measure_129 rfl ?_
      refine r_si2 hK hnn (c_atE to_23 (by decide) rfl hto hfB) moX9_at mlX6_33 dX6_measure_131 (Nat.le_of_ble_eq_true rfl) (Nat.le_of_ble_eq_true rfl) (eqI ?_)
      refine r_iload (i := 10) hK dX6_measure_134 rfl ?_
      refine r_iload (i := 9) hK dX6_measure_136 rfl ?_
      refine r_iadd hK dX6_measure_138 ?_
      refine r_top (nI_add _ _) ?_
      refine r_min hK hnn mwX6_66 dX6_measure_139 (Nat.le_of_ble_eq_true rfl) (Nat.le_of_ble_eq_true rfl) ?_
      refine r_top (min_nI (by omega) (by omega)) ?_
      refine r_istore (i := 11) hK hm dX6_measure_142 (by decide) ?_
      refine r_loc (lv' := [(0, .ref 22), (1, .ref 13), (2, .int (nI k)), (3, .int tI), (4, .int (if sp_ch (wE D (knb k)) (2 * w) K0 = true then 1 else 0)), (5, .int rn), (6, .int (nI w)), (7, .int (nI (D.2.1 w))), (8, .int (nI (D.2.2.1 w))), (9, .int (nI c)), (10, .int (nI (min A (B + c)))), (11, .int (nI (min B (min A (B + c) + c))))]) ?_ ?_
      · rfl
      have tail : ∀ c' : Int32, c' = (if sp_ch (wE D (knb k)) (2 * (w + 1)) K0 = true then 1 else 0) → Wp K 0 0 TT ad (upR g 23 f) 182 [(0, .ref 22), (1, .ref 13), (2, .int (nI k)), (3, .int tI), (4, .int (if sp_ch (wE D (knb k)) (2 * w) K0 = true then 1 else 0)), (5, .int rn), (6, .int (nI w)), (7, .int (nI (D.2.1 w))), (8, .int (nI (D.2.2.1 w))), (9, .int (nI c)), (10, .int (nI (min A (B + c)))), (11, .int (nI (min B (min A (B + c) + c))))] [.int c'] := by
        intro c' hc'
        rw [hc']
        refine r_istore (i := 4) hK hm dX6_measure_182 (by decide) ?_
        refine r_aload_n (i := 0) hK dX6_measure_184 rfl rfl ?_
        refine r_getA hK flX6_9 to_22 rfl dX6_measure_185 ?_
        refine r_iload (i := 7) hK dX6_measure_188 rfl ?_
        refine r_iload (i := 10) hK dX6_measure_190 rfl ?_
        refine r_sv3 hK hnn (c_ptE to_23 (by decide) rfl hfrom upR_upI) moX9_put mlX6_25 dX6_measure_192 (Nat.le_of_ble_eq_true rfl) (Nat.le_of_ble_eq_true rfl) (eqV ?_)
        refine r_aload_n (i := 0) hK dX6_measure_195 rfl rfl ?_
        refine r_getA hK flX6_9 to_22 rfl dX6_measure_196 ?_
        refine r_iload (i := 8) hK dX6_measure_199 rfl ?_
        refine r_iload (i := 11) hK dX6_measure_201 rfl ?_
        refine r_sv3 hK hnn (c_ptE to_23 (by decide) rfl hto upR_upI) moX9_put mlX6_25 dX6_measure_203 (Nat.le_of_ble_eq_true rfl) (Nat.le_of_ble_eq_true rfl) (eqV ?_)
        refine r_iincN (i := 6) hK hm dX6_measure_206 rfl (by decide) ?_
        refine r_goto (tgt := 42) hK dX6_measure_209 (by decide) ?_
        refine r_loc ?_ (ih (w + 1) (by omega) _ (fun a ha => ?_))
        · rfl
        · rw [wE_step hw hne, if_pos hkn]
          unfold wS
          rw [hA, hB]
          by_cases e1 : a = D.2.1 w
          · subst e1
            rw [if_pos rfl, upd_n hne, upd_s, hc]
          · rw [if_neg e1]
            by_cases e2 : a = D.2.2.1 w
            · subst e2
              rw [if_pos rfl, upd_s]
              congr 1
              omega
            · rw [if_neg e2, upd_n e2, upd_n e1]
              exact hf a ha
      refine r_iload (i := 4) hK dX6_measure_144 rfl ?_
      refine r_if_ne (tgt := 177) hK dX6_measure_146 (by decide) (fun h146 => ?_) (fun h146 => ?_)
      · refine r_iconst (v := 1) hK dX6_measure_177 (by decide) ?_
        refine r_goto (tgt := 182) hK dX6_measure_178 (by decide) ?_
        refine tail _ ?_
        rw [wE_chg hw hne, hkn, hA, hB, ← hc]
        simp only [Bool.true_and]
        have : sp_ch (wE D (knb k)) (2 * w) K0 = true := by
          cases e : sp_ch (wE D (knb k)) (2 * w) K0 with
          | true => rfl
          | false => rw [e] at h146; exact absurd rfl h146
        simp [this]
      · refine r_iload (i := 10) hK dX6_measure_149 rfl ?_
        refine r_aload_n (i := 0) hK dX6_measure_151 rfl rfl ?_
        refine r_getA hK flX6_9 to_22 rfl dX6_measure_152 ?_
        refine r_iload (i := 7) hK dX6_measure_155 rfl ?_
        refine r_si2 hK hnn (c_atE to_23 (by decide) rfl hfrom hfA) moX9_at mlX6_33 dX6_measure_157 (Nat.le_of_ble_eq_true rfl) (Nat.le_of_ble_eq_true rfl) (eqI ?_)
        refine r_icmp_lt (tgt := 177) hK dX6_measure_160 (by decide) (fun h160 => ?_) (fun h160 => ?_)
        · refine r_iconst (v := 1) hK dX6_measure_177 (by decide) ?_
          refine r_goto (tgt := 182) hK dX6_measure_178 (by decide) ?_
          refine tail _ ?_
          rw [wE_chg hw hne, hkn, hA, hB, ← hc]
          simp only [Bool.true_and]
          have h0 : sp_ch (wE D (knb k)) (2 * w) K0 = false := by
            cases e : sp_ch (wE D (knb k)) (2 * w) K0 with
            | false => rfl
            | true => rw [e] at h146; exact absurd h146 (by decide)
          rw [nI_ltI (by omega) (by omega)] at h160
          have : B + c < A := by omega
          simp [this]
        · refine r_iload (i := 11) hK dX6_measure_163 rfl ?_
          refine r_aload_n (i := 0) hK dX6_measure_165 rfl rfl ?_
          refine r_getA hK flX6_9 to_22 rfl dX6_measure_166 ?_
          refine r_iload (i := 8) hK dX6_measure_169 rfl ?_
          refine r_si2 hK hnn (c_atE to_23 (by decide) rfl hto hfB) moX9_at mlX6_33 dX6_measure_171 (Nat.le_of_ble_eq_true rfl) (Nat.le_of_ble_eq_true rfl) (eqI ?_)
          refine r_icmp_ge (tgt := 181) hK dX6_measure_174 (by decide) (fun h174 => ?_) (fun h174 => ?_)
          · refine r_iconst (v := 0) hK dX6_measure_181 (by decide) ?_
            refine tail _ ?_
            rw [wE_chg hw hne, hkn, hA, hB, ← hc]
            simp only [Bool.true_and]
            have h0 : sp_ch (wE D (knb k)) (2 * w) K0 = false := by
              cases e : sp_ch (wE D (knb k)) (2 * w) K0 with
              | false => rfl
              | true => rw [e] at h146; exact absurd h146 (by decide)
            rw [nI_ltI (by omega) (by omega)] at h160
            rw [nI_leI (by omega) (by omega)] at h174
            have q1 : ¬ B + c < A := by omega
            have q2 : ¬ A + c < B := by omega
            simp [h0, q1, q2]
          · refine r_iconst (v := 1) hK dX6_measure_177 (by decide) ?_
            refine r_goto (tgt := 182) hK dX6_measure_178 (by decide) ?_
            refine tail _ ?_
            rw [wE_chg hw hne, hkn, hA, hB, ← hc]
            simp only [Bool.true_and]
            have h0 : sp_ch (wE D (knb k)) (2 * w) K0 = false := by
              cases e : sp_ch (wE D (knb k)) (2 * w) K0 with
              | false => rfl
              | true => rw [e] at h146; exact absurd h146 (by decide)
            rw [nI_ltI (by omega) (by omega)] at h160
            rw [nI_leI (by omega) (by omega)] at h174
            have q2 : A + c < B := by omega
            simp [q2]
set_option maxHeartbeats 4000000 in
set_option maxRecDepth 100000 in
theorem l_mO {K : KT} {ad : Nat → Nat} {g : St} {D : WD} {np k t : Nat} (hok : wOk np D) (hW : WyC g 13 D) (hk : k < 2 ^ 31) (hK : Cx K RX6 cX6_measure 2 ad) (hm : K.2.2.1.2.maxLocals = 12) (hnn : Nn K 0 0)
    (hR : Rt K 0 0 TT ad none (Qv ad (fun g' => ∃ f, g' = upR g 23 f ∧ ∀ a, a < 10 → f a = nI (sp_K (wE D (knb k)) 1000000000 t a)))) :
    ∀ m r, r + m = 10 → ∀ (f : Nat → Int32) (c : Int32), (∀ a, a < 10 → f a = nI (sp_it (wE D (knb k)) (sp_in 1000000000 t) r a)) → (c = 0 → sp_ch (wE D (knb k)) (2 * D.1) (sp_it (wE D (knb k)) (sp_in 1000000000 t) r) = false) → Wp K 0 0 TT ad (upR g 23 f) 24 [(0, .ref 22), (1, .ref 13), (2, .int (nI k)), (3, .int (nI t)), (4, .int c), (5, .int (nI r))] [] := by
  have hE := wE_ok hok (knb k)
  intro m
  induction m with
  | zero =>
    intro r hr f c hf hc
    refine r_iload (i := 5) hK dX6_measure_24 rfl ?_
    refine r_bipush (v := 10) hK dX6_measure_26 (by decide) ?_
    refine r_icmp_ge (tgt := 218) hK dX6_measure_28 (by decide) (fun _ => ?_) (fun h => absurd (nI_le (a := 10) (by omega) (by omega)) h)
    refine q_vret hK hR dX6_measure_218 ?_
    refine ⟨f, rfl, fun a ha => ?_⟩
    rw [hf a ha, sp_K_of hE (Or.inl (by omega))]
  | succ m ih =>
    intro r hr f c hf hc
    refine r_iload (i := 5) hK dX6_measure_24 rfl ?_
    refine r_bipush (v := 10) hK dX6_measure_26 (by decide) ?_
    refine r_icmp_ge (tgt := 218) hK dX6_measure_28 (by decide) (fun h => absurd h (nI_ge (b := 10) (by omega) (by omega))) (fun _ => ?_)
    refine r_iload (i := 4) hK dX6_measure_31 rfl ?_
    refine r_if_eq (tgt := 218) hK dX6_measure_33 (by decide) (fun h => ?_) (fun _ => ?_)
    · refine q_vret hK hR dX6_measure_218 ?_
      refine ⟨f, rfl, fun a ha => ?_⟩
      rw [hf a ha, sp_K_of hE (Or.inr (hc h))]
    · refine r_iconst (v := 0) hK dX6_measure_36 (by decide) ?_
      refine r_istore (i := 4) hK hm dX6_measure_37 (by decide) ?_
      refine r_iconst (v := 0) hK dX6_measure_39 (by decide) ?_
      refine r_istore (i := 6) hK hm dX6_measure_40 (by decide) ?_
      refine r_loc ?_ (l_mI (tI := nI t) (rn := nI r) (K0 := sp_it (wE D (knb k)) (sp_in 1000000000 t) r) hok hW hk (fun a => (sp_iv_it r).2.1 a) hK hm hnn (fun f' hf' => ?_) D.1 0 (by omega) f hf)
      · rfl
      · refine r_iincN (i := 5) hK hm dX6_measure_212 rfl (by decide) ?_
        refine r_goto (tgt := 24) hK dX6_measure_215 (by decide) ?_
        refine r_loc ?_ (ih (r + 1) (by omega) f' (if sp_ch (wE D (knb k)) (2 * D.1) (sp_it (wE D (knb k)) (sp_in 1000000000 t) r) = true then 1 else 0) hf' (fun h => ?_))
        · rfl
        · have h0 : sp_ch (wE D (knb k)) (2 * D.1) (sp_it (wE D (knb k)) (sp_in 1000000000 t) r) = false := by
            cases e : sp_ch (wE D (knb k)) (2 * D.1) (sp_it (wE D (knb k)) (sp_in 1000000000 t) r) with
            | false => rfl
            | true => rw [e] at h; exact absurd h (by decide)
          have h1 := (sp_ch_fix (E := wE D (knb k)) _ h0).1
          show sp_ch (wE D (knb k)) (2 * D.1) (sp_rd (wE D (knb k)) (2 * D.1) (sp_it (wE D (knb k)) (sp_in 1000000000 t) r)) = false
          rw [h1]
          exact h0
set_option maxHeartbeats 4000000 in
set_option maxRecDepth 100000 in
theorem c_measure {ad : Nat → Nat} {g : St} {D : WD} {np k t : Nat} (hok : wOk np D) (hW : WyC g 13 D) (hk : k < 2 ^ 31) (ht : t < 10) : Cv 2 mX6_measure [.ref 22, .ref 13, .int (nI k), .int (nI t)] ad g (fun g' => ∃ f, g' = upR g 23 f ∧ ∀ a, a < 10 → f a = nI (sp_K (wE D (knb k)) 1000000000 t a)) := by
  refine Cm.mk rfl (Nat.le_of_ble_eq_true rfl) (fun K hK hR hm hnn => ?_)
  refine r_aload_n (i := 0) hK dX6_measure_0 rfl rfl ?_
  refine r_getA hK flX6_9 to_22 rfl dX6_measure_1 ?_
  refine r_ldc hK ckX6_37 dX6_measure_4 ?_
  refine r_sv2 hK hnn (c_fill to_23 (by decide)) moJ7_fill_53178 mlX6_51 dX6_measure_6 (Nat.le_of_ble_eq_true rfl) (Nat.le_of_ble_eq_true rfl) (fun g6 q6 => ?_)
  obtain ⟨f6, rfl, hf6⟩ := q6
  refine r_aload_n (i := 0) hK dX6_measure_9 rfl rfl ?_
  refine r_getA hK flX6_9 to_22 rfl dX6_measure_10 ?_
  refine r_iload_n (i := 3) hK dX6_measure_13 rfl rfl ?_
  refine r_iconst (v := 0) hK dX6_measure_14 (by decide) ?_
  refine r_sv3 hK hnn (c_ptE (i := nI t) to_23 (by decide) rfl ht upR_upI) moX9_put mlX6_25 dX6_measure_15 (Nat.le_of_ble_eq_true rfl) (Nat.le_of_ble_eq_true rfl) (eqV ?_)
  refine r_iconst (v := 1) hK dX6_measure_18 (by decide) ?_
  refine r_istore (i := 4) hK hm dX6_measure_19 (by decide) ?_
  refine r_iconst (v := 0) hK dX6_measure_21 (by decide) ?_
  refine r_istore (i := 5) hK hm dX6_measure_22 (by decide) ?_
  refine r_loc ?_ (l_mO hok hW hk hK hm hnn hR 10 0 (by omega) (upd f6 t 0) 1 (fun a ha => ?_) (fun h => absurd h (by decide)))
  · rfl
  · show upd f6 t 0 a = nI (sp_in 1000000000 t a)
    unfold sp_in
    by_cases e : a = t
    · subst e; rw [upd_s, if_pos rfl]; rfl
    · rw [upd_n e, if_neg e, hf6 a ha]; rfl
