set_option maxHeartbeats 4000000 in
set_option maxRecDepth 100000 in
theorem l_fI {K : KT} {ad : Nat → Nat} {g : St} {np : Nat} {P : PD} {V : VT} {o : Nat} (hG : GdP o) (hs : GsC g o np P V) {aI tI rn : Int32} {K0 : Nat → Nat} (hK0 : ∀ a, K0 a ≤ 1000000000) (hK : Cx K RX1 cX1_fewestMinutes 3 ad) (hm : K.2.2.1.2.maxLocals = 6) (hnn : Nn K 0 0)
    (hx : ∀ f : Nat → Int32, (∀ a, a < 10 → f a = nI (sp_rd (pE P V) P.1 K0 a)) → Wp K 0 0 TT ad (upR g (o + 3) f) 125 [(0, .ref o), (1, .int aI), (2, .int tI), (3, .int (if sp_ch (pE P V) P.1 K0 = true then 1 else 0)), (4, .int rn)] []) :
    ∀ m p, p + m = P.1 → ∀ f : Nat → Int32, (∀ a, a < 10 → f a = nI (sp_rd (pE P V) p K0 a)) → Wp K 0 0 TT ad (upR g (o + 3) f) 39 [(0, .ref o), (1, .int aI), (2, .int tI), (3, .int (if sp_ch (pE P V) p K0 = true then 1 else 0)), (4, .int rn), (5, .int (nI p))] [] := by
  obtain ⟨o1, o2, o3, t0, t1, t2, t3⟩ := hG
  have h6 := hs.1.2.1
  intro m
  induction m with
  | zero =>
    intro p hpm f hf
    have hs' : GsC (upR g (o + 3) f) o np P V := GsC_of hs (upR_n (by omega)) (upR_n (by omega)) (upR_n (by omega)) (upR_n (by omega))
    obtain ⟨hv, s1', s2', s3'⟩ := id hs'
    have ep : p = P.1 := by omega
    subst ep
    refine r_iload (i := 5) hK dX1_fewestMinutes_39 rfl ?_
    refine r_aload_n (i := 0) hK dX1_fewestMinutes_41 rfl rfl ?_
    refine r_getA hK flX1_21 t0 rfl dX1_fewestMinutes_42 ?_
    refine r_getI hK flX1_29 to_13 rfl dX1_fewestMinutes_45 ?_
    refine r_top (y := nI P.1) s1' ?_
    refine r_icmp_ge (tgt := 125) hK dX1_fewestMinutes_48 (by decide) (fun _ => ?_) (fun h => absurd (nI_le (Nat.le_refl _) (by omega)) h)
    refine r_loc ?_ (hx f hf)
    rfl
  | succ m ih =>
    intro p hpm f hf
    have hs' : GsC (upR g (o + 3) f) o np P V := GsC_of hs (upR_n (by omega)) (upR_n (by omega)) (upR_n (by omega)) (upR_n (by omega))
    obtain ⟨hv, s1', s2', s3'⟩ := id hs'
    have hp : p < P.1 := by omega
    have hvp := hv.2.2 p hp
    have hh10 : P.2.1 p < 10 := by have := hv.1; omega
    have hfr : ∀ q, q < 10 → (upR g (o + 3) f).1 (o + 3) q = nI (sp_rd (pE P V) p K0 q) := fun q hq => by rw [upR_s]; exact hf q hq
    refine r_iload (i := 5) hK dX1_fewestMinutes_39 rfl ?_
    refine r_aload_n (i := 0) hK dX1_fewestMinutes_41 rfl rfl ?_
    refine r_getA hK flX1_21 t0 rfl dX1_fewestMinutes_42 ?_
    refine r_getI hK flX1_29 to_13 rfl dX1_fewestMinutes_45 ?_
    refine r_top (y := nI P.1) s1' ?_
    refine r_icmp_ge (tgt := 125) hK dX1_fewestMinutes_48 (by decide) (fun h => absurd h (nI_ge hp (by omega))) (fun _ => ?_)
    refine r_aload_n (i := 0) hK dX1_fewestMinutes_51 rfl rfl ?_
    refine r_getA hK flX1_9 t0 rfl dX1_fewestMinutes_52 ?_
    refine r_iload (i := 5) hK dX1_fewestMinutes_55 rfl ?_
    refine r_si2 hK hnn (c_atE t1 (by decide) rfl (by omega) (s3' p hp).1) moX9_at mlX1_38 dX1_fewestMinutes_57 (Nat.le_of_ble_eq_true rfl) (Nat.le_of_ble_eq_true rfl) (eqI ?_)
    refine r_iconst (v := (-1)) hK dX1_fewestMinutes_60 (by decide) ?_
    refine r_icmp_eq (tgt := 119) hK dX1_fewestMinutes_61 (by decide) (fun h61 => ?_) (fun h61 => ?_)
    · have hna : ¬ V.1 p < 10 := enI_m1.mp h61
      have hid : ¬ ((pE P V).2.2.2.2 p = true ∧ (sp_rd (pE P V) p K0) (V.1 p) + (16 * V.2 p + 1) < (sp_rd (pE P V) p K0) (P.2.1 p)) := fun z => hna (pE_ac.mp z.1).2
      have e1 : sp_rd (pE P V) (p + 1) K0 = sp_rd (pE P V) p K0 := sp_rx_id hid
      have e2 : sp_ch (pE P V) (p + 1) K0 = sp_ch (pE P V) p K0 := by
        rw [sp_ch_succ]
        cases q : (pE P V).2.2.2.2 p with
        | false => simp
        | true =>
          have : ¬ (sp_rd (pE P V) p K0) ((pE P V).2.2.1 p) + (pE P V).2.2.2.1 p < (sp_rd (pE P V) p K0) ((pE P V).2.1 p) := fun z => hid ⟨q, z⟩
          simp [this]
      refine r_iincN (i := 5) hK hm dX1_fewestMinutes_119 rfl (by decide) ?_
      refine r_goto (tgt := 39) hK dX1_fewestMinutes_122 (by decide) ?_
      refine r_loc ?_ (ih (p + 1) (by omega) f (fun x hx => by rw [e1]; exact hf x hx))
      simp only [List.map_cons, List.map_nil]
      rw [e2]
      rfl
    · refine r_aload_n (i := 0) hK dX1_fewestMinutes_64 rfl rfl ?_
      have hv1 : V.1 p < 10 := Decidable.byContradiction (fun z => h61 (enI_m1.mpr z))
      have hb1 : (sp_rd (pE P V) p K0) (V.1 p) ≤ 1000000000 := Nat.le_trans (sp_rd_le _ _ _ _) (hK0 _)
      have hb2 : (sp_rd (pE P V) p K0) (P.2.1 p) ≤ 1000000000 := Nat.le_trans (sp_rd_le _ _ _ _) (hK0 _)
      refine r_iload (i := 5) hK dX1_fewestMinutes_65 rfl ?_
      refine r_ci1 hK hnn (c_keyBy (Kc := sp_rd (pE P V) p K0) ⟨o1, o2, o3, t0, t1, t2, t3⟩ hs' rfl hp hv1 hfr) moX1_keyBy mlX1_118 t0 rfl rfl dX1_fewestMinutes_67 (Nat.le_of_ble_eq_true rfl) (Nat.le_of_ble_eq_true rfl) (eqI ?_)
      refine r_aload_n (i := 0) hK dX1_fewestMinutes_70 rfl rfl ?_
      refine r_getA hK flX1_18 t0 rfl dX1_fewestMinutes_71 ?_
      refine r_aload_n (i := 0) hK dX1_fewestMinutes_74 rfl rfl ?_
      refine r_getA hK flX1_21 t0 rfl dX1_fewestMinutes_75 ?_
      refine r_getA hK flX1_42 to_13 rfl dX1_fewestMinutes_78 ?_
      refine r_iload (i := 5) hK dX1_fewestMinutes_81 rfl ?_
      refine r_si2 hK hnn (c_atE to_17 (by decide) rfl (by omega) (s2' p hp)) moX9_at mlX1_38 dX1_fewestMinutes_83 (Nat.le_of_ble_eq_true rfl) (Nat.le_of_ble_eq_true rfl) (eqI ?_)
      refine r_si2 hK hnn (c_atE t3 (by decide) rfl hh10 (hfr _ hh10)) moX9_at mlX1_38 dX1_fewestMinutes_86 (Nat.le_of_ble_eq_true rfl) (Nat.le_of_ble_eq_true rfl) (eqI ?_)
      refine r_icmp_ge (tgt := 119) hK dX1_fewestMinutes_89 (by decide) (fun h89 => ?_) (fun h89 => ?_)
      · have hid : ¬ ((pE P V).2.2.2.2 p = true ∧ (sp_rd (pE P V) p K0) (V.1 p) + (16 * V.2 p + 1) < (sp_rd (pE P V) p K0) (P.2.1 p)) := by
          rw [nI_leI (by omega) (by omega)] at h89
          exact fun z => by omega
        have e1 : sp_rd (pE P V) (p + 1) K0 = sp_rd (pE P V) p K0 := sp_rx_id hid
        have e2 : sp_ch (pE P V) (p + 1) K0 = sp_ch (pE P V) p K0 := by
          rw [sp_ch_succ]
          cases q : (pE P V).2.2.2.2 p with
          | false => simp
          | true =>
            have : ¬ (sp_rd (pE P V) p K0) ((pE P V).2.2.1 p) + (pE P V).2.2.2.1 p < (sp_rd (pE P V) p K0) ((pE P V).2.1 p) := fun z => hid ⟨q, z⟩
            simp [this]
        refine r_iincN (i := 5) hK hm dX1_fewestMinutes_119 rfl (by decide) ?_
        refine r_goto (tgt := 39) hK dX1_fewestMinutes_122 (by decide) ?_
        refine r_loc ?_ (ih (p + 1) (by omega) f (fun x hx => by rw [e1]; exact hf x hx))
        simp only [List.map_cons, List.map_nil]
        rw [e2]
        rfl
      · refine r_aload_n (i := 0) hK dX1_fewestMinutes_92 rfl rfl ?_
        refine r_getA hK flX1_18 t0 rfl dX1_fewestMinutes_93 ?_
        refine r_aload_n (i := 0) hK dX1_fewestMinutes_96 rfl rfl ?_
        refine r_getA hK flX1_21 t0 rfl dX1_fewestMinutes_97 ?_
        refine r_getA hK flX1_42 to_13 rfl dX1_fewestMinutes_100 ?_
        refine r_iload (i := 5) hK dX1_fewestMinutes_103 rfl ?_
        refine r_si2 hK hnn (c_atE to_17 (by decide) rfl (by omega) (s2' p hp)) moX9_at mlX1_38 dX1_fewestMinutes_105 (Nat.le_of_ble_eq_true rfl) (Nat.le_of_ble_eq_true rfl) (eqI ?_)
        refine r_aload_n (i := 0) hK dX1_fewestMinutes_108 rfl rfl ?_
        refine r_iload (i := 5) hK dX1_fewestMinutes_109 rfl ?_
        refine r_ci1 hK hnn (c_keyBy (Kc := sp_rd (pE P V) p K0) ⟨o1, o2, o3, t0, t1, t2, t3⟩ hs' rfl hp hv1 hfr) moX1_keyBy mlX1_118 t0 rfl rfl dX1_fewestMinutes_111 (Nat.le_of_ble_eq_true rfl) (Nat.le_of_ble_eq_true rfl) (eqI ?_)
        refine r_sv3 hK hnn (c_ptE t3 (by decide) rfl hh10 upR_upI) moX9_put mlX1_80 dX1_fewestMinutes_114 (Nat.le_of_ble_eq_true rfl) (Nat.le_of_ble_eq_true rfl) (eqV ?_)
        refine r_iconst (v := 1) hK dX1_fewestMinutes_117 (by decide) ?_
        refine r_istore_n (i := 3) hK hm dX1_fewestMinutes_118 rfl (by decide) ?_
        have e2 : sp_ch (pE P V) (p + 1) K0 = true := by
          rw [sp_ch_succ, pE_ac.mpr ⟨hp, hv1⟩]
          rw [nI_leI (by omega) (by omega)] at h89
          have : (sp_rd (pE P V) p K0) ((pE P V).2.2.1 p) + (pE P V).2.2.2.1 p < (sp_rd (pE P V) p K0) ((pE P V).2.1 p) := by show (sp_rd (pE P V) p K0) (V.1 p) + (16 * V.2 p + 1) < (sp_rd (pE P V) p K0) (P.2.1 p); omega
          simp [this]
        refine r_iincN (i := 5) hK hm dX1_fewestMinutes_119 rfl (by decide) ?_
        refine r_goto (tgt := 39) hK dX1_fewestMinutes_122 (by decide) ?_
        refine r_loc ?_ (ih (p + 1) (by omega) _ (fun x hx => ?_))
        · simp only [List.map_cons, List.map_nil]
          rw [e2]
          rfl
        · rw [nI_leI (by omega) (by omega)] at h89
          show _ = nI (sp_rx (pE P V) p (sp_rd (pE P V) p K0) x)
          unfold sp_rx
          by_cases ex : x = P.2.1 p
          · rw [if_pos ⟨pE_ac.mpr ⟨hp, hv1⟩, ex⟩, ex, upd_s]
            congr 1
            show _ = min ((sp_rd (pE P V) p K0) (P.2.1 p)) ((sp_rd (pE P V) p K0) (V.1 p) + (16 * V.2 p + 1))
            omega
          · rw [if_neg (fun z => ex z.2), upd_n ex]
            exact hf x hx
set_option maxHeartbeats 4000000 in
set_option maxRecDepth 100000 in
theorem l_fE {K : KT} {ad : Nat → Nat} {g : St} {np : Nat} {P : PD} {V : VT} {o : Nat} (hG : GdP o) (hs : GsC g o np P V) {a t : Nat} (ha : a < 10) {f : Nat → Int32} {c r : Int32} (hf : ∀ x, x < 10 → f x = nI (kP P V FC t x)) (hK : Cx K RX1 cX1_fewestMinutes 3 ad) (hm : K.2.2.1.2.maxLocals = 6) (hnn : Nn K 0 0) (hR : Rt K 0 0 TT ad (some .int) (Qi ad (fun v g' => ∃ f, g' = upR g (o + 3) f ∧ (∀ x, x < 10 → f x = nI (kP P V FC t x)) ∧ v = (if kP P V FC t a < FC then nI (kP P V FC t a / 16) else -1)))) : Wp K 0 0 TT ad (upR g (o + 3) f) 131 [(0, .ref o), (1, .int (nI a)), (2, .int (nI t)), (3, .int c), (4, .int r)] [] := by
  obtain ⟨o1, o2, o3, t0, t1, t2, t3⟩ := hG
  have hle : kP P V FC t a ≤ 1000000000 := kP_le a
  have hfr : ∀ q, q < 10 → (upR g (o + 3) f).1 (o + 3) q = nI (kP P V FC t q) := fun q hq => by rw [upR_s]; exact hf q hq
  refine r_aload_n (i := 0) hK dX1_fewestMinutes_131 rfl rfl ?_
  refine r_getA hK flX1_18 t0 rfl dX1_fewestMinutes_132 ?_
  refine r_iload_n (i := 1) hK dX1_fewestMinutes_135 rfl rfl ?_
  refine r_si2 hK hnn (c_atE t3 (by decide) rfl ha (hfr a ha)) moX9_at mlX1_38 dX1_fewestMinutes_136 (Nat.le_of_ble_eq_true rfl) (Nat.le_of_ble_eq_true rfl) (eqI ?_)
  refine r_ldc hK ckX1_111 dX1_fewestMinutes_139 ?_
  rw [show (1000000000 : Int32) = nI 1000000000 from rfl]
  refine r_icmp_lt (tgt := 148) hK dX1_fewestMinutes_141 (by decide) (fun h141 => ?_) (fun h141 => ?_)
  · refine r_aload_n (i := 0) hK dX1_fewestMinutes_148 rfl rfl ?_
    refine r_getA hK flX1_18 t0 rfl dX1_fewestMinutes_149 ?_
    refine r_iload_n (i := 1) hK dX1_fewestMinutes_152 rfl rfl ?_
    refine r_si2 hK hnn (c_atE t3 (by decide) rfl ha (hfr a ha)) moX9_at mlX1_38 dX1_fewestMinutes_153 (Nat.le_of_ble_eq_true rfl) (Nat.le_of_ble_eq_true rfl) (eqI ?_)
    refine r_bipush (v := 16) hK dX1_fewestMinutes_156 (by decide) ?_
    refine r_idiv hK dX1_fewestMinutes_158 (by decide) ?_
    refine q_iret hK hR dX1_fewestMinutes_159 ?_
    refine ⟨f, rfl, hf, ?_⟩
    rw [nI_ltI (by omega) (by decide)] at h141
    first
      | (rw [if_neg h141]; done)
      | (rw [if_pos h141, show (16 : Int32) = nI 16 from rfl, pk_div (by omega) (by decide) (by decide)])
  · refine r_iconst (v := (-1)) hK dX1_fewestMinutes_144 (by decide) ?_
    refine r_goto (tgt := 159) hK dX1_fewestMinutes_145 (by decide) ?_
    refine q_iret hK hR dX1_fewestMinutes_159 ?_
    refine ⟨f, rfl, hf, ?_⟩
    rw [nI_ltI (by omega) (by decide)] at h141
    first
      | (rw [if_neg h141]; done)
      | (rw [if_pos h141, show (16 : Int32) = nI 16 from rfl, pk_div (by omega) (by decide) (by decide)])
set_option maxHeartbeats 4000000 in
set_option maxRecDepth 100000 in
theorem l_fO {K : KT} {ad : Nat → Nat} {g : St} {np : Nat} {P : PD} {V : VT} {o : Nat} (hG : GdP o) (hs : GsC g o np P V) {a t : Nat} (ha : a < 10) (hK : Cx K RX1 cX1_fewestMinutes 3 ad) (hm : K.2.2.1.2.maxLocals = 6) (hnn : Nn K 0 0)
    (hR : Rt K 0 0 TT ad (some .int) (Qi ad (fun v g' => ∃ f, g' = upR g (o + 3) f ∧ (∀ x, x < 10 → f x = nI (kP P V FC t x)) ∧ v = (if kP P V FC t a < FC then nI (kP P V FC t a / 16) else -1)))) :
    ∀ m r, r + m = 10 → ∀ (f : Nat → Int32) (c : Int32), (∀ a, a < 10 → f a = nI (sp_it (pE P V) (sp_in 1000000000 t) r a)) → (c = 0 → sp_ch (pE P V) P.1 (sp_it (pE P V) (sp_in 1000000000 t) r) = false) → Wp K 0 0 TT ad (upR g (o + 3) f) 23 [(0, .ref o), (1, .int (nI a)), (2, .int (nI t)), (3, .int c), (4, .int (nI r))] [] := by
  have hE := pE_ok hs.1
  intro m
  induction m with
  | zero =>
    intro r hr f c hf hc
    refine r_iload (i := 4) hK dX1_fewestMinutes_23 rfl ?_
    refine r_bipush (v := 10) hK dX1_fewestMinutes_25 (by decide) ?_
    refine r_icmp_ge (tgt := 131) hK dX1_fewestMinutes_27 (by decide) (fun _ => ?_) (fun h => absurd (nI_le (a := 10) (by omega) (by omega)) h)
    refine l_fE hG hs ha (fun x hx => ?_) hK hm hnn hR
    rw [hf x hx, sp_K_of hE (Or.inl (by omega))]
    rfl
  | succ m ih =>
    intro r hr f c hf hc
    refine r_iload (i := 4) hK dX1_fewestMinutes_23 rfl ?_
    refine r_bipush (v := 10) hK dX1_fewestMinutes_25 (by decide) ?_
    refine r_icmp_ge (tgt := 131) hK dX1_fewestMinutes_27 (by decide) (fun h => absurd h (nI_ge (b := 10) (by omega) (by omega))) (fun _ => ?_)
    refine r_iload_n (i := 3) hK dX1_fewestMinutes_30 rfl rfl ?_
    refine r_if_eq (tgt := 131) hK dX1_fewestMinutes_31 (by decide) (fun h => ?_) (fun _ => ?_)
    · refine l_fE hG hs ha (fun x hx => ?_) hK hm hnn hR
      rw [hf x hx, sp_K_of hE (Or.inr (hc h))]
      rfl
    · refine r_iconst (v := 0) hK dX1_fewestMinutes_34 (by decide) ?_
      refine r_istore_n (i := 3) hK hm dX1_fewestMinutes_35 rfl (by decide) ?_
      refine r_iconst (v := 0) hK dX1_fewestMinutes_36 (by decide) ?_
      refine r_istore (i := 5) hK hm dX1_fewestMinutes_37 (by decide) ?_
      refine r_loc ?_ (l_fI (aI := nI a) (tI := nI t) (rn := nI r) (K0 := sp_it (pE P V) (sp_in 1000000000 t) r) hG hs (fun a => (sp_iv_it r).2.1 a) hK hm hnn (fun f' hf' => ?_) P.1 0 (by omega) f hf)
      · rfl
      · refine r_iincN (i := 4) hK hm dX1_fewestMinutes_125 rfl (by decide) ?_
        refine r_goto (tgt := 23) hK dX1_fewestMinutes_128 (by decide) ?_
        refine r_loc ?_ (ih (r + 1) (by omega) f' (if sp_ch (pE P V) P.1 (sp_it (pE P V) (sp_in 1000000000 t) r) = true then 1 else 0) hf' (fun h => ?_))
        · rfl
        · have h0 : sp_ch (pE P V) P.1 (sp_it (pE P V) (sp_in 1000000000 t) r) = false := by
            cases e : sp_ch (pE P V) P.1 (sp_it (pE P V) (sp_in 1000000000 t) r) with
            | false => rfl
            | true => rw [e] at h; exact absurd h (by decide)
          have h1 := (sp_ch_fix (E := pE P V) _ h0).1
          show sp_ch (pE P V) P.1 (sp_rd (pE P V) P.1 (sp_it (pE P V) (sp_in 1000000000 t) r)) = false
          rw [h1]
          exact h0
set_option maxHeartbeats 4000000 in
set_option maxRecDepth 100000 in
theorem c_fewestMinutes {ad : Nat → Nat} {g : St} {np : Nat} {P : PD} {V : VT} {o : Nat} (hG : GdP o) (hs : GsC g o np P V) {a t : Nat} (ha : a < 10) (ht : t < 10) : Ci 3 mX1_fewestMinutes [.ref o, .int (nI a), .int (nI t)] ad g (fun v g' => ∃ f, g' = upR g (o + 3) f ∧ (∀ x, x < 10 → f x = nI (kP P V FC t x)) ∧ v = (if kP P V FC t a < FC then nI (kP P V FC t a / 16) else -1)) := by
  obtain ⟨o1, o2, o3, t0, t1, t2, t3⟩ := id hG
  refine Cm.mk rfl (Nat.le_of_ble_eq_true rfl) (fun K hK hR hm hnn => ?_)
  refine r_aload_n (i := 0) hK dX1_fewestMinutes_0 rfl rfl ?_
  refine r_getA hK flX1_18 t0 rfl dX1_fewestMinutes_1 ?_
  refine r_ldc hK ckX1_111 dX1_fewestMinutes_4 ?_
  refine r_sv2 hK hnn (c_fill t3 (by decide)) moJ7_fill_53178 mlX1_112 dX1_fewestMinutes_6 (Nat.le_of_ble_eq_true rfl) (Nat.le_of_ble_eq_true rfl) (fun g6 q6 => ?_)
  obtain ⟨f6, rfl, hf6⟩ := q6
  refine r_aload_n (i := 0) hK dX1_fewestMinutes_9 rfl rfl ?_
  refine r_getA hK flX1_18 t0 rfl dX1_fewestMinutes_10 ?_
  refine r_iload_n (i := 2) hK dX1_fewestMinutes_13 rfl rfl ?_
  refine r_iconst (v := 0) hK dX1_fewestMinutes_14 (by decide) ?_
  refine r_sv3 hK hnn (c_ptE (i := nI t) t3 (by decide) rfl ht upR_upI) moX9_put mlX1_80 dX1_fewestMinutes_15 (Nat.le_of_ble_eq_true rfl) (Nat.le_of_ble_eq_true rfl) (eqV ?_)
  refine r_iconst (v := 1) hK dX1_fewestMinutes_18 (by decide) ?_
  refine r_istore_n (i := 3) hK hm dX1_fewestMinutes_19 rfl (by decide) ?_
  refine r_iconst (v := 0) hK dX1_fewestMinutes_20 (by decide) ?_
  refine r_istore (i := 4) hK hm dX1_fewestMinutes_21 (by decide) ?_
  refine r_loc ?_ (l_fO hG hs ha hK hm hnn hR 10 0 (by omega) (upd f6 t 0) 1 (fun x hx => ?_) (fun h => absurd h (by decide)))
  · rfl
  · show upd f6 t 0 x = nI (sp_in 1000000000 t x)
    unfold sp_in
    by_cases e : x = t
    · subst e; rw [upd_s, if_pos rfl]; rfl
    · rw [upd_n e, if_neg e, hf6 x hx]; rfl
