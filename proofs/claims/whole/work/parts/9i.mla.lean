/-! THE MODEL: land, walked -/
def ReQ (g : St) (R : CR) (g' : St) : Prop := PK g g' ∧ (R.2.1.1 ≠ 0 → g'.1 91 15 = nI R.2.1.2) ∧ (R.2.1.1 = 0 → g'.1 91 15 = g.1 91 15 ∧ MDr g' R.1)
theorem tL_0 {c : CT} {s : Nat} (h : c s = 999) : tL c s = 0 := by unfold tL; rw [if_pos h]
theorem tL_n0 {c : CT} {s : Nat} (h : ¬ c s = 999) : tL c s ≠ 0 := by
  unfold tL
  rw [if_neg h]
  have := (fdF_le (fun i => !gO c s i) 399 1).1
  omega
theorem rdS_e {c : CT} {m s : Nat} {A : DR} (h : c s = 999) : rdS c m A (0, 0) s = (A, (0, 0), s) := by
  cases m with
  | zero => rfl
  | succ m => exact if_neg (fun z => z.2 (tL_0 h))
set_option maxHeartbeats 4000000 in
set_option maxRecDepth 100000 in
theorem lm_rl {K : KT} {ad : Nat → Nat} {g0 : St} {n : Nat} {c : CT} {R : CR} (hK : Cx K RX10 cX10_land 6 ad) (hm : K.2.2.1.2.maxLocals = 3) (hnn : Nn K 0 0)
    (hQ : ∀ g', ReQ g0 R g' → Wp K 0 0 TT ad g' 46 [(0, .ref 91), (1, .int (nI R.2.1.1))] []) :
    ∀ m g (A : DR) s p, MTx g n c → p ≤ n → g.1 91 16 = nI p → sk c p = s → n - s ≤ m → PK g0 g → g.1 91 15 = g0.1 91 15 → MDr g A → rdS c m A (0, 0) s = R → Wp K 0 0 TT ad g 27 [(0, .ref 91), (1, .int 0)] [] := by
  intro m
  induction m using Nat.strongRecOn with
  | _ m ih =>
    intro g A s p hT hp hpo hps hms hpk h15 hM hRe
    have cb : ∀ i, c i < 256 ∨ c i = 999 := fun i => by rcases Nat.lt_or_ge i n with z | z; exact Or.inl (hT.1.2.1 i z); exact Or.inr (hT.1.2.2 i z)
    have hs : s ≤ n := by rw [← hps]; exact (sk_le hT.1 hp).2
    have hss : sk c s = s := by rw [← hps]; exact sk_id hT.1 hp
    refine r_iload_n (i := 1) hK dX10_land_27 rfl rfl ?_
    refine r_if_ne (tgt := 46) hK dX10_land_28 (by decide) (fun h => absurd rfl h) (fun _ => ?_)
    refine r_aload_n (i := 0) hK dX10_land_31 rfl rfl ?_
    refine r_ci0 hK hnn (c_mHere hT hp hpo) moX10_here mlX10_146 to_91 rfl rfl dX10_land_32 (Nat.le_of_ble_eq_true rfl) (Nat.le_of_ble_eq_true rfl) (fun v32 g32 q32 => ?_)
    obtain ⟨rfl, hq⟩ := q32
    rw [hps] at hq
    refine r_top (y := cI (c s)) (by rw [hps]) ?_
    refine r_if_lt (tgt := 46) hK dX10_land_35 (by decide) (fun h35 => ?_) (fun h35 => ?_)
    · have h9 : c s = 999 := ((cI_lt (k := 0) (cb s) (by decide)).mp h35).resolve_right (Nat.not_lt_zero _)
      have eR : R = (A, (0, 0), s) := by rw [← hRe, rdS_e h9]
      refine r_loc ?_ (hQ _ ⟨hpk.tr hq.pk, fun z => absurd (by rw [eR]) z, fun _ => ⟨(hq.2.1 15 (by decide)).trans h15, by rw [eR]; exact MDr_hq hM hq⟩⟩)
      rw [eR]
      rfl
    · refine r_aload_n (i := 0) hK dX10_land_38 rfl rfl ?_
      have hn9 : ¬ c s = 999 := fun z => h35 (by rw [z]; decide)
      have ht := tL_n0 hn9
      have hsn : s < n := by rcases Nat.lt_or_ge s n with z | z; exact z; exact absurd (hT.1.2.2 s z) hn9
      have h14 := hM.1.1
      refine r_ci0 hK hnn (c_mTakeClause (s := s) (MTx_p hT hq.pk) (MDr_hq hM hq) hq.2.2.2 hs hss) moX10_takeClause mlX10_226 to_91 rfl rfl dX10_land_39 (Nat.le_of_ble_eq_true rfl) (Nat.le_of_ble_eq_true rfl) (fun v39 g39 q39 => ?_)
      have hW := q39
      refine r_top (y := nI (clS c A (0, 0) s).2.1.1) hW.2.1 ?_
      refine r_istore_n (i := 1) hK hm dX10_land_42 rfl (by decide) ?_
      refine r_goto (tgt := 27) hK dX10_land_43 (by decide) ?_
      cases m with
      | zero => omega
      | succ m =>
        rw [rdS_s, if_pos ⟨rfl, ht⟩] at hRe
        by_cases hz : (clS c A (0, 0) s).2.1.1 = 0
        · have e0 := clS_00 hz
          obtain ⟨w1, ⟨p2, hp24, hp2, hsp2⟩, w3⟩ := hW.2.2.2 hz
          obtain ⟨l1, l2⟩ := clS_lt hT.1 hs h14 hz
          have hp2n : p2 ≤ n := by have := sk_ge c p2; omega
          rw [e0] at hRe
          refine r_loc ?_ (ih m (Nat.lt_succ_self m) _ (clS c A (0, 0) s).1 (clS c A (0, 0) s).2.2 p2 (MTx_p hT (hq.pk.tr hW.1)) hp2n hp2 hsp2 (by omega) (hpk.tr (hq.pk.tr hW.1)) (w1.trans ((hq.2.1 15 (by decide)).trans h15)) w3 hRe)
          rw [hz]
          rfl
        · rw [rdS_n hz] at hRe
          refine r_iload_n (i := 1) hK dX10_land_27 rfl rfl ?_
          refine r_if_ne (tgt := 46) hK dX10_land_28 (by decide) (fun _ => ?_) (fun h => absurd (nI_inj (by have := clS_ok (A := A) (F := (0, 0)) hT.1 hs h14 (by decide); omega) (by decide) h) hz)
          refine r_loc ?_ (hQ _ ⟨hpk.tr (hq.pk.tr hW.1), fun _ => by rw [← hRe]; exact hW.2.2.1 hz, fun z => absurd (by rw [← hRe] at z; exact z) hz⟩)
          rw [← hRe]
          rfl
def C14 (g0 : St) (w : Nat) (g : St) : Prop := (∀ j, j ≠ 92 → j ≠ 93 → j ≠ 94 → g.1 j = g0.1 j) ∧ g.2 = g0.2 ∧ ∀ i, i < w → g.1 92 i = g0.1 101 i ∧ g.1 93 i = g0.1 102 i ∧ g.1 94 i = g0.1 103 i
theorem C14_0 {g : St} : C14 g 0 g := ⟨fun _ _ _ _ => rfl, rfl, fun i h => absurd h (Nat.not_lt_zero i)⟩
theorem C14_s {g0 g : St} {w : Nat} (h : C14 g0 w g) : C14 g0 (w + 1) (upI (upI (upI g 92 w (g0.1 101 w)) 93 w (g0.1 102 w)) 94 w (g0.1 103 w)) := by
  obtain ⟨h1, h2, h3⟩ := h
  refine ⟨fun j a0 a1 a2 => (upI_n a2).trans ((upI_n a1).trans ((upI_n a0).trans (h1 j a0 a1 a2))), h2, fun i hi => ?_⟩
  have e0 : (upI (upI (upI g 92 w (g0.1 101 w)) 93 w (g0.1 102 w)) 94 w (g0.1 103 w)).1 92 = upd (g.1 92) w (g0.1 101 w) := by rw [upI_n (show (92 : Nat) ≠ 94 by decide), upI_n (show (92 : Nat) ≠ 93 by decide), upI_s]
  have e1 : (upI (upI (upI g 92 w (g0.1 101 w)) 93 w (g0.1 102 w)) 94 w (g0.1 103 w)).1 93 = upd (g.1 93) w (g0.1 102 w) := by rw [upI_n (show (93 : Nat) ≠ 94 by decide), upI_s, upI_n (show (93 : Nat) ≠ 92 by decide)]
  have e2 : (upI (upI (upI g 92 w (g0.1 101 w)) 93 w (g0.1 102 w)) 94 w (g0.1 103 w)).1 94 = upd (g.1 94) w (g0.1 103 w) := by rw [upI_s, upI_n (show (94 : Nat) ≠ 93 by decide), upI_n (show (94 : Nat) ≠ 92 by decide)]
  rw [e0, e1, e2]
  by_cases e : i = w
  · subst e; exact ⟨upd_s, upd_s, upd_s⟩
  · obtain ⟨b0, b1, b2⟩ := h3 i (by omega)
    exact ⟨(upd_e e).trans b0, (upd_e e).trans b1, (upd_e e).trans b2⟩
def C6 (g0 : St) (w : Nat) (g : St) : Prop := (∀ j, j ≠ 95 → j ≠ 96 → j ≠ 97 → j ≠ 98 → j ≠ 99 → g.1 j = g0.1 j) ∧ g.2 = g0.2 ∧ ∀ i, i < w → g.1 95 i = g0.1 104 i ∧ g.1 96 i = g0.1 105 i ∧ g.1 97 i = g0.1 106 i ∧ g.1 98 i = g0.1 107 i ∧ g.1 99 i = g0.1 108 i
theorem C6_0 {g : St} : C6 g 0 g := ⟨fun _ _ _ _ _ _ => rfl, rfl, fun i h => absurd h (Nat.not_lt_zero i)⟩
theorem C6_s {g0 g : St} {w : Nat} (h : C6 g0 w g) : C6 g0 (w + 1) (upI (upI (upI (upI (upI g 95 w (g0.1 104 w)) 96 w (g0.1 105 w)) 97 w (g0.1 106 w)) 98 w (g0.1 107 w)) 99 w (g0.1 108 w)) := by
  obtain ⟨h1, h2, h3⟩ := h
  refine ⟨fun j a0 a1 a2 a3 a4 => (upI_n a4).trans ((upI_n a3).trans ((upI_n a2).trans ((upI_n a1).trans ((upI_n a0).trans (h1 j a0 a1 a2 a3 a4))))), h2, fun i hi => ?_⟩
  have e0 : (upI (upI (upI (upI (upI g 95 w (g0.1 104 w)) 96 w (g0.1 105 w)) 97 w (g0.1 106 w)) 98 w (g0.1 107 w)) 99 w (g0.1 108 w)).1 95 = upd (g.1 95) w (g0.1 104 w) := by rw [upI_n (show (95 : Nat) ≠ 99 by decide), upI_n (show (95 : Nat) ≠ 98 by decide), upI_n (show (95 : Nat) ≠ 97 by decide), upI_n (show (95 : Nat) ≠ 96 by decide), upI_s]
  have e1 : (upI (upI (upI (upI (upI g 95 w (g0.1 104 w)) 96 w (g0.1 105 w)) 97 w (g0.1 106 w)) 98 w (g0.1 107 w)) 99 w (g0.1 108 w)).1 96 = upd (g.1 96) w (g0.1 105 w) := by rw [upI_n (show (96 : Nat) ≠ 99 by decide), upI_n (show (96 : Nat) ≠ 98 by decide), upI_n (show (96 : Nat) ≠ 97 by decide), upI_s, upI_n (show (96 : Nat) ≠ 95 by decide)]
  have e2 : (upI (upI (upI (upI (upI g 95 w (g0.1 104 w)) 96 w (g0.1 105 w)) 97 w (g0.1 106 w)) 98 w (g0.1 107 w)) 99 w (g0.1 108 w)).1 97 = upd (g.1 97) w (g0.1 106 w) := by rw [upI_n (show (97 : Nat) ≠ 99 by decide), upI_n (show (97 : Nat) ≠ 98 by decide), upI_s, upI_n (show (97 : Nat) ≠ 96 by decide), upI_n (show (97 : Nat) ≠ 95 by decide)]
  have e3 : (upI (upI (upI (upI (upI g 95 w (g0.1 104 w)) 96 w (g0.1 105 w)) 97 w (g0.1 106 w)) 98 w (g0.1 107 w)) 99 w (g0.1 108 w)).1 98 = upd (g.1 98) w (g0.1 107 w) := by rw [upI_n (show (98 : Nat) ≠ 99 by decide), upI_s, upI_n (show (98 : Nat) ≠ 97 by decide), upI_n (show (98 : Nat) ≠ 96 by decide), upI_n (show (98 : Nat) ≠ 95 by decide)]
  have e4 : (upI (upI (upI (upI (upI g 95 w (g0.1 104 w)) 96 w (g0.1 105 w)) 97 w (g0.1 106 w)) 98 w (g0.1 107 w)) 99 w (g0.1 108 w)).1 99 = upd (g.1 99) w (g0.1 108 w) := by rw [upI_s, upI_n (show (99 : Nat) ≠ 98 by decide), upI_n (show (99 : Nat) ≠ 97 by decide), upI_n (show (99 : Nat) ≠ 96 by decide), upI_n (show (99 : Nat) ≠ 95 by decide)]
  rw [e0, e1, e2, e3, e4]
  by_cases e : i = w
  · subst e; exact ⟨upd_s, upd_s, upd_s, upd_s, upd_s⟩
  · obtain ⟨b0, b1, b2, b3, b4⟩ := h3 i (by omega)
    exact ⟨(upd_e e).trans b0, (upd_e e).trans b1, (upd_e e).trans b2, (upd_e e).trans b3, (upd_e e).trans b4⟩
set_option maxHeartbeats 4000000 in
set_option maxRecDepth 100000 in
theorem lm_c14 {K : KT} {ad : Nat → Nat} {g0 : St} {y : Int32} (hK : Cx K RX10 cX10_land 6 ad) (hm : K.2.2.1.2.maxLocals = 3) (hnn : Nn K 0 0)
    (hQ : ∀ g, C14 g0 14 g → Wp K 0 0 TT ad g 134 [(0, .ref 91), (1, .int y), (2, .int (nI 14))] []) :
    ∀ m w, w + m = 14 → ∀ g, C14 g0 w g → Wp K 0 0 TT ad g 86 [(0, .ref 91), (1, .int y), (2, .int (nI w))] [] := by
  intro m
  induction m with
  | zero =>
    intro w hwm g hC
    have e : w = 14 := by omega
    subst e
    refine r_iload_n (i := 2) hK dX10_land_86 rfl rfl ?_
    refine r_bipush (v := 14) hK dX10_land_87 (by decide) ?_
    refine r_icmp_ge (tgt := 134) hK dX10_land_89 (by decide) (fun _ => ?_) (fun h => absurd (by decide) h)
    exact hQ g hC
  | succ m ih =>
    intro w hwm g hC
    have hw : w < 14 := by omega
    refine r_iload_n (i := 2) hK dX10_land_86 rfl rfl ?_
    refine r_bipush (v := 14) hK dX10_land_87 (by decide) ?_
    refine r_icmp_ge (tgt := 134) hK dX10_land_89 (by decide) (fun h => absurd h (nI_ge hw (by decide))) (fun _ => ?_)
    refine r_aload_n (i := 0) hK dX10_land_92 rfl rfl ?_
    refine r_getA hK flX10_7 to_91 rfl dX10_land_93 ?_
    refine r_iload_n (i := 2) hK dX10_land_96 rfl rfl ?_
    refine r_aload_n (i := 0) hK dX10_land_97 rfl rfl ?_
    refine r_getA hK flX10_41 to_91 rfl dX10_land_98 ?_
    refine r_iload_n (i := 2) hK dX10_land_101 rfl rfl ?_
    refine r_ialN hK to_101 rfl (by omega) (by decide) (congrFun (hC.1 101 (by decide) (by decide) (by decide)) _) dX10_land_102 ?_
    refine r_iasN hK to_92 rfl (by omega) (by decide) dX10_land_103 ?_
    refine r_aload_n (i := 0) hK dX10_land_104 rfl rfl ?_
    refine r_getA hK flX10_13 to_91 rfl dX10_land_105 ?_
    refine r_iload_n (i := 2) hK dX10_land_108 rfl rfl ?_
    refine r_aload_n (i := 0) hK dX10_land_109 rfl rfl ?_
    refine r_getA hK flX10_44 to_91 rfl dX10_land_110 ?_
    refine r_iload_n (i := 2) hK dX10_land_113 rfl rfl ?_
    refine r_ialN hK to_102 rfl (by omega) (by decide) ((congrFun (upI_n (by decide)) _).trans (congrFun (hC.1 102 (by decide) (by decide) (by decide)) _)) dX10_land_114 ?_
    refine r_iasN hK to_93 rfl (by omega) (by decide) dX10_land_115 ?_
    refine r_aload_n (i := 0) hK dX10_land_116 rfl rfl ?_
    refine r_getA hK flX10_16 to_91 rfl dX10_land_117 ?_
    refine r_iload_n (i := 2) hK dX10_land_120 rfl rfl ?_
    refine r_aload_n (i := 0) hK dX10_land_121 rfl rfl ?_
    refine r_getA hK flX10_47 to_91 rfl dX10_land_122 ?_
    refine r_iload_n (i := 2) hK dX10_land_125 rfl rfl ?_
    refine r_ialN hK to_103 rfl (by omega) (by decide) ((congrFun (upI_n (by decide)) _).trans ((congrFun (upI_n (by decide)) _).trans (congrFun (hC.1 103 (by decide) (by decide) (by decide)) _))) dX10_land_126 ?_
    refine r_iasN hK to_94 rfl (by omega) (by decide) dX10_land_127 ?_
    refine r_iincN (i := 2) hK hm dX10_land_128 rfl (by decide) ?_
    refine r_goto (tgt := 86) hK dX10_land_131 (by decide) ?_
    refine r_loc ?_ (ih (w + 1) (by omega) _ (C14_s hC))
    rfl
set_option maxHeartbeats 4000000 in
set_option maxRecDepth 100000 in
theorem lm_c6 {K : KT} {ad : Nat → Nat} {g0 : St} {y : Int32} (hK : Cx K RX10 cX10_land 6 ad) (hm : K.2.2.1.2.maxLocals = 3) (hnn : Nn K 0 0)
    (hQ : ∀ g, C6 g0 6 g → Wp K 0 0 TT ad g 208 [(0, .ref 91), (1, .int y), (2, .int (nI 6))] []) :
    ∀ m w, w + m = 6 → ∀ g, C6 g0 w g → Wp K 0 0 TT ad g 136 [(0, .ref 91), (1, .int y), (2, .int (nI w))] [] := by
  intro m
  induction m with
  | zero =>
    intro w hwm g hC
    have e : w = 6 := by omega
    subst e
    refine r_iload_n (i := 2) hK dX10_land_136 rfl rfl ?_
    refine r_bipush (v := 6) hK dX10_land_137 (by decide) ?_
    refine r_icmp_ge (tgt := 208) hK dX10_land_139 (by decide) (fun _ => ?_) (fun h => absurd (by decide) h)
    exact hQ g hC
  | succ m ih =>
    intro w hwm g hC
    have hw : w < 6 := by omega
    refine r_iload_n (i := 2) hK dX10_land_136 rfl rfl ?_
    refine r_bipush (v := 6) hK dX10_land_137 (by decide) ?_
    refine r_icmp_ge (tgt := 208) hK dX10_land_139 (by decide) (fun h => absurd h (nI_ge hw (by decide))) (fun _ => ?_)
    refine r_aload_n (i := 0) hK dX10_land_142 rfl rfl ?_
    refine r_getA hK flX10_19 to_91 rfl dX10_land_143 ?_
    refine r_iload_n (i := 2) hK dX10_land_146 rfl rfl ?_
    refine r_aload_n (i := 0) hK dX10_land_147 rfl rfl ?_
    refine r_getA hK flX10_50 to_91 rfl dX10_land_148 ?_
    refine r_iload_n (i := 2) hK dX10_land_151 rfl rfl ?_
    refine r_ialN hK to_104 rfl (by omega) (by decide) (congrFun (hC.1 104 (by decide) (by decide) (by decide) (by decide) (by decide)) _) dX10_land_152 ?_
    refine r_iasN hK to_95 rfl (by omega) (by decide) dX10_land_153 ?_
    refine r_aload_n (i := 0) hK dX10_land_154 rfl rfl ?_
    refine r_getA hK flX10_22 to_91 rfl dX10_land_155 ?_
    refine r_iload_n (i := 2) hK dX10_land_158 rfl rfl ?_
    refine r_aload_n (i := 0) hK dX10_land_159 rfl rfl ?_
    refine r_getA hK flX10_53 to_91 rfl dX10_land_160 ?_
    refine r_iload_n (i := 2) hK dX10_land_163 rfl rfl ?_
    refine r_ialN hK to_105 rfl (by omega) (by decide) ((congrFun (upI_n (by decide)) _).trans (congrFun (hC.1 105 (by decide) (by decide) (by decide) (by decide) (by decide)) _)) dX10_land_164 ?_
    refine r_iasN hK to_96 rfl (by omega) (by decide) dX10_land_165 ?_
    refine r_aload_n (i := 0) hK dX10_land_166 rfl rfl ?_
    refine r_getA hK flX10_25 to_91 rfl dX10_land_167 ?_
    refine r_iload_n (i := 2) hK dX10_land_170 rfl rfl ?_
    refine r_aload_n (i := 0) hK dX10_land_171 rfl rfl ?_
    refine r_getA hK flX10_56 to_91 rfl dX10_land_172 ?_
    refine r_iload_n (i := 2) hK dX10_land_175 rfl rfl ?_
    refine r_ialN hK to_106 rfl (by omega) (by decide) ((congrFun (upI_n (by decide)) _).trans ((congrFun (upI_n (by decide)) _).trans (congrFun (hC.1 106 (by decide) (by decide) (by decide) (by decide) (by decide)) _))) dX10_land_176 ?_
    refine r_iasN hK to_97 rfl (by omega) (by decide) dX10_land_177 ?_
    refine r_aload_n (i := 0) hK dX10_land_178 rfl rfl ?_
    refine r_getA hK flX10_28 to_91 rfl dX10_land_179 ?_
    refine r_iload_n (i := 2) hK dX10_land_182 rfl rfl ?_
    refine r_aload_n (i := 0) hK dX10_land_183 rfl rfl ?_
    refine r_getA hK flX10_59 to_91 rfl dX10_land_184 ?_
    refine r_iload_n (i := 2) hK dX10_land_187 rfl rfl ?_
    refine r_ialN hK to_107 rfl (by omega) (by decide) ((congrFun (upI_n (by decide)) _).trans ((congrFun (upI_n (by decide)) _).trans ((congrFun (upI_n (by decide)) _).trans (congrFun (hC.1 107 (by decide) (by decide) (by decide) (by decide) (by decide)) _)))) dX10_land_188 ?_
    refine r_iasN hK to_98 rfl (by omega) (by decide) dX10_land_189 ?_
    refine r_aload_n (i := 0) hK dX10_land_190 rfl rfl ?_
    refine r_getA hK flX10_31 to_91 rfl dX10_land_191 ?_
    refine r_iload_n (i := 2) hK dX10_land_194 rfl rfl ?_
    refine r_aload_n (i := 0) hK dX10_land_195 rfl rfl ?_
    refine r_getA hK flX10_62 to_91 rfl dX10_land_196 ?_
    refine r_iload_n (i := 2) hK dX10_land_199 rfl rfl ?_
    refine r_ialN hK to_108 rfl (by omega) (by decide) ((congrFun (upI_n (by decide)) _).trans ((congrFun (upI_n (by decide)) _).trans ((congrFun (upI_n (by decide)) _).trans ((congrFun (upI_n (by decide)) _).trans (congrFun (hC.1 108 (by decide) (by decide) (by decide) (by decide) (by decide)) _))))) dX10_land_200 ?_
    refine r_iasN hK to_99 rfl (by omega) (by decide) dX10_land_201 ?_
    refine r_iincN (i := 2) hK hm dX10_land_202 rfl (by decide) ?_
    refine r_goto (tgt := 136) hK dX10_land_205 (by decide) ?_
    refine r_loc ?_ (ih (w + 1) (by omega) _ (C6_s hC))
    rfl
def LmQ (g : St) (X : LN) (c : CT) (v : Int32) (g' : St) : Prop :=
  v = aLnd c ∧ MC g' (sLnd c X) ∧ g'.1 91 14 = 0 ∧ g'.1 91 15 = fI (rdR c).2.1 ∧ (∀ j, (j ≤ 90 ∨ 109 ≤ j) → j ≠ 126 → g'.1 j = g.1 j) ∧ g'.1 91 12 = g.1 91 12 ∧ if (rdR c).2.1.1 = 0 then g'.1 91 47 = 0 ∧ g'.1 91 50 = 0 ∧ g'.1 126 0 = 0 ∧ g'.1 126 1 = 0 else g'.1 91 47 = g.1 91 47 ∧ g'.1 91 50 = g.1 91 50 ∧ g'.1 126 = g.1 126
theorem MC_pk {g g' : St} {X : LN} (h : MC g X) (hj : ∀ j, 92 ≤ j → j ≤ 99 → g'.1 j = g.1 j) (hk : ∀ k, k = 0 ∨ k = 1 ∨ k = 5 ∨ k = 11 → g'.1 91 k = g.1 91 k) : MC g' X := by
  obtain ⟨h1, h2, h3, h4, h5, h6, h7⟩ := h
  refine ⟨h1, h2, h3, (hk 0 (by decide)).trans h4, ?_, ?_, (hk 11 (by decide)).trans h7⟩
  · unfold MWC at *
    rw [hk 1 (by decide), hj 92 (by decide) (by decide), hj 93 (by decide) (by decide), hj 94 (by decide) (by decide)]; exact h5
  · unfold MPC at *
    rw [hk 5 (by decide), hj 95 (by decide) (by decide), hj 96 (by decide) (by decide), hj 97 (by decide) (by decide), hj 98 (by decide) (by decide), hj 99 (by decide) (by decide)]; exact h6
theorem LmQ_bad {g g0 g' : St} {X : LN} {c : CT} {v x : Int32} (hX : MC g X) (h0 : PK g g0) (hR : ReQ g0 (rdR c) g') (hz : ¬ (rdR c).2.1.1 = 0) (hv : v = -10 - nI (rdR c).2.1.1) (hx : x = 0) : LmQ g X c v (upI g' 91 14 x) := by
  subst hx
  have hp := h0.tr hR.1
  have e : sLnd c X = X := if_neg hz
  refine ⟨hv.trans (if_neg hz).symm, ?_, by rw [upI_s, upd_s], ?_, fun j a b => (upI_n (by omega)).trans (hp.1 j (by omega) (by omega)), (upd_n2 (by decide)).trans (hp.2.1 12 (by decide) (by decide)), ?_⟩
  · rw [e]
    exact MC_pk hX (fun j a b => (upI_n (by omega)).trans (hp.1 j (by omega) (by omega))) (fun k hk => (upd_n2 (by omega)).trans (hp.2.1 k (by omega) (by omega)))
  · exact (upd_n2 (by decide)).trans ((hR.2.1 hz).trans (if_neg hz).symm)
  · rw [if_neg hz]
    exact ⟨(upd_n2 (by decide)).trans (hp.2.1 47 (by decide) (by decide)), (upd_n2 (by decide)).trans (hp.2.1 50 (by decide) (by decide)), (upI_n (by decide)).trans (hp.1 126 (by decide) (by decide))⟩
theorem LmQ_ok {g g0 g1 g2 g3 g4 g5 : St} {X : LN} {c : CT} (hX : MC g X) (h0 : PK g g0) (h15 : g0.1 91 15 = -1) (hR : ReQ g0 (rdR c) g1) (hz : (rdR c).2.1.1 = 0) (h2 : g2 = upI (upI (upI (upI g1 91 14 0) 91 0 (nI (rdR c).1.1)) 91 1 (nI (rdR c).1.2.1.1)) 91 5 (nI (rdR c).1.2.2.1.1)) (h3 : C14 g2 14 g3) (h4 : C6 g3 6 g4) (h5 : g5 = upI (upI (upI (upI g4 91 50 0) 91 47 0) 126 0 0) 126 1 0) : LmQ g X c (nI (rdR c).1.1) g5 := by
  obtain ⟨r15, hM⟩ := hR.2.2 hz
  have hp := h0.tr hR.1
  obtain ⟨m1, m2, m3, ⟨m4, m5⟩, m6, m7⟩ := hM
  have e : sLnd c X = mkX (rdR c).1 X.2.2.2.2.2 := if_pos hz
  have w14 := m1.1
  have p6 := m2.1
  have f91 : g5.1 91 = upd (upd (upd (upd (upd (upd (g1.1 91) 14 0) 0 (nI (rdR c).1.1)) 1 (nI (rdR c).1.2.1.1)) 5 (nI (rdR c).1.2.2.1.1)) 50 0) 47 0 := by
    rw [h5, upI_n (by decide), upI_n (by decide), upI_s, upI_s, h4.1 91 (by decide) (by decide) (by decide) (by decide) (by decide), h3.1 91 (by decide) (by decide) (by decide), h2, upI_s, upI_s, upI_s, upI_s]
  have q91 : ∀ k, k ≠ 14 → k ≠ 0 → k ≠ 1 → k ≠ 5 → k ≠ 50 → k ≠ 47 → g5.1 91 k = g1.1 91 k := fun k a b d e2 f h => by rw [f91, upd_e h, upd_e f, upd_e e2, upd_e d, upd_e b, upd_e a]
  have q4 : ∀ j, j ≠ 91 → j ≠ 126 → g5.1 j = g4.1 j := fun j a b => by rw [h5, upI_n b, upI_n b, upI_n a, upI_n a]
  have q2 : ∀ j, j ≠ 91 → g2.1 j = g1.1 j := fun j a => by rw [h2, upI_n a, upI_n a, upI_n a, upI_n a]
  refine ⟨(if_pos hz).symm, ?_, ?_, ?_, fun j a b => ?_, ?_, ?_⟩
  · rw [e]
    obtain ⟨x1, x2, x3, x4, x5, x6, x7⟩ := hX
    refine ⟨m1, m2, x3, ?_, ⟨?_, fun w hw => ?_⟩, ⟨?_, fun p hp9 => ?_⟩, ?_⟩
    · rw [f91, upd_e (by decide), upd_e (by decide), upd_e (by decide), upd_e (by decide), upd_s]; rfl
    · rw [f91, upd_e (by decide), upd_e (by decide), upd_e (by decide), upd_s]; rfl
    · obtain ⟨a1, a2, a3⟩ := m5 w hw
      obtain ⟨b1, b2, b3⟩ := h3.2.2 w (by have : w < (rdR c).1.2.1.1 := hw; omega)
      have t : ∀ j, 92 ≤ j → j ≤ 94 → g5.1 j = g3.1 j := fun j a b => (q4 j (by omega) (by omega)).trans (h4.1 j (by omega) (by omega) (by omega) (by omega) (by omega))
      rw [t 92 (by decide) (by decide), t 93 (by decide) (by decide), t 94 (by decide) (by decide), b1, b2, b3, q2 101 (by decide), q2 102 (by decide), q2 103 (by decide)]
      exact ⟨a1, a2, a3⟩
    · rw [f91, upd_e (by decide), upd_e (by decide), upd_s]; rfl
    · obtain ⟨a1, a2, a3, a4, a5⟩ := m7 p hp9
      obtain ⟨b1, b2, b3, b4, b5⟩ := h4.2.2 p (by have : p < (rdR c).1.2.2.1.1 := hp9; omega)
      have t : ∀ j, 104 ≤ j → j ≤ 108 → g3.1 j = g1.1 j := fun j a b => (h3.1 j (by omega) (by omega) (by omega)).trans (q2 j (by omega))
      rw [q4 95 (by decide) (by decide), q4 96 (by decide) (by decide), q4 97 (by decide) (by decide), q4 98 (by decide) (by decide), q4 99 (by decide) (by decide), b1, b2, b3, b4, b5, t 104 (by decide) (by decide), t 105 (by decide) (by decide), t 106 (by decide) (by decide), t 107 (by decide) (by decide), t 108 (by decide) (by decide)]
      exact ⟨a1, a2, a3, a4, a5⟩
    · exact (q91 11 (by decide) (by decide) (by decide) (by decide) (by decide) (by decide)).trans ((hp.2.1 11 (by decide) (by decide)).trans x7)
  · rw [f91, upd_e (by decide), upd_e (by decide), upd_e (by decide), upd_e (by decide), upd_e (by decide), upd_s]
  · rw [q91 15 (by decide) (by decide) (by decide) (by decide) (by decide) (by decide), r15, h15]
    exact (if_pos hz).symm
  · rw [q4 j (by omega) b, h4.1 j (by omega) (by omega) (by omega) (by omega) (by omega), h3.1 j (by omega) (by omega) (by omega), q2 j (by omega)]
    exact hp.1 j (by omega) (by omega)
  · rw [q91 12 (by decide) (by decide) (by decide) (by decide) (by decide) (by decide)]; exact hp.2.1 12 (by decide) (by decide)
  · rw [if_pos hz]
    refine ⟨?_, ?_, ?_, ?_⟩
    · rw [f91, upd_s]
    · rw [f91, upd_e (by decide), upd_s]
    · rw [h5, upd_n2 (by decide), upI_s, upd_s]
    · rw [h5, upI_s, upd_s]
theorem MDr_0 {g : St} {x y z : Int32} (h1 : x = 0) (h2 : y = 0) (h3 : z = 0) : MDr (upI (upI (upI g 91 21 x) 91 22 y) 91 26 z) A0 := by
  subst h1 h2 h3
  refine ⟨⟨Nat.zero_le _, Nat.zero_le _, fun w hw => absurd hw (Nat.not_lt_zero _)⟩, ⟨Nat.zero_le _, fun w hw => absurd hw (Nat.not_lt_zero _)⟩, ?_, ⟨?_, fun w hw => absurd hw (Nat.not_lt_zero _)⟩, ?_, fun w hw => absurd hw (Nat.not_lt_zero _)⟩
  · rw [upd_n2 (by decide), upd_n2 (by decide), upI_s, upd_s]; rfl
  · rw [upd_n2 (by decide), upI_s, upd_s]; rfl
  · rw [upI_s, upd_s]; rfl

set_option maxHeartbeats 4000000 in
set_option maxRecDepth 100000 in
theorem c_mLand {ad : Nat → Nat} {g : St} {X : LN} (hX : MC g X) {n : Nat} {c : CT} (hT : MTx g n c) : Ci 6 mX10_land [.ref 91] ad g (fun v g' => LmQ g X c v g') := by
  refine Cm.mk rfl (Nat.le_of_ble_eq_true rfl) (fun K hK hR hm hnn => ?_)
  refine r_aload_n (i := 0) hK dX10_land_0 rfl rfl ?_
  refine r_iconst (v := (-1)) hK dX10_land_1 (by decide) ?_
  refine r_putI hK flX10_37 ft10_15 to_91 rfl dX10_land_2 ?_
  refine r_aload_n (i := 0) hK dX10_land_5 rfl rfl ?_
  refine r_iconst (v := 0) hK dX10_land_6 (by decide) ?_
  refine r_putI hK flX10_143 ft10_16 to_91 rfl dX10_land_7 ?_
  refine r_aload_n (i := 0) hK dX10_land_10 rfl rfl ?_
  refine r_iconst (v := 0) hK dX10_land_11 (by decide) ?_
  refine r_putI hK flX10_189 ft10_21 to_91 rfl dX10_land_12 ?_
  refine r_aload_n (i := 0) hK dX10_land_15 rfl rfl ?_
  refine r_iconst (v := 0) hK dX10_land_16 (by decide) ?_
  refine r_putI hK flX10_186 ft10_22 to_91 rfl dX10_land_17 ?_
  refine r_aload_n (i := 0) hK dX10_land_20 rfl rfl ?_
  refine r_iconst (v := 0) hK dX10_land_21 (by decide) ?_
  refine r_putI hK flX10_207 ft10_26 to_91 rfl dX10_land_22 ?_
  refine r_iconst (v := 0) hK dX10_land_25 (by decide) ?_
  refine r_istore_n (i := 1) hK hm dX10_land_26 rfl (by decide) ?_
  have hpk0 : PK g (upI (upI (upI (upI (upI g 91 15 (-1)) 91 16 0) 91 21 0) 91 22 0) 91 26 0) := ((((PK.rf.fl (by omega)).fl (by omega)).fl (by omega)).fl (by omega)).fl (by omega)
  have h015 : (upI (upI (upI (upI (upI g 91 15 (-1)) 91 16 0) 91 21 0) 91 22 0) 91 26 0).1 91 15 = -1 := by rw [upd_n2 (by decide), upd_n2 (by decide), upd_n2 (by decide), upd_n2 (by decide), upI_s, upd_s]
  have h016 : (upI (upI (upI (upI (upI g 91 15 (-1)) 91 16 0) 91 21 0) 91 22 0) 91 26 0).1 91 16 = nI 0 := by rw [upd_n2 (by decide), upd_n2 (by decide), upd_n2 (by decide), upI_s, upd_s]; rfl
  refine r_loc ?_ (lm_rl (R := rdR c) hK hm hnn ?_ 400 (upI (upI (upI (upI (upI g 91 15 (-1)) 91 16 0) 91 21 0) 91 22 0) 91 26 0) A0 (sk c 0) 0 (MTx_p hT hpk0) (Nat.zero_le _) h016 rfl (by have := hT.1.1; omega) PK.rf rfl (MDr_0 rfl rfl rfl) rfl)
  · rfl
  intro g1 hRe
  refine r_aload_n (i := 0) hK dX10_land_46 rfl rfl ?_
  refine r_iconst (v := 0) hK dX10_land_47 (by decide) ?_
  refine r_putI hK flX10_137 ft10_14 to_91 rfl dX10_land_48 ?_
  refine r_iload_n (i := 1) hK dX10_land_51 rfl rfl ?_
  refine r_if_le (tgt := 60) hK dX10_land_52 (by decide) (fun h52 => ?_) (fun h52 => ?_)
  · refine r_aload_n (i := 0) hK dX10_land_60 rfl rfl ?_
    have hz : (rdR c).2.1.1 = 0 := hzz (rdR_4 hT.1) h52
    have hMd := (hRe.2.2 hz).2
    refine r_aload_n (i := 0) hK dX10_land_61 rfl rfl ?_
    refine r_getI hK flX10_189 to_91 rfl dX10_land_62 ?_
    refine r_top (y := nI (rdR c).1.1) ((upd_n2 (by decide)).trans hMd.2.2.1) ?_
    refine r_putI hK flX10_121 ft10_0 to_91 rfl dX10_land_65 ?_
    refine r_aload_n (i := 0) hK dX10_land_68 rfl rfl ?_
    refine r_aload_n (i := 0) hK dX10_land_69 rfl rfl ?_
    refine r_getI hK flX10_186 to_91 rfl dX10_land_70 ?_
    refine r_top (y := nI (rdR c).1.2.1.1) ((upd_n2 (by decide)).trans ((upd_n2 (by decide)).trans hMd.2.2.2.1.1)) ?_
    refine r_putI hK flX10_128 ft10_1 to_91 rfl dX10_land_73 ?_
    refine r_aload_n (i := 0) hK dX10_land_76 rfl rfl ?_
    refine r_aload_n (i := 0) hK dX10_land_77 rfl rfl ?_
    refine r_getI hK flX10_207 to_91 rfl dX10_land_78 ?_
    refine r_top (y := nI (rdR c).1.2.2.1.1) ((upd_n2 (by decide)).trans ((upd_n2 (by decide)).trans ((upd_n2 (by decide)).trans hMd.2.2.2.2.1))) ?_
    refine r_putI hK flX10_131 ft10_5 to_91 rfl dX10_land_81 ?_
    refine r_iconst (v := 0) hK dX10_land_84 (by decide) ?_
    refine r_istore_n (i := 2) hK hm dX10_land_85 rfl (by decide) ?_
    refine r_loc ?_ (lm_c14 (y := nI (rdR c).2.1.1) hK hm hnn ?_ 14 0 rfl _ C14_0)
    · rfl
    intro g3 hC3
    refine r_iconst (v := 0) hK dX10_land_134 (by decide) ?_
    refine r_istore_n (i := 2) hK hm dX10_land_135 rfl (by decide) ?_
    refine r_loc ?_ (lm_c6 (y := nI (rdR c).2.1.1) hK hm hnn ?_ 6 0 rfl _ C6_0)
    · rfl
    intro g4 hC4
    refine r_aload_n (i := 0) hK dX10_land_208 rfl rfl ?_
    refine r_iconst (v := 0) hK dX10_land_209 (by decide) ?_
    refine r_putI hK flX10_229 ft10_50 to_91 rfl dX10_land_210 ?_
    refine r_aload_n (i := 0) hK dX10_land_213 rfl rfl ?_
    refine r_iconst (v := 0) hK dX10_land_214 (by decide) ?_
    refine r_putI hK flX10_232 ft10_47 to_91 rfl dX10_land_215 ?_
    refine r_aload_n (i := 0) hK dX10_land_218 rfl rfl ?_
    refine r_getA hK flX10_117 to_91 rfl dX10_land_219 ?_
    refine r_iconst (v := 0) hK dX10_land_222 (by decide) ?_
    refine r_iconst (v := 0) hK dX10_land_223 (by decide) ?_
    refine r_zasN hK to_126 rfl (by decide) (by decide) rfl dX10_land_224 ?_
    refine r_aload_n (i := 0) hK dX10_land_225 rfl rfl ?_
    refine r_getA hK flX10_117 to_91 rfl dX10_land_226 ?_
    refine r_iconst (v := 1) hK dX10_land_229 (by decide) ?_
    refine r_iconst (v := 0) hK dX10_land_230 (by decide) ?_
    refine r_zasN hK to_126 rfl (by decide) (by decide) rfl dX10_land_231 ?_
    refine r_aload_n (i := 0) hK dX10_land_232 rfl rfl ?_
    refine r_getI hK flX10_121 to_91 rfl dX10_land_233 ?_
    refine r_top (y := nI (rdR c).1.1) ?_ ?_
    · rw [upI_n (by decide), upI_n (by decide), upd_n2 (by decide), upd_n2 (by decide), hC4.1 91 (by decide) (by decide) (by decide) (by decide) (by decide), hC3.1 91 (by decide) (by decide) (by decide), upd_n2 (by decide), upd_n2 (by decide), upI_s, upd_s]
    refine q_iret hK hR dX10_land_236 ?_
    exact LmQ_ok hX hpk0 h015 hRe hz rfl hC3 hC4 rfl
  · refine r_bipush (v := (-10)) hK dX10_land_55 (by decide) ?_
    refine r_iload_n (i := 1) hK dX10_land_57 rfl rfl ?_
    refine r_isub hK dX10_land_58 ?_
    refine q_iret hK hR dX10_land_59 ?_
    have hz9 : ¬ (rdR c).2.1.1 = 0 := fun z => h52 (by rw [z]; decide)
    exact LmQ_bad hX hpk0 hRe hz9 rfl rfl
