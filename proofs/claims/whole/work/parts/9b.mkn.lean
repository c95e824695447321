/-! THE MODEL: what a person knows -/
def HK (c : CT) (g : St) (k set p : Nat) (g' : St) : Prop := (∀ j, j ≠ 91 → j ≠ 108 → g'.1 j = g.1 j) ∧ g'.1 108 = upd (g.1 108) k (nI set) ∧ (∀ q, (q < 16 ∨ 20 < q) → g'.1 91 q = g.1 91 q) ∧ (∀ j q, ¬ (j = 91 ∧ q = 17) → g'.2 j q = g.2 j q) ∧ g'.1 91 16 = nI p
theorem HK.pk {c : CT} {g g' : St} {k set p : Nat} (h : HK c g k set p g') : PK g g' := ⟨fun j a b => h.1 j a (by omega), fun q a b => h.2.2.1 q (by omega), h.2.2.2.1⟩
theorem sk_id {n : Nat} {c : CT} (hT : tOk n c) {p : Nat} (hp : p ≤ n) : sk c (sk c p) = sk c p := by
  obtain ⟨h1, h2⟩ := sk_le hT hp
  obtain ⟨h3, h4⟩ := sk_le hT h2
  refine Nat.le_antisymm (Nat.le_of_not_lt (fun z => ?_)) h3
  exact sk_at hT hp (sk_32 (Nat.le_refl _) z)
theorem sgn_c {c : CT} {s k : Nat} (hk : k = 44 ∨ k = 59) : sgn c s k = true ↔ c s = k := by
  unfold sgn
  simp only [Bool.and_eq_true, decide_eq_true_eq]
  refine ⟨fun h => h.2, fun h => ⟨?_, h⟩⟩
  have e1 : lt (c s) = false := by rw [h]; rcases hk with rfl | rfl <;> rfl
  have e2 : fg (c s) = false := by rw [h]; rcases hk with rfl | rfl <;> rfl
  have e3 : gO c s 1 = false := by unfold gO; rw [e1, e2]; rfl
  unfold tL
  rw [if_neg (by omega), show (399 : Nat) = 398 + 1 from rfl, fdF_succ, if_pos (by rw [e3]; rfl)]
theorem seF_2 {c : CT} {s : Nat} {lo hi : Int32} (h : (seF c (0, 0) s lo hi).1 ≠ 0) : seF c (0, 0) s lo hi = ((seF c (0, 0) s lo hi).1, s) := by
  unfold seF at h ⊢
  split
  · split
    · rfl
    · rename_i h1 h2; rw [if_pos h1, if_neg h2] at h; exact absurd rfl h
  · rfl
theorem seF_z {c : CT} {s : Nat} {lo hi : Int32} (h : (seF c (0, 0) s lo hi).1 = 0) : seF c (0, 0) s lo hi = (0, 0) := by
  unfold seF at h ⊢
  split
  · split
    · rename_i h1 h2; rw [if_pos h1, if_pos h2] at h; exact absurd h (Nat.succ_ne_zero _)
    · rfl
  · rename_i h1; rw [if_neg h1] at h; exact absurd h (Nat.succ_ne_zero _)
theorem seF_v {c : CT} {s : Nat} {lo hi : Int32} (h : (seF c (0, 0) s lo hi).1 = 0) : seV c (seF c (0, 0) s lo hi) s = vI c s (tL c s - 1) ∧ 1 ≤ tL c s := by
  unfold seV
  rw [if_pos h]
  refine ⟨rfl, ?_⟩
  have hf : fg (c s) = true := by
    unfold seF at h
    by_cases e : fg (c s) = true
    · exact e
    · rw [if_neg e] at h; exact absurd h (Nat.succ_ne_zero _)
  rw [tl_dl hf]
  refine Nat.one_le_iff_ne_zero.mpr (fun z => ?_)
  have e0 : fdF (fun i => !fg (c (s + i))) 400 0 = fdF (fun i => !fg (c (s + i))) 399 1 := (fdF_succ _ 399 0).trans (if_neg (by rw [Nat.add_zero, hf]; decide))
  have h2 := fdF_le (fun i => !fg (c (s + i))) 399 1
  unfold dl at z
  rw [e0] at z
  omega
/-- after the knows: the fault, or the set -/
def KnQ (c : CT) (g : St) (k : Nat) (R : KR) (v : Int32) (g' : St) : Prop := PK g g' ∧ v = nI R.2.1.1 ∧ (R.2.1.1 ≠ 0 → g'.1 91 15 = nI R.2.1.2) ∧ (R.2.1.1 = 0 → ∃ p, p ≤ 400 ∧ HK c g k R.1 p g' ∧ sk c p = R.2.2)

theorem HK_st {c : CT} {g g1 g14 g72 : St} {k set set' p s1 s2 p' : Nat} {lo hi v x y : Int32} (h : HK c g k set p g1) (hN : NQ c g1 s1 lo hi v g14) (hz : (seF c (0, 0) s1 lo hi).1 = 0) (hx : x = nI set') (hH : HQ (upI g14 108 k x) s2 g72) (hy : y = nI p') : HK c g k set' p' (upI g72 91 16 y) := by
  obtain ⟨n1, n2, n3, n4, n5, n6⟩ := hN
  subst hx; subst hy
  refine ⟨fun j a b => (upI_n a).trans ((hH.1 j a).trans ((upI_n b).trans ((n1 j a).trans (h.1 j a b)))), ?_, fun q hq => ?_, fun j q hq => ?_, by rw [upI_s, upd_s]⟩
  · rw [upI_n (by decide), hH.1 108 (by decide), upI_s, n1 108 (by decide), h.2.1]
    funext q
    by_cases e : q = k
    · rw [e, upd_s, upd_s]
    · rw [upd_e e, upd_e e, upd_e e]
  · refine (upd_n2 (by omega)).trans ((hH.2.1 q (by omega)).trans ((congrFun (upI_n (by decide)) _).trans ?_))
    refine Eq.trans ?_ (h.2.2.1 q hq)
    by_cases e : q = 15
    · rw [e]; exact (n6 hz).1
    · exact n2 q e (by omega) (by omega) (by omega)
  · show g72.2 j q = g.2 j q
    rw [hH.2.2.1]
    show g14.2 j q = g.2 j q
    rw [n3]; exact h.2.2.2.1 j q hq
set_option maxHeartbeats 4000000 in
set_option maxRecDepth 100000 in
theorem lm_kz {K : KT} {ad : Nat → Nat} {g1 : St} (hK : Cx K RX10 cX10_takeKnows 3 ad) (hm : K.2.2.1.2.maxLocals = 3) (hnn : Nn K 0 0)
    {Qx : Int32 → St → Prop} (hR : Rt K 0 0 TT ad (some .int) (Qi ad Qx)) (hq : Qx 0 g1) : Wp K 0 0 TT ad g1 2 [(0, .ref 91), (1, .int 0)] [] := by
  refine r_iload_n (i := 1) hK dX10_takeKnows_2 rfl rfl ?_
  refine r_if_eq (tgt := 107) hK dX10_takeKnows_3 (by decide) (fun _ => ?_) (fun h => absurd rfl h)
  refine r_iconst (v := 0) hK dX10_takeKnows_107 (by decide) ?_
  refine q_iret hK hR dX10_takeKnows_108 ?_
  exact hq
set_option maxHeartbeats 4000000 in
set_option maxRecDepth 100000 in
theorem lm_kn {K : KT} {ad : Nat → Nat} {g : St} {n wn k : Nat} {c : CT} (hT : MTx g n c) (hwn : g.1 91 22 = nI wn) (hw14 : wn ≤ 14) (hk : g.1 91 26 = nI k) (hk6 : k < 6) {R : KR} (hK : Cx K RX10 cX10_takeKnows 3 ad) (hm : K.2.2.1.2.maxLocals = 3) (hnn : Nn K 0 0)
    {Qx : Int32 → St → Prop} (hR : Rt K 0 0 TT ad (some .int) (Qi ad Qx)) (hq : ∀ v g', KnQ c g k R v g' → Qx v g') :
    ∀ m set s p g1, knS c wn m set (0, 0) s = R → HK c g k set p g1 → p = s + tL c s → tL c s ≠ 0 → s ≤ n → n ≤ s + m → set < 2 ^ 14 → Wp K 0 0 TT ad g1 2 [(0, .ref 91), (1, .int 1)] [] := by
  have hn4 := hT.1.1
  intro m
  induction m with
  | zero =>
    intro set s p g1 hRe hf hps ht hsn hm9 hset
    have := tL_le hT.1 hsn
    omega
  | succ m ih =>
    intro set s p g1 hRe hf hps ht hsn hm9 hset
    have hpn := tL_le hT.1 hsn
    have hT1 := MTx_p hT hf.pk
    have hp1 : p ≤ n := by omega
    obtain ⟨s1, hs1⟩ : ∃ s1, s1 = nx c s := ⟨_, rfl⟩
    have hsp : sk c p = s1 := by rw [hs1, hps]; rfl
    obtain ⟨s2, hs2⟩ : ∃ s2, s2 = nx c s1 := ⟨_, rfl⟩
    have hs2e : s2 = sk c (s1 + tL c s1) := hs2
    have hb1 := sk_le hT.1 hp1
    rw [hsp] at hb1
    have hp9 := tL_le hT.1 hb1.2
    have hb2 := sk_le hT.1 hp9
    rw [← hs2e] at hb2
    have hs2n := hb2.2
    obtain ⟨F1, q1⟩ : ∃ F, F = seF c (0, 0) s1 (nI 0) (nI wn - 1) := ⟨_, rfl⟩
    by_cases hz : F1.1 = 0
    · have hF1 : F1 = (0, 0) := by rw [q1]; exact seF_z (by rw [← q1]; exact hz)
      obtain ⟨hv1, hv2⟩ := se_w (c := c) (F := (0, 0)) (s := s1) hw14 (by rw [← q1]; exact hz)
      obtain ⟨hv3, hv4⟩ := seF_v (c := c) (s := s1) (lo := nI 0) (hi := nI wn - 1) (by rw [← q1]; exact hz)
      have hvI : vI c s1 (tL c s1 - 1) = nI (tV c s1) := hv3.symm.trans hv1
      have hset2 : set ||| 1 <<< tV c s1 < 2 ^ 14 := Nat.or_lt_two_pow hset (by rw [Nat.one_shiftLeft]; exact Nat.pow_lt_pow_right (by decide) (by omega))
      have hRd : set.testBit (tV c s1) = true → knS c wn (m + 1) set (0, 0) s = (set ||| 1 <<< tV c s1, (4, s1), s2) := fun hd => by
        have e2 : ((4, s1) : FP) = if F1.1 = 0 ∧ set.testBit (tV c s1) = true then bl F1 4 s1 else F1 := by rw [if_pos ⟨hz, hd⟩, hF1]; rfl
        have e3 : set ||| 1 <<< tV c s1 = if F1.1 = 0 then set ||| 1 <<< tV c s1 else set := (if_pos hz).symm
        rw [knS_s rfl hs1 hs2 q1 e2 e3]
        split
        · exact knS_n (Nat.succ_ne_zero _)
        · rfl
      have hstep : ¬ set.testBit (tV c s1) = true → knS c wn (m + 1) set (0, 0) s = if sgn c s2 44 = true then knS c wn m (set ||| 1 <<< tV c s1) (0, 0) s2 else (set ||| 1 <<< tV c s1, (0, 0), s2) := fun hd => by
        have e2 : ((0, 0) : FP) = if F1.1 = 0 ∧ set.testBit (tV c s1) = true then bl F1 4 s1 else F1 := by rw [if_neg (fun z => hd z.2), hF1]
        have e3 : set ||| 1 <<< tV c s1 = if F1.1 = 0 then set ||| 1 <<< tV c s1 else set := (if_pos hz).symm
        rw [knS_s rfl hs1 hs2 q1 e2 e3]
      have htc : c s2 = 44 → tL c s2 = 1 := fun z => by
        have := (sgn_c (s := s2) (Or.inl rfl)).mpr z
        unfold sgn at this
        simp only [Bool.and_eq_true, decide_eq_true_eq] at this
        exact this.1
      refine r_iload_n (i := 1) hK dX10_takeKnows_2 rfl rfl ?_
      refine r_if_eq (tgt := 107) hK dX10_takeKnows_3 (by decide) (fun h => absurd h (by decide)) (fun _ => ?_)
      refine r_aload_n (i := 0) hK dX10_takeKnows_6 rfl rfl ?_
      refine r_iconst (v := 0) hK dX10_takeKnows_7 (by decide) ?_
      refine r_top (y := nI 0) rfl ?_
      refine r_aload_n (i := 0) hK dX10_takeKnows_8 rfl rfl ?_
      refine r_getI hK flX10_186 to_91 rfl dX10_takeKnows_9 ?_
      refine r_top (y := nI wn) ((hf.2.2.1 22 (by decide)).trans hwn) ?_
      refine r_iconst (v := 1) hK dX10_takeKnows_12 (by decide) ?_
      refine r_isub hK dX10_takeKnows_13 ?_
      refine r_ci2 hK hnn (c_mTakeNumber (x := nI 0) (y := nI wn - 1) hT1 hp1 hf.2.2.2.2) moX10_takeNumber mlX10_183 to_91 rfl rfl dX10_takeKnows_14 (Nat.le_of_ble_eq_true rfl) (Nat.le_of_ble_eq_true rfl) (fun v14 g14 q14 => ?_)
      rw [hsp] at q14
      have hN := q14
      obtain ⟨n1, n2, n3, n4, n5, n6⟩ := id hN
      rw [← q1] at n4 n5 n6
      refine r_top (y := nI 0) (n4.trans (by rw [hz])) ?_
      refine r_istore_n (i := 2) hK hm dX10_takeKnows_17 rfl (by decide) ?_
      refine r_iload_n (i := 2) hK dX10_takeKnows_18 rfl rfl ?_
      refine r_if_le (tgt := 24) hK dX10_takeKnows_19 (by decide) (fun _ => ?_) (fun h => absurd (by decide) h)
      refine r_aload_n (i := 0) hK dX10_takeKnows_24 rfl rfl ?_
      refine r_getA hK flX10_62 to_91 rfl dX10_takeKnows_25 ?_
      refine r_aload_n (i := 0) hK dX10_takeKnows_28 rfl rfl ?_
      refine r_getI hK flX10_207 to_91 rfl dX10_takeKnows_29 ?_
      refine r_ialN hK to_108 ((n2 26 (by decide) (by decide) (by decide) (by decide)).trans ((hf.2.2.1 26 (by decide)).trans hk)) hk6 (by decide) (by rw [n1 108 (by decide), hf.2.1, upd_s]) dX10_takeKnows_32 ?_
      refine r_aload_n (i := 0) hK dX10_takeKnows_33 rfl rfl ?_
      refine r_getI hK flX10_180 to_91 rfl dX10_takeKnows_34 ?_
      refine r_top (y := nI (tV c s1)) ((n6 hz).2.2.1.trans hvI) ?_
      refine r_si2 hK hnn (c_mHas (s := set) (w := tV c s1) rfl (by omega) rfl (by omega)) moX10_has mlX10_210 dX10_takeKnows_37 (Nat.le_of_ble_eq_true rfl) (Nat.le_of_ble_eq_true rfl) (eqI ?_)
      refine r_if_eq (tgt := 53) hK dX10_takeKnows_40 (by decide) (fun h40 => ?_) (fun h40 => ?_)
      · refine r_aload_n (i := 0) hK dX10_takeKnows_53 rfl rfl ?_
        refine r_getA hK flX10_62 to_91 rfl dX10_takeKnows_54 ?_
        refine r_aload_n (i := 0) hK dX10_takeKnows_57 rfl rfl ?_
        refine r_getI hK flX10_207 to_91 rfl dX10_takeKnows_58 ?_
        refine r_top (y := nI k) ((n2 26 (by decide) (by decide) (by decide) (by decide)).trans ((hf.2.2.1 26 (by decide)).trans hk)) ?_
        refine r_dup2 hK dX10_takeKnows_61 rfl rfl ?_
        refine r_ialN hK to_108 rfl hk6 (by decide) (by rw [n1 108 (by decide), hf.2.1, upd_s]) dX10_takeKnows_62 ?_
        refine r_iconst (v := 1) hK dX10_takeKnows_63 (by decide) ?_
        refine r_aload_n (i := 0) hK dX10_takeKnows_64 rfl rfl ?_
        refine r_getI hK flX10_180 to_91 rfl dX10_takeKnows_65 ?_
        refine r_top (y := nI (tV c s1)) ((n6 hz).2.2.1.trans hvI) ?_
        refine r_ishl hK dX10_takeKnows_68 ?_
        refine r_ior hK dX10_takeKnows_69 ?_
        have hnd : ¬ set.testBit (tV c s1) = true := by rw [B1_0.mp h40]; decide
        refine r_top (y := nI (set ||| 1 <<< tV c s1)) (setbit (by omega)) ?_
        refine r_iasN hK to_108 rfl hk6 (by decide) dX10_takeKnows_70 ?_
        refine r_aload_n (i := 0) hK dX10_takeKnows_71 rfl rfl ?_
        refine r_ci0 hK hnn (c_mHere (MTx_p hT1 (hN.pk.up (by omega))) hp9 ((congrFun (upI_n (by decide)) _).trans (n6 hz).2.1)) moX10_here mlX10_146 to_91 rfl rfl dX10_takeKnows_72 (Nat.le_of_ble_eq_true rfl) (Nat.le_of_ble_eq_true rfl) (fun v72 g72 q72 => ?_)
        obtain ⟨hv72, hH⟩ := q72
        rw [← hs2e] at hv72 hH
        refine r_top (y := cI (c s2)) hv72 ?_
        refine r_bipush (v := 44) hK dX10_takeKnows_75 (by decide) ?_
        refine r_icmp_ne (tgt := 84) hK dX10_takeKnows_77 (by decide) (fun h77 => ?_) (fun h77 => ?_)
        · refine r_iconst (v := 0) hK dX10_takeKnows_84 (by decide) ?_
          refine r_istore_n (i := 1) hK hm dX10_takeKnows_85 rfl (by decide) ?_
          refine r_aload_n (i := 0) hK dX10_takeKnows_86 rfl rfl ?_
          refine r_dup hK dX10_takeKnows_87 rfl ?_
          refine r_getI hK flX10_143 to_91 rfl dX10_takeKnows_88 ?_
          refine r_top (y := nI s2) hH.2.2.2 ?_
          refine r_iload_n (i := 1) hK dX10_takeKnows_91 rfl rfl ?_
          refine r_if_eq (tgt := 99) hK dX10_takeKnows_92 (by decide) (fun _ => ?_) (fun h => absurd rfl h)
          refine r_iconst (v := 0) hK dX10_takeKnows_99 (by decide) ?_
          refine r_iadd hK dX10_takeKnows_100 ?_
          have hcm : ¬ c s2 = 44 := fun z => h77 (by rw [z]; rfl)
          refine r_top (y := nI s2) (Int32.add_zero _) ?_
          refine r_putI hK flX10_143 ft10_16 to_91 rfl dX10_takeKnows_101 ?_
          refine r_goto (tgt := 2) hK dX10_takeKnows_104 (by decide) ?_
          first
            | (refine r_loc ?_ (ih (set ||| 1 <<< tV c s1) s2 (s2 + 1) _ ((hstep hnd).symm.trans hRe |> fun z => by rw [if_pos ((sgn_c (Or.inl rfl)).mpr hcm)] at z; exact z) (HK_st hf hN (by rw [← q1]; exact hz) rfl hH rfl) (by rw [htc hcm]) (by rw [htc hcm]; decide) hs2n (by omega) hset2); rfl)
            | (refine r_loc ?_ (lm_kz hK hm hnn hR (hq _ _ (by rw [← hRe, hstep hnd, if_neg (fun z => hcm ((sgn_c (Or.inl rfl)).mp z))]; exact ⟨(HK_st hf hN (by rw [← q1]; exact hz) rfl hH rfl).pk, rfl, fun z => absurd rfl z, fun _ => ⟨s2, by omega, HK_st hf hN (by rw [← q1]; exact hz) rfl hH rfl, by rw [hs2e]; exact sk_id hT.1 (by omega)⟩⟩))); rfl)
        · refine r_iconst (v := 1) hK dX10_takeKnows_80 (by decide) ?_
          refine r_goto (tgt := 85) hK dX10_takeKnows_81 (by decide) ?_
          refine r_istore_n (i := 1) hK hm dX10_takeKnows_85 rfl (by decide) ?_
          refine r_aload_n (i := 0) hK dX10_takeKnows_86 rfl rfl ?_
          refine r_dup hK dX10_takeKnows_87 rfl ?_
          refine r_getI hK flX10_143 to_91 rfl dX10_takeKnows_88 ?_
          refine r_top (y := nI s2) hH.2.2.2 ?_
          refine r_iload_n (i := 1) hK dX10_takeKnows_91 rfl rfl ?_
          refine r_if_eq (tgt := 99) hK dX10_takeKnows_92 (by decide) (fun h => absurd h (by decide)) (fun _ => ?_)
          refine r_iconst (v := 1) hK dX10_takeKnows_95 (by decide) ?_
          refine r_goto (tgt := 100) hK dX10_takeKnows_96 (by decide) ?_
          refine r_iadd hK dX10_takeKnows_100 ?_
          have hcm : c s2 = 44 := (cI_eq (tOk_b hT.1 _) (by decide)).mp h77
          refine r_top (y := nI (s2 + 1)) (nI_add _ _) ?_
          refine r_putI hK flX10_143 ft10_16 to_91 rfl dX10_takeKnows_101 ?_
          refine r_goto (tgt := 2) hK dX10_takeKnows_104 (by decide) ?_
          first
            | (refine r_loc ?_ (ih (set ||| 1 <<< tV c s1) s2 (s2 + 1) _ ((hstep hnd).symm.trans hRe |> fun z => by rw [if_pos ((sgn_c (Or.inl rfl)).mpr hcm)] at z; exact z) (HK_st hf hN (by rw [← q1]; exact hz) rfl hH rfl) (by rw [htc hcm]) (by rw [htc hcm]; decide) hs2n (by omega) hset2); rfl)
            | (refine r_loc ?_ (lm_kz hK hm hnn hR (hq _ _ (by rw [← hRe, hstep hnd, if_neg (fun z => hcm ((sgn_c (Or.inl rfl)).mp z))]; exact ⟨(HK_st hf hN (by rw [← q1]; exact hz) rfl hH rfl).pk, rfl, fun z => absurd rfl z, fun _ => ⟨s2, by omega, HK_st hf hN (by rw [← q1]; exact hz) rfl hH rfl, by rw [hs2e]; exact sk_id hT.1 (by omega)⟩⟩))); rfl)
      · refine r_aload_n (i := 0) hK dX10_takeKnows_43 rfl rfl ?_
        refine r_iconst (v := 4) hK dX10_takeKnows_44 (by decide) ?_
        refine r_aload_n (i := 0) hK dX10_takeKnows_45 rfl rfl ?_
        refine r_getI hK flX10_177 to_91 rfl dX10_takeKnows_46 ?_
        refine r_ci2 hK hnn c_mFails moX10_fails mlX10_173 to_91 rfl rfl dX10_takeKnows_49 (Nat.le_of_ble_eq_true rfl) (Nat.le_of_ble_eq_true rfl) (eqI ?_)
        refine q_iret hK hR dX10_takeKnows_52 ?_
        have hd := B1_n.mp h40
        refine hq _ _ ⟨hf.pk.tr (hN.pk.fl (by omega)), ?_⟩
        rw [← hRe, hRd hd]
        exact ⟨rfl, fun _ => by rw [upI_s, upd_s]; exact (n6 hz).2.2.2, fun z => absurd z (Nat.succ_ne_zero _)⟩
    · have hle : ¬ nI F1.1 ≤ 0 := by
        have h4 : F1.1 ≤ 4 := by rw [q1]; exact seF_ok (by decide)
        rw [Int32.le_iff_toInt_le, nI_toInt (by omega)]
        have e : (0 : Int32).toInt = 0 := by decide
        omega
      have hR9 : knS c wn (m + 1) set (0, 0) s = (set, F1, s2) := by
        have e2 : F1 = if F1.1 = 0 ∧ set.testBit (tV c s1) = true then bl F1 4 s1 else F1 := (if_neg (fun z => hz z.1)).symm
        have e3 : set = if F1.1 = 0 then set ||| 1 <<< tV c s1 else set := (if_neg hz).symm
        rw [knS_s rfl hs1 hs2 q1 e2 e3]
        split
        · exact knS_n hz
        · rfl
      refine r_iload_n (i := 1) hK dX10_takeKnows_2 rfl rfl ?_
      refine r_if_eq (tgt := 107) hK dX10_takeKnows_3 (by decide) (fun h => absurd h (by decide)) (fun _ => ?_)
      refine r_aload_n (i := 0) hK dX10_takeKnows_6 rfl rfl ?_
      refine r_iconst (v := 0) hK dX10_takeKnows_7 (by decide) ?_
      refine r_top (y := nI 0) rfl ?_
      refine r_aload_n (i := 0) hK dX10_takeKnows_8 rfl rfl ?_
      refine r_getI hK flX10_186 to_91 rfl dX10_takeKnows_9 ?_
      refine r_top (y := nI wn) ((hf.2.2.1 22 (by decide)).trans hwn) ?_
      refine r_iconst (v := 1) hK dX10_takeKnows_12 (by decide) ?_
      refine r_isub hK dX10_takeKnows_13 ?_
      refine r_ci2 hK hnn (c_mTakeNumber (x := nI 0) (y := nI wn - 1) hT1 hp1 hf.2.2.2.2) moX10_takeNumber mlX10_183 to_91 rfl rfl dX10_takeKnows_14 (Nat.le_of_ble_eq_true rfl) (Nat.le_of_ble_eq_true rfl) (fun v14 g14 q14 => ?_)
      rw [hsp] at q14
      have hN := q14
      obtain ⟨n1, n2, n3, n4, n5, n6⟩ := id hN
      rw [← q1] at n4 n5 n6
      refine r_top (y := nI F1.1) n4 ?_
      refine r_istore_n (i := 2) hK hm dX10_takeKnows_17 rfl (by decide) ?_
      refine r_iload_n (i := 2) hK dX10_takeKnows_18 rfl rfl ?_
      refine r_if_le (tgt := 24) hK dX10_takeKnows_19 (by decide) (fun h => absurd h hle) (fun _ => ?_)
      refine r_iload_n (i := 2) hK dX10_takeKnows_22 rfl rfl ?_
      refine q_iret hK hR dX10_takeKnows_23 ?_
      refine hq _ _ ⟨hf.pk.tr hN.pk, ?_⟩
      rw [← hRe, hR9]
      refine ⟨rfl, fun _ => ?_, fun z => absurd z hz⟩
      rw [n5 hz]
      show nI s1 = nI F1.2
      rw [q1, seF_2 (by rw [← q1]; exact hz)]
set_option maxHeartbeats 4000000 in
set_option maxRecDepth 100000 in
theorem c_mTakeKnows {ad : Nat → Nat} {g : St} {n wn k s p : Nat} {c : CT} (hT : MTx g n c) (hwn : g.1 91 22 = nI wn) (hw14 : wn ≤ 14) (hk : g.1 91 26 = nI k) (hk6 : k < 6) (h108 : g.1 108 k = nI 0) (hpo : g.1 91 16 = nI p) (hps : p = s + tL c s) (ht : tL c s ≠ 0) (hsn : s ≤ n) : Ci 3 mX10_takeKnows [.ref 91] ad g (fun v g' => KnQ c g k (knS c wn 400 0 (0, 0) s) v g') := by
  refine Cm.mk rfl (Nat.le_of_ble_eq_true rfl) (fun K hK hR hm hnn => ?_)
  refine r_iconst (v := 1) hK dX10_takeKnows_0 (by decide) ?_
  refine r_istore_n (i := 1) hK hm dX10_takeKnows_1 rfl (by decide) ?_
  refine r_loc ?_ (lm_kn hT hwn hw14 hk hk6 hK hm hnn hR (fun _ _ h => h) 400 0 s p g rfl ⟨fun _ _ _ => rfl, funext fun q => ?_, fun _ _ => rfl, fun _ _ _ => rfl, hpo⟩ hps ht hsn (by have := hT.1.1; omega) (by decide))
  · rfl
  · by_cases e : q = k
    · rw [e, upd_s]; exact h108
    · rw [upd_e e]
