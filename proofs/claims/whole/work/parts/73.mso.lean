/-! THE MODEL: what is said, walked, gained -/
theorem mp_s {f2 f3 : Nat → Int32} {v : Int32} {D : WD} {kn : Nat → Bool} {t a k : Nat} (hP : MPt f2 f3 v D kn t a) (h0 : 0 < k) (hk : k ≤ rn0 D kn t a) : f2 (k - 1) = nI (rP D kn t a k) ∧ f3 (k - 1) = nI (rM D kn t a k) := by
  unfold rn0 at hk
  split at hk
  · rename_i hl
    have := (hP.1 hl).2 (k - 1) (by omega)
    rw [show k - 1 + 1 = k by omega] at this
    exact this
  · omega
theorem mp_v {f2 f3 : Nat → Int32} {v : Int32} {D : WD} {kn : Nat → Bool} {t a : Nat} (hP : MPt f2 f3 v D kn t a) : (kW D kn t a < FR ∧ v = nI (rn0 D kn t a)) ∨ (¬ kW D kn t a < FR ∧ v = -1 ∧ rn0 D kn t a = 0) := by
  by_cases hl : kW D kn t a < FR
  · exact Or.inl ⟨hl, by unfold rn0; rw [if_pos hl]; exact (hP.1 hl).1⟩
  · exact Or.inr ⟨hl, hP.2 hl, by unfold rn0; rw [if_neg hl]⟩
theorem sdF_z {D : WD} {kn : Nat → Bool} {t a ha er : Nat} (h : rn0 D kn t a = 0) : sdF D kn t a ha er = 0 := by
  have := sdF_le (D := D) (kn := kn) (t := t) (a := a) (ha := ha) (er := er)
  omega
theorem mp_z {f2 f3 : Nat → Int32} {v : Int32} {D : WD} {kn : Nat → Bool} {t a : Nat} (hP : MPt f2 f3 v D kn t a) (h : v < 1) (hb : rn0 D kn t a ≤ 9) : rn0 D kn t a = 0 := by
  rcases mp_v hP with ⟨q1, q2⟩ | ⟨q1, q2, q3⟩
  · rw [q2, Int32.lt_iff_toInt_lt, nI_toInt (by omega)] at h
    have e : (1 : Int32).toInt = 1 := by decide
    omega
  · exact q3
def MR (g : St) (D : WD) (kn : Nat → Bool) (t a : Nat) : Prop := MPt (g.1 110) (g.1 111) (g.1 91 33) D kn t a
theorem MR_pM {g : St} {f1 f2 f3 : Nat → Int32} {v : Int32} {D : WD} {kn : Nat → Bool} {t a : Nat} (h : MPt f2 f3 v D kn t a) : MR (pM g f1 f2 f3 v) D kn t a := by
  unfold MR
  rw [pM_110, pM_111, pM_33]
  exact h

set_option maxHeartbeats 4000000 in
set_option maxRecDepth 100000 in
theorem c_mEndOf {ad : Nat → Nat} {g : St} {D : WD} {kn : Nat → Bool} {np t a : Nat} (hok : wOk np D) (ha : a < np) (hP : MR g D kn t a) {k : Nat} {x y : Int32} (hx : x = nI a) (hy : y = nI k) (hk : k ≤ rn0 D kn t a) : Ci 1 mX10_endOf [.ref 91, .int x, .int y] ad g (fun v g' => v = nI (rP D kn t a k) ∧ g' = g) := by
  subst hx; subst hy
  have hrb := (rt_b hok kn t ha).1
  have hnp := hok.2.1
  refine Cm.mk rfl (Nat.le_of_ble_eq_true rfl) (fun K hK hR hm hnn => ?_)
  refine r_iload_n (i := 2) hK dX10_endOf_0 rfl rfl ?_
  refine r_if_ne (tgt := 8) hK dX10_endOf_1 (by decide) (fun h1 => ?_) (fun h1 => ?_)
  · refine r_aload_n (i := 0) hK dX10_endOf_8 rfl rfl ?_
    refine r_getA hK flX10_68 to_91 rfl dX10_endOf_9 ?_
    refine r_iload_n (i := 2) hK dX10_endOf_12 rfl rfl ?_
    have hk0 : 0 < k := Nat.pos_of_ne_zero (fun z => h1 (by rw [z]; rfl))
    refine r_iconst (v := 1) hK dX10_endOf_13 (by decide) ?_
    refine r_isub hK dX10_endOf_14 ?_
    refine r_top (y := nI (k - 1)) (pk_sub (a := k) (b := 1) hk0) ?_
    refine r_ialN hK to_110 rfl (by omega) (by decide) (mp_s hP hk0 hk).1 dX10_endOf_15 ?_
    refine q_iret hK hR dX10_endOf_16 ?_
    first
      | (have h0 : k = 0 := nI_inj (by omega) (by decide) h1; subst h0; exact ⟨rfl, rfl⟩)
      | exact ⟨rfl, rfl⟩
  · refine r_iload_n (i := 1) hK dX10_endOf_4 rfl rfl ?_
    refine r_goto (tgt := 16) hK dX10_endOf_5 (by decide) ?_
    refine q_iret hK hR dX10_endOf_16 ?_
    first
      | (have h0 : k = 0 := nI_inj (by omega) (by decide) h1; subst h0; exact ⟨rfl, rfl⟩)
      | exact ⟨rfl, rfl⟩
set_option maxHeartbeats 4000000 in
set_option maxRecDepth 100000 in
theorem c_mLongOf {ad : Nat → Nat} {g : St} {D : WD} {kn : Nat → Bool} {np t a : Nat} (hok : wOk np D) (ha : a < np) (hP : MR g D kn t a) {k : Nat} {y : Int32} (hy : y = nI k) (hk : k ≤ rn0 D kn t a) : Ci 1 mX10_longOf [.ref 91, .int y] ad g (fun v g' => v = nI (rM D kn t a k) ∧ g' = g) := by
  subst hy
  have hrb := (rt_b hok kn t ha).1
  have hnp := hok.2.1
  refine Cm.mk rfl (Nat.le_of_ble_eq_true rfl) (fun K hK hR hm hnn => ?_)
  refine r_iload_n (i := 1) hK dX10_longOf_0 rfl rfl ?_
  refine r_if_ne (tgt := 8) hK dX10_longOf_1 (by decide) (fun h1 => ?_) (fun h1 => ?_)
  · refine r_aload_n (i := 0) hK dX10_longOf_8 rfl rfl ?_
    refine r_getA hK flX10_71 to_91 rfl dX10_longOf_9 ?_
    refine r_iload_n (i := 1) hK dX10_longOf_12 rfl rfl ?_
    have hk0 : 0 < k := Nat.pos_of_ne_zero (fun z => h1 (by rw [z]; rfl))
    refine r_iconst (v := 1) hK dX10_longOf_13 (by decide) ?_
    refine r_isub hK dX10_longOf_14 ?_
    refine r_top (y := nI (k - 1)) (pk_sub (a := k) (b := 1) hk0) ?_
    refine r_ialN hK to_111 rfl (by omega) (by decide) (mp_s hP hk0 hk).2 dX10_longOf_15 ?_
    refine q_iret hK hR dX10_longOf_16 ?_
    first
      | (have h0 : k = 0 := nI_inj (by omega) (by decide) h1; subst h0; exact ⟨rfl, rfl⟩)
      | exact ⟨rfl, rfl⟩
  · refine r_iconst (v := 0) hK dX10_longOf_4 (by decide) ?_
    refine r_goto (tgt := 16) hK dX10_longOf_5 (by decide) ?_
    refine q_iret hK hR dX10_longOf_16 ?_
    first
      | (have h0 : k = 0 := nI_inj (by omega) (by decide) h1; subst h0; exact ⟨rfl, rfl⟩)
      | exact ⟨rfl, rfl⟩
set_option maxHeartbeats 4000000 in
set_option maxRecDepth 100000 in
theorem c_mOutOf {ad : Nat → Nat} {g : St} {law : Nat} (hlw : g.1 91 11 = nI law) (hl3 : law ≤ 3) {k : Nat} {y : Int32} (hy : y = nI k) (hk : k ≤ 100) : Ci 1 mX10_outOf [.ref 91, .int y] ad g (fun v g' => v = nI (oL law k) ∧ g' = g) := by
  subst hy
  refine Cm.mk rfl (Nat.le_of_ble_eq_true rfl) (fun K hK hR hm hnn => ?_)
  refine r_aload_n (i := 0) hK dX10_outOf_0 rfl rfl ?_
  refine r_getI hK flX10_235 to_91 rfl dX10_outOf_1 ?_
  refine r_top (y := nI law) hlw ?_
  refine r_iconst (v := 1) hK dX10_outOf_4 (by decide) ?_
  refine r_icmp_ne (tgt := 20) hK dX10_outOf_5 (by decide) (fun h5 => ?_) (fun h5 => ?_)
  · refine r_aload_n (i := 0) hK dX10_outOf_20 rfl rfl ?_
    refine r_getI hK flX10_235 to_91 rfl dX10_outOf_21 ?_
    refine r_top (y := nI law) hlw ?_
    refine r_iconst (v := 3) hK dX10_outOf_24 (by decide) ?_
    refine r_icmp_ne (tgt := 36) hK dX10_outOf_25 (by decide) (fun h25 => ?_) (fun h25 => ?_)
    · refine r_iload_n (i := 1) hK dX10_outOf_36 rfl rfl ?_
      refine q_iret hK hR dX10_outOf_37 ?_
      refine ⟨?_, rfl⟩
      unfold oL
      first
        | (rw [if_pos (nI_inj (by omega) (by decide) h5), Nat.min_eq_left (Nat.pos_of_ne_zero (fun z => h9 (by rw [z]; decide)))]; rfl)
        | (rw [if_pos (nI_inj (by omega) (by decide) h5), show k = 0 from Nat.eq_zero_of_not_pos (fun z => absurd h9 (nI_nle z (by omega)))]; rfl)
        | (rw [if_neg (fun z => h5 (by rw [z]; rfl)), if_pos (nI_inj (by omega) (by decide) h25)]; done)
        | (rw [if_neg (fun z => h5 (by rw [z]; rfl)), if_neg (fun z => h25 (by rw [z]; rfl))]; done)
    · refine r_iload_n (i := 1) hK dX10_outOf_28 rfl rfl ?_
      refine r_iconst (v := 1) hK dX10_outOf_29 (by decide) ?_
      refine r_iadd hK dX10_outOf_30 ?_
      refine r_top (y := nI (k + 1)) (nI_succ _).symm ?_
      refine r_iconst (v := 2) hK dX10_outOf_31 (by decide) ?_
      refine r_idiv hK dX10_outOf_32 (by decide) ?_
      refine r_top (y := nI ((k + 1) / 2)) (pk_div (a := k + 1) (d := 2) (by omega) (by decide) (by decide)) ?_
      refine r_goto (tgt := 37) hK dX10_outOf_33 (by decide) ?_
      refine q_iret hK hR dX10_outOf_37 ?_
      refine ⟨?_, rfl⟩
      unfold oL
      first
        | (rw [if_pos (nI_inj (by omega) (by decide) h5), Nat.min_eq_left (Nat.pos_of_ne_zero (fun z => h9 (by rw [z]; decide)))]; rfl)
        | (rw [if_pos (nI_inj (by omega) (by decide) h5), show k = 0 from Nat.eq_zero_of_not_pos (fun z => absurd h9 (nI_nle z (by omega)))]; rfl)
        | (rw [if_neg (fun z => h5 (by rw [z]; rfl)), if_pos (nI_inj (by omega) (by decide) h25)]; done)
        | (rw [if_neg (fun z => h5 (by rw [z]; rfl)), if_neg (fun z => h25 (by rw [z]; rfl))]; done)
  · refine r_iload_n (i := 1) hK dX10_outOf_8 rfl rfl ?_
    refine r_if_le (tgt := 16) hK dX10_outOf_9 (by decide) (fun h9 => ?_) (fun h9 => ?_)
    · refine r_iconst (v := 0) hK dX10_outOf_16 (by decide) ?_
      refine r_goto (tgt := 37) hK dX10_outOf_17 (by decide) ?_
      refine q_iret hK hR dX10_outOf_37 ?_
      refine ⟨?_, rfl⟩
      unfold oL
      first
        | (rw [if_pos (nI_inj (by omega) (by decide) h5), Nat.min_eq_left (Nat.pos_of_ne_zero (fun z => h9 (by rw [z]; decide)))]; rfl)
        | (rw [if_pos (nI_inj (by omega) (by decide) h5), show k = 0 from Nat.eq_zero_of_not_pos (fun z => absurd h9 (nI_nle z (by omega)))]; rfl)
        | (rw [if_neg (fun z => h5 (by rw [z]; rfl)), if_pos (nI_inj (by omega) (by decide) h25)]; done)
        | (rw [if_neg (fun z => h5 (by rw [z]; rfl)), if_neg (fun z => h25 (by rw [z]; rfl))]; done)
    · refine r_iconst (v := 1) hK dX10_outOf_12 (by decide) ?_
      refine r_goto (tgt := 37) hK dX10_outOf_13 (by decide) ?_
      refine q_iret hK hR dX10_outOf_37 ?_
      refine ⟨?_, rfl⟩
      unfold oL
      first
        | (rw [if_pos (nI_inj (by omega) (by decide) h5), Nat.min_eq_left (Nat.pos_of_ne_zero (fun z => h9 (by rw [z]; decide)))]; rfl)
        | (rw [if_pos (nI_inj (by omega) (by decide) h5), show k = 0 from Nat.eq_zero_of_not_pos (fun z => absurd h9 (nI_nle z (by omega)))]; rfl)
        | (rw [if_neg (fun z => h5 (by rw [z]; rfl)), if_pos (nI_inj (by omega) (by decide) h25)]; done)
        | (rw [if_neg (fun z => h5 (by rw [z]; rfl)), if_neg (fun z => h25 (by rw [z]; rfl))]; done)
set_option maxHeartbeats 4000000 in
set_option maxRecDepth 100000 in
theorem c_mWalked {ad : Nat → Nat} {g : St} {D : WD} {kn : Nat → Bool} {np t a : Nat} (hok : wOk np D) (ha : a < np) (hP : MR g D kn t a) {law : Nat} (hlw : g.1 91 11 = nI law) (hl3 : law ≤ 3) {k : Nat} {y : Int32} (hy : y = nI k) (hk : k ≤ rn0 D kn t a) : Ci 2 mX10_walked [.ref 91, .int y] ad g (fun v g' => v = nI (wL D kn t a law k) ∧ g' = g) := by
  subst hy
  have hrb := (rt_b hok kn t ha).1
  have hnp := hok.2.1
  refine Cm.mk rfl (Nat.le_of_ble_eq_true rfl) (fun K hK hR hm hnn => ?_)
  refine r_aload_n (i := 0) hK dX10_walked_0 rfl rfl ?_
  refine r_getI hK flX10_235 to_91 rfl dX10_walked_1 ?_
  refine r_top (y := nI law) hlw ?_
  refine r_iconst (v := 2) hK dX10_walked_4 (by decide) ?_
  refine r_icmp_ne (tgt := 18) hK dX10_walked_5 (by decide) (fun h5 => ?_) (fun h5 => ?_)
  · refine r_aload_n (i := 0) hK dX10_walked_18 rfl rfl ?_
    refine r_aload_n (i := 0) hK dX10_walked_19 rfl rfl ?_
    refine r_iload_n (i := 1) hK dX10_walked_20 rfl rfl ?_
    refine r_ci1 hK hnn (c_mOutOf hlw hl3 rfl (by omega)) moX10_outOf mlX10_271 to_91 rfl rfl dX10_walked_21 (Nat.le_of_ble_eq_true rfl) (Nat.le_of_ble_eq_true rfl) (eqI ?_)
    refine r_ci1 hK hnn (c_mLongOf hok ha hP rfl (Nat.le_trans oL_le hk)) moX10_longOf mlX10_267 to_91 rfl rfl dX10_walked_24 (Nat.le_of_ble_eq_true rfl) (Nat.le_of_ble_eq_true rfl) (eqI ?_)
    refine q_iret hK hR dX10_walked_27 ?_
    refine ⟨?_, rfl⟩
    unfold wL
    first
      | (rw [if_neg (fun z => h5 (by rw [z]; rfl)), Nat.mul_one]; done)
      | (have e2 : law = 2 := nI_inj (by omega) (by decide) h5; subst e2; rw [if_pos rfl, show oL 2 k = k from rfl, Nat.mul_comm]; exact pk_mul 2 _)
  · refine r_iconst (v := 2) hK dX10_walked_8 (by decide) ?_
    refine r_aload_n (i := 0) hK dX10_walked_9 rfl rfl ?_
    refine r_iload_n (i := 1) hK dX10_walked_10 rfl rfl ?_
    refine r_ci1 hK hnn (c_mLongOf hok ha hP rfl hk) moX10_longOf mlX10_267 to_91 rfl rfl dX10_walked_11 (Nat.le_of_ble_eq_true rfl) (Nat.le_of_ble_eq_true rfl) (eqI ?_)
    refine r_imul hK dX10_walked_14 ?_
    refine r_goto (tgt := 27) hK dX10_walked_15 (by decide) ?_
    refine q_iret hK hR dX10_walked_27 ?_
    refine ⟨?_, rfl⟩
    unfold wL
    first
      | (rw [if_neg (fun z => h5 (by rw [z]; rfl)), Nat.mul_one]; done)
      | (have e2 : law = 2 := nI_inj (by omega) (by decide) h5; subst e2; rw [if_pos rfl, show oL 2 k = k from rfl, Nat.mul_comm]; exact pk_mul 2 _)
set_option maxHeartbeats 4000000 in
set_option maxRecDepth 100000 in
theorem c_mStands {ad : Nat → Nat} {g : St} {D : WD} {kn : Nat → Bool} {np t a : Nat} (hok : wOk np D) (ha : a < np) (hP : MR g D kn t a) {law : Nat} (hlw : g.1 91 11 = nI law) (hl3 : law ≤ 3) {k : Nat} {x y : Int32} (hx : x = nI a) (hy : y = nI k) (hk : k ≤ rn0 D kn t a) : Ci 2 mX10_stands [.ref 91, .int x, .int y] ad g (fun v g' => v = nI (sL D kn t a law k) ∧ g' = g) := by
  subst hx; subst hy
  have hrb := (rt_b hok kn t ha).1
  have hnp := hok.2.1
  refine Cm.mk rfl (Nat.le_of_ble_eq_true rfl) (fun K hK hR hm hnn => ?_)
  refine r_aload_n (i := 0) hK dX10_stands_0 rfl rfl ?_
  refine r_getI hK flX10_235 to_91 rfl dX10_stands_1 ?_
  refine r_top (y := nI law) hlw ?_
  refine r_iconst (v := 2) hK dX10_stands_4 (by decide) ?_
  refine r_icmp_ne (tgt := 12) hK dX10_stands_5 (by decide) (fun h5 => ?_) (fun h5 => ?_)
  · refine r_aload_n (i := 0) hK dX10_stands_12 rfl rfl ?_
    refine r_iload_n (i := 1) hK dX10_stands_13 rfl rfl ?_
    refine r_aload_n (i := 0) hK dX10_stands_14 rfl rfl ?_
    refine r_iload_n (i := 2) hK dX10_stands_15 rfl rfl ?_
    refine r_ci1 hK hnn (c_mOutOf hlw hl3 rfl (by omega)) moX10_outOf mlX10_271 to_91 rfl rfl dX10_stands_16 (Nat.le_of_ble_eq_true rfl) (Nat.le_of_ble_eq_true rfl) (eqI ?_)
    refine r_ci2 hK hnn (c_mEndOf hok ha hP rfl rfl (Nat.le_trans oL_le hk)) moX10_endOf mlX10_274 to_91 rfl rfl dX10_stands_19 (Nat.le_of_ble_eq_true rfl) (Nat.le_of_ble_eq_true rfl) (eqI ?_)
    refine q_iret hK hR dX10_stands_22 ?_
    refine ⟨?_, rfl⟩
    unfold sL
    first
      | (rw [if_neg (fun z => h5 (by rw [z]; rfl))]; done)
      | (rw [if_pos (nI_inj (by omega) (by decide) h5)]; rfl)
  · refine r_iload_n (i := 1) hK dX10_stands_8 rfl rfl ?_
    refine r_goto (tgt := 22) hK dX10_stands_9 (by decide) ?_
    refine q_iret hK hR dX10_stands_22 ?_
    refine ⟨?_, rfl⟩
    unfold sL
    first
      | (rw [if_neg (fun z => h5 (by rw [z]; rfl))]; done)
      | (rw [if_pos (nI_inj (by omega) (by decide) h5)]; rfl)
theorem pT_no {np : Nat} {D : WD} {kn : Nat → Bool} {t a e : Nat} (hok : wOk np D) (ha : a < np) (h : a = e) : ¬ pT D kn t a e ≤ rn0 D kn t a := fun z => by
  have h1 := (pT_b (D := D) (kn := kn) (t := t) (a := a) (e := e)).1
  have h2 := fdF_at (p := fun i => decide (rP D kn t a i = e)) (rn0 D kn t a) 1 (by unfold pT at z; omega)
  have h3 : rP D kn t a (pT D kn t a e) = e := of_decide_eq_true h2
  by_cases hl : kW D kn t a < FR
  · have hr : rn0 D kn t a = rN D kn t a := by unfold rn0; rw [if_pos hl]
    have := rP_inj hok ha hl (i := 0) (j := pT D kn t a e) (by omega) (by omega)
    rw [h3, rP_0] at this
    exact this h
  · have hr : rn0 D kn t a = 0 := by unfold rn0; rw [if_neg hl]
    omega

/-- the first hit among j+1 .. n, or 0 -/
def upT (q : Nat → Bool) (n j : Nat) : Nat := if fdF q (n - j) (j + 1) ≤ n then fdF q (n - j) (j + 1) else 0
theorem upT_n (q : Nat → Bool) (n : Nat) : upT q n n = 0 := by unfold upT; rw [Nat.sub_self]; exact if_neg (Nat.not_succ_le_self n)
theorem upT_s {q : Nat → Bool} {n j : Nat} (h : j < n) : upT q n j = if q (j + 1) = true then j + 1 else upT q n (j + 1) := by
  unfold upT
  rw [show n - j = (n - (j + 1)) + 1 by omega, fdF_succ]
  split
  · rename_i hq; rw [if_pos (by omega)]
  · rfl

set_option maxHeartbeats 4000000 in
set_option maxRecDepth 100000 in
theorem l_mSB {K : KT} {ad : Nat → Nat} {g : St} {X : LN} (hX : MC g X) {p a t n : Nat} {x1 x3 : Int32} {f1 f2 f3 : Nat → Int32} {v2 : Int32} (hx : x1 = nI p) (hp : p < X.2.2.1.1) (ha : a < X.1) (hMP : MPt f2 f3 v2 X.2.1 (kN X p) t a) (hn : n = rn0 X.2.1 (kN X p) t a) (hK : Cx K RX10 cX10_saidBy 4 ad) (hm : K.2.2.1.2.maxLocals = 7) (hnn : Nn K 0 0)
    (h103 : Wp K 0 0 TT ad (pM g f1 f2 f3 v2) 103 [(0, .ref 91), (1, .int x1), (2, .int (nI a)), (3, .int x3), (5, .int (nI (upT (fun i => decide (rP X.2.1 (kN X p) t a i = X.2.2.1.2.2.1 p)) n 0)))] []) :
    ∀ j, j ≤ n → Wp K 0 0 TT ad (pM g f1 f2 f3 v2) 65 [(0, .ref 91), (1, .int x1), (2, .int (nI a)), (3, .int x3), (5, .int (nI (upT (fun i => decide (rP X.2.1 (kN X p) t a i = X.2.2.1.2.2.1 p)) n j))), (6, .int (nI j))] [] := by
  obtain ⟨hok, hpo, hlaw, xx, hW, hPs, x4⟩ := id hX
  have h10 := hok.2.1
  have h6 := hpo.1
  have hrb := rt_b hok (kN X p) t ha
  obtain ⟨p1, p2, p3, p4, p5⟩ := hpo.2 p hp
  obtain ⟨r1, r2, r3, r4, r5⟩ := hPs.2 p hp
  intro j
  induction j with
  | zero =>
    intro hj
    refine r_iload (i := 6) hK dX10_saidBy_65 rfl ?_
    refine r_if_le (tgt := 103) hK dX10_saidBy_67 (by decide) (fun _ => ?_) (fun h => absurd (by decide) h)
    refine r_loc ?_ h103
    rfl
  | succ j ih =>
    intro hj
    have hj9 : j < n := hj
    have ih2 := ih (by omega)
    have hpl := (hrb.2 (j + 1) (by omega)).1
    obtain ⟨u, hu⟩ : ∃ u, u = upT (fun i => decide (rP X.2.1 (kN X p) t a i = X.2.2.1.2.2.1 p)) n j := ⟨_, rfl⟩
    obtain ⟨u1, hu1⟩ : ∃ u, u = upT (fun i => decide (rP X.2.1 (kN X p) t a i = X.2.2.1.2.2.1 p)) n (j + 1) := ⟨_, rfl⟩
    rw [← hu] at ih2
    rw [← hu1]
    clear ih
    refine r_iload (i := 6) hK dX10_saidBy_65 rfl ?_
    refine r_if_le (tgt := 103) hK dX10_saidBy_67 (by decide) (fun h => absurd h (nI_nle (Nat.succ_pos j) (by omega))) (fun _ => ?_)
    refine r_aload_n (i := 0) hK dX10_saidBy_70 rfl rfl ?_
    refine r_getA hK flX10_68 to_91 rfl dX10_saidBy_71 ?_
    refine r_iload (i := 6) hK dX10_saidBy_74 rfl ?_
    refine r_iconst (v := 1) hK dX10_saidBy_76 (by decide) ?_
    refine r_isub hK dX10_saidBy_77 ?_
    refine r_top (y := nI (j + 1 - 1)) (pk_sub (a := j + 1) (b := 1) (by omega)) ?_
    refine r_ialN hK to_110 rfl (by omega) (by decide) ((congrFun pM_110 _).trans (mp_s (k := j + 1) hMP (Nat.succ_pos j) (by omega)).1) dX10_saidBy_78 ?_
    refine r_aload_n (i := 0) hK dX10_saidBy_79 rfl rfl ?_
    refine r_getA hK flX10_22 to_91 rfl dX10_saidBy_80 ?_
    refine r_iload_n (i := 1) hK dX10_saidBy_83 rfl rfl ?_
    refine r_ialN hK to_96 hx (by omega) (by decide) ((congrFun (FM_pM.1 96 (by decide)) _).trans r2) dX10_saidBy_84 ?_
    refine r_icmp_ne (tgt := 93) hK dX10_saidBy_85 (by decide) (fun h85 => ?_) (fun h85 => ?_)
    · refine r_iload (i := 5) hK dX10_saidBy_93 rfl ?_
      refine r_istore (i := 5) hK hm dX10_saidBy_95 (by decide) ?_
      refine r_iincD (i := 6) hK hm dX10_saidBy_97 rfl (by decide) ?_
      refine r_goto (tgt := 65) hK dX10_saidBy_100 (by decide) ?_
      first
        | (have hq : (fun i => decide (rP X.2.1 (kN X p) t a i = X.2.2.1.2.2.1 p)) (j + 1) = true := decide_eq_true (nI_inj (by omega) (by omega) h85); have e9 : u = j + 1 := (by rw [hu, upT_s hj9, if_pos hq]); rw [e9] at ih2; refine r_loc ?_ ih2; rfl)
        | (have hq : ¬ (fun i => decide (rP X.2.1 (kN X p) t a i = X.2.2.1.2.2.1 p)) (j + 1) = true := fun z => h85 (congrArg nI (of_decide_eq_true z)); have e9 : u = u1 := (by rw [hu, hu1, upT_s hj9, if_neg hq]); rw [e9] at ih2; refine r_loc ?_ ih2; rfl)
    · refine r_iload (i := 6) hK dX10_saidBy_88 rfl ?_
      refine r_goto (tgt := 95) hK dX10_saidBy_90 (by decide) ?_
      refine r_istore (i := 5) hK hm dX10_saidBy_95 (by decide) ?_
      refine r_iincD (i := 6) hK hm dX10_saidBy_97 rfl (by decide) ?_
      refine r_goto (tgt := 65) hK dX10_saidBy_100 (by decide) ?_
      first
        | (have hq : (fun i => decide (rP X.2.1 (kN X p) t a i = X.2.2.1.2.2.1 p)) (j + 1) = true := decide_eq_true (nI_inj (by omega) (by omega) h85); have e9 : u = j + 1 := (by rw [hu, upT_s hj9, if_pos hq]); rw [e9] at ih2; refine r_loc ?_ ih2; rfl)
        | (have hq : ¬ (fun i => decide (rP X.2.1 (kN X p) t a i = X.2.2.1.2.2.1 p)) (j + 1) = true := fun z => h85 (congrArg nI (of_decide_eq_true z)); have e9 : u = u1 := (by rw [hu, hu1, upT_s hj9, if_neg hq]); rw [e9] at ih2; refine r_loc ?_ ih2; rfl)
set_option maxHeartbeats 4000000 in
set_option maxRecDepth 100000 in
theorem c_mSaidBy {ad : Nat → Nat} {g : St} {X : LN} (hX : MC g X) {p a t : Nat} {x y z : Int32} (hx : x = nI p) (hp : p < X.2.2.1.1) (hy : y = nI a) (ha : a < X.1) (hz : z = nI t) (ht : t < X.1) : Ci 4 mX10_saidBy [.ref 91, .int x, .int y, .int z] ad g (fun v g' => ∃ f1 f2 f3 v2, g' = pM g f1 f2 f3 v2 ∧ MPt f2 f3 v2 X.2.1 (kN X p) t a ∧ v = nI (saX X p a t)) := by
  subst hx; subst hy; subst hz
  obtain ⟨hok, hpo, hlaw, x1, hW, hPs, x4⟩ := id hX
  have h10 := hok.2.1
  have h6 := hpo.1
  have h14 := hok.1
  obtain ⟨p1, p2, p3, p4, p5⟩ := hpo.2 p hp
  obtain ⟨r1, r2, r3, r4, r5⟩ := hPs.2 p hp
  have hrb9 := (rt_b hok (kN X p) t ha).1
  refine Cm.mk rfl (Nat.le_of_ble_eq_true rfl) (fun K hK hR hm hnn => ?_)
  refine r_aload_n (i := 0) hK dX10_saidBy_0 rfl rfl ?_
  refine r_aload_n (i := 0) hK dX10_saidBy_1 rfl rfl ?_
  refine r_getA hK flX10_31 to_91 rfl dX10_saidBy_2 ?_
  refine r_iload_n (i := 1) hK dX10_saidBy_5 rfl rfl ?_
  refine r_ialN hK to_99 rfl (by omega) (by decide) r5 dX10_saidBy_6 ?_
  refine r_iload_n (i := 2) hK dX10_saidBy_7 rfl rfl ?_
  refine r_iload_n (i := 3) hK dX10_saidBy_8 rfl rfl ?_
  refine r_ci3 hK hnn (c_mRoute0 hok hW rfl (Nat.lt_trans p5 (by decide)) rfl ha rfl ht) moX10_findRoute mlX10_263 to_91 rfl rfl dX10_saidBy_9 (Nat.le_of_ble_eq_true rfl) (Nat.le_of_ble_eq_true rfl) (fun v9 g9 q9 => ?_)
  obtain ⟨f1, f2, f3, rfl, hMP⟩ := q9
  obtain ⟨v2, rfl⟩ : ∃ x, x = v9 := ⟨_, rfl⟩
  refine r_istore (i := 4) hK hm dX10_saidBy_12 (by decide) ?_
  refine r_iload (i := 4) hK dX10_saidBy_14 rfl ?_
  refine r_iconst (v := 1) hK dX10_saidBy_16 (by decide) ?_
  refine r_icmp_lt (tgt := 29) hK dX10_saidBy_17 (by decide) (fun h17 => ?_) (fun h17 => ?_)
  · refine r_iconst (v := 0) hK dX10_saidBy_29 (by decide) ?_
    refine q_iret hK hR dX10_saidBy_30 ?_
    refine ⟨f1, f2, f3, v2, rfl, hMP, ?_⟩
    first
      | (have e9 : saX X p a t = 0 := sdF_z (mp_z hMP h17 hrb9); rw [e9]; rfl)
      | (have e9 : saX X p a t = 0 := (by unfold saX sdF; rw [show X.2.2.2.1 p = 0 from nI_inj (by omega) (by decide) h26]; rfl); rw [e9]; rfl)
  · refine r_aload_n (i := 0) hK dX10_saidBy_20 rfl rfl ?_
    have hv2 : v2 = nI (rn0 X.2.1 (kN X p) t a) ∧ 1 ≤ rn0 X.2.1 (kN X p) t a := by
      rcases mp_v hMP with ⟨q1, q2⟩ | ⟨q1, q2, q3⟩
      · rw [q2] at h17; exact ⟨q2, Nat.le_of_not_lt (nlt_I h17 (by decide))⟩
      · exfalso; rw [q2] at h17; exact h17 (by decide)
    obtain ⟨hv3, hn1⟩ := hv2
    refine r_getA hK flX10_28 to_91 rfl dX10_saidBy_21 ?_
    refine r_iload_n (i := 1) hK dX10_saidBy_24 rfl rfl ?_
    refine r_ialN hK to_98 rfl (by omega) (by decide) ((congrFun (FM_pM.1 98 (by decide)) _).trans r4) dX10_saidBy_25 ?_
    refine r_if_ne (tgt := 31) hK dX10_saidBy_26 (by decide) (fun h26 => ?_) (fun h26 => ?_)
    · refine r_aload_n (i := 0) hK dX10_saidBy_31 rfl rfl ?_
      refine r_getA hK flX10_28 to_91 rfl dX10_saidBy_32 ?_
      refine r_iload_n (i := 1) hK dX10_saidBy_35 rfl rfl ?_
      refine r_ialN hK to_98 rfl (by omega) (by decide) ((congrFun (FM_pM.1 98 (by decide)) _).trans r4) dX10_saidBy_36 ?_
      refine r_iconst (v := 2) hK dX10_saidBy_37 (by decide) ?_
      refine r_icmp_eq (tgt := 58) hK dX10_saidBy_38 (by decide) (fun h38 => ?_) (fun h38 => ?_)
      · have h103 : Wp K 0 0 TT ad (pM g f1 f2 f3 v2) 103 [(0, .ref 91), (1, .int (nI p)), (2, .int (nI a)), (3, .int (nI t)), (5, .int (nI (upT (fun i => decide (rP X.2.1 (kN X p) t a i = X.2.2.1.2.2.1 p)) (rn0 X.2.1 (kN X p) t a) 0)))] [] := by
          refine r_iload_n (i := 2) hK dX10_saidBy_103 rfl rfl ?_
          refine r_aload_n (i := 0) hK dX10_saidBy_104 rfl rfl ?_
          refine r_getA hK flX10_22 to_91 rfl dX10_saidBy_105 ?_
          refine r_iload_n (i := 1) hK dX10_saidBy_108 rfl rfl ?_
          refine r_ialN hK to_96 rfl (by omega) (by decide) ((congrFun (FM_pM.1 96 (by decide)) _).trans r2) dX10_saidBy_109 ?_
          refine r_icmp_ne (tgt := 117) hK dX10_saidBy_110 (by decide) (fun h110 => ?_) (fun h110 => ?_)
          · refine r_iload (i := 5) hK dX10_saidBy_117 rfl ?_
            refine q_iret hK hR dX10_saidBy_119 ?_
            refine ⟨f1, f2, f3, v2, rfl, hMP, ?_⟩
            unfold saX sdF
            have h2 : X.2.2.2.1 p = 2 := nI_inj (by omega) (by decide) h38
            rw [h2, if_neg (by decide), if_pos rfl]
            first
              | (rw [if_neg (pT_no hok ha (nI_inj (by omega) (by omega) h110))]; rfl)
              | (refine congrArg nI ?_; unfold upT; rw [Nat.sub_zero]; rfl)
          · refine r_iconst (v := 0) hK dX10_saidBy_113 (by decide) ?_
            refine r_goto (tgt := 119) hK dX10_saidBy_114 (by decide) ?_
            refine q_iret hK hR dX10_saidBy_119 ?_
            refine ⟨f1, f2, f3, v2, rfl, hMP, ?_⟩
            unfold saX sdF
            have h2 : X.2.2.2.1 p = 2 := nI_inj (by omega) (by decide) h38
            rw [h2, if_neg (by decide), if_pos rfl]
            first
              | (rw [if_neg (pT_no hok ha (nI_inj (by omega) (by omega) h110))]; rfl)
              | (refine congrArg nI ?_; unfold upT; rw [Nat.sub_zero]; rfl)
        refine r_iconst (v := 0) hK dX10_saidBy_58 (by decide) ?_
        refine r_istore (i := 5) hK hm dX10_saidBy_59 (by decide) ?_
        refine r_iload (i := 4) hK dX10_saidBy_61 rfl ?_
        refine r_istore (i := 6) hK hm dX10_saidBy_63 (by decide) ?_
        refine r_loc ?_ (l_mSB (x3 := nI t) hX rfl hp ha hMP rfl hK hm hnn h103 (rn0 X.2.1 (kN X p) t a) (Nat.le_refl _))
        rw [upT_n, ← hv3]
        rfl
      · refine r_aload_n (i := 0) hK dX10_saidBy_41 rfl rfl ?_
        refine r_getA hK flX10_28 to_91 rfl dX10_saidBy_42 ?_
        refine r_iload_n (i := 1) hK dX10_saidBy_45 rfl rfl ?_
        refine r_ialN hK to_98 rfl (by omega) (by decide) ((congrFun (FM_pM.1 98 (by decide)) _).trans r4) dX10_saidBy_46 ?_
        refine r_iconst (v := 1) hK dX10_saidBy_47 (by decide) ?_
        refine r_icmp_ne (tgt := 55) hK dX10_saidBy_48 (by decide) (fun h48 => ?_) (fun h48 => ?_)
        · refine r_iload (i := 4) hK dX10_saidBy_55 rfl ?_
          refine q_iret hK hR dX10_saidBy_57 ?_
          refine ⟨f1, f2, f3, v2, rfl, hMP, ?_⟩
          unfold saX sdF
          first
            | (have h1 : X.2.2.2.1 p = 1 := nI_inj (by omega) (by decide) h48; rw [h1, if_pos rfl, Nat.min_eq_left hn1]; rfl)
            | (have h3 : X.2.2.2.1 p = 3 := (by have a1 : X.2.2.2.1 p ≠ 1 := fun z => h48 (by rw [z]; rfl); have a2 : X.2.2.2.1 p ≠ 2 := fun z => h38 (by rw [z]; rfl); have a0 : X.2.2.2.1 p ≠ 0 := fun z => h26 (by rw [z]; rfl); omega); rw [h3, if_neg (by decide), if_neg (by decide), if_pos rfl]; exact hv3)
        · refine r_iconst (v := 1) hK dX10_saidBy_51 (by decide) ?_
          refine r_goto (tgt := 57) hK dX10_saidBy_52 (by decide) ?_
          refine q_iret hK hR dX10_saidBy_57 ?_
          refine ⟨f1, f2, f3, v2, rfl, hMP, ?_⟩
          unfold saX sdF
          first
            | (have h1 : X.2.2.2.1 p = 1 := nI_inj (by omega) (by decide) h48; rw [h1, if_pos rfl, Nat.min_eq_left hn1]; rfl)
            | (have h3 : X.2.2.2.1 p = 3 := (by have a1 : X.2.2.2.1 p ≠ 1 := fun z => h48 (by rw [z]; rfl); have a2 : X.2.2.2.1 p ≠ 2 := fun z => h38 (by rw [z]; rfl); have a0 : X.2.2.2.1 p ≠ 0 := fun z => h26 (by rw [z]; rfl); omega); rw [h3, if_neg (by decide), if_neg (by decide), if_pos rfl]; exact hv3)
    · refine r_iconst (v := 0) hK dX10_saidBy_29 (by decide) ?_
      refine q_iret hK hR dX10_saidBy_30 ?_
      refine ⟨f1, f2, f3, v2, rfl, hMP, ?_⟩
      first
        | (have e9 : saX X p a t = 0 := sdF_z (mp_z hMP h17 hrb9); rw [e9]; rfl)
        | (have e9 : saX X p a t = 0 := (by unfold saX sdF; rw [show X.2.2.2.1 p = 0 from nI_inj (by omega) (by decide) h26]; rfl); rw [e9]; rfl)
