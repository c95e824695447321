/-! THE MODEL: gains, own answers -/
theorem fdF_cut {q : Nat → Bool} {n k : Nat} (h : k ≤ n) : fdF q k 1 ≤ k ↔ fdF q n 1 ≤ k := by
  have b1 := fdF_le q k 1
  have b2 := fdF_le q n 1
  constructor
  · intro z
    have e := fdF_is (p := q) n 1 (fdF q k 1) b1.1 (by omega) (fdF_at k 1 (by omega)) (fun j h1 h2 => fdF_bef k 1 j h1 h2)
    omega
  · intro z
    have e := fdF_is (p := q) k 1 (fdF q n 1) b2.1 (by omega) (fdF_at n 1 (by omega)) (fun j h1 h2 => fdF_bef n 1 j h1 h2)
    omega
theorem mcm_eq {np : Nat} {D : WD} {kn : Nat → Bool} {t a law k er wo : Nat} (hok : wOk np D) (ha : a < np) (hk : k ≤ rn0 D kn t a) : cmW D kn t a law k er wo = if fdF (fun i => decide (rP D kn t a i = er)) (oL law k) 1 ≤ oL law k ∧ a ≠ er then wo else 0 := by
  unfold cmW
  have ho : oL law k ≤ rn0 D kn t a := Nat.le_trans oL_le hk
  have hc := fdF_cut (q := fun i => decide (rP D kn t a i = er)) ho
  by_cases h : pT D kn t a er ≤ rn0 D kn t a ∧ pT D kn t a er ≤ oL law k
  · rw [if_pos h, if_pos ⟨hc.mpr h.2, fun z => pT_no hok ha z h.1⟩]
  · rw [if_neg h, if_neg (fun z => h ⟨Nat.le_trans (hc.mp z.1) ho, hc.mp z.1⟩)]
def cqB (q : Nat → Bool) (n i : Nat) : Bool := decide (fdF q n 1 < i)
theorem cqB_1 (q : Nat → Bool) (n : Nat) : cqB q n 1 = false := decide_eq_false (Nat.not_lt.mpr (fdF_le q n 1).1)
theorem cqB_s {q : Nat → Bool} {n i : Nat} (h1 : 1 ≤ i) (h : i ≤ n) : cqB q n (i + 1) = (cqB q n i || q i) := by
  unfold cqB
  by_cases c1 : fdF q n 1 < i
  · rw [decide_eq_true c1, decide_eq_true (show fdF q n 1 < i + 1 by omega)]; rfl
  · rw [decide_eq_false c1, Bool.false_or]
    by_cases c2 : fdF q n 1 = i
    · rw [decide_eq_true (show fdF q n 1 < i + 1 by omega), ← c2, fdF_at (p := q) n 1 (by omega)]
    · rw [decide_eq_false (show ¬ fdF q n 1 < i + 1 by omega), fdF_bef (p := q) n 1 i h1 (by omega)]

set_option maxHeartbeats 4000000 in
set_option maxRecDepth 100000 in
theorem l_mG {K : KT} {ad : Nat → Nat} {g : St} {X : LN} (hX : MC g X) {p a t k : Nat} (hp : p < X.2.2.1.1) (ha : a < X.1) (hP : MR g X.2.1 (kN X p) t a) (hk : k ≤ rn0 X.2.1 (kN X p) t a) {cq : Nat → Bool} (hcs : ∀ i, 1 ≤ i → i ≤ (oL X.2.2.2.2.2 k) → cq (i + 1) = (cq i || (fun i => decide (rP X.2.1 (kN X p) t a i = X.2.2.1.2.2.1 p)) i)) (hK : Cx K RX10 cX10_gainOf 3 ad) (hm : K.2.2.1.2.maxLocals = 6) (hnn : Nn K 0 0)
    (h50 : Wp K 0 0 TT ad g 50 [(0, .ref 91), (1, .int (nI p)), (2, .int (nI a)), (3, .int (nI k)), (4, .int (B1 (cq ((oL X.2.2.2.2.2 k) + 1))))] []) :
    ∀ m i, 1 ≤ i → i + m = (oL X.2.2.2.2.2 k) + 1 → Wp K 0 0 TT ad g 6 [(0, .ref 91), (1, .int (nI p)), (2, .int (nI a)), (3, .int (nI k)), (4, .int (B1 (cq i))), (5, .int (nI i))] [] := by
  obtain ⟨hok, hpo, hlaw, x1, hW, hPs, x4⟩ := id hX
  have h10 := hok.2.1
  have h6 := hpo.1
  have h14 := hok.1
  obtain ⟨p1, p2, p3, p4, p5⟩ := hpo.2 p hp
  obtain ⟨r1, r2, r3, r4, r5⟩ := hPs.2 p hp
  have hrb := rt_b hok (kN X p) t ha
  have hol : oL X.2.2.2.2.2 k ≤ k := oL_le
  intro m
  induction m with
  | zero =>
    intro i h1i him
    have e : i = (oL X.2.2.2.2.2 k) + 1 := by omega
    subst e
    refine r_iload (i := 5) hK dX10_gainOf_6 rfl ?_
    refine r_aload_n (i := 0) hK dX10_gainOf_8 rfl rfl ?_
    refine r_iload_n (i := 3) hK dX10_gainOf_9 rfl rfl ?_
    refine r_ci1 hK hnn (c_mOutOf x4 hlaw rfl (by omega)) moX10_outOf mlX10_271 to_91 rfl rfl dX10_gainOf_10 (Nat.le_of_ble_eq_true rfl) (Nat.le_of_ble_eq_true rfl) (eqI ?_)
    refine r_icmp_gt (tgt := 50) hK dX10_gainOf_13 (by decide) (fun _ => ?_) (fun h => absurd (nI_lt (Nat.lt_succ_self _) (by omega)) h)
    refine r_loc ?_ h50
    rfl
  | succ m ih =>
    intro i h1i him
    have ih2 := ih (i + 1) (by omega) (by omega)
    have hpl := (hrb.2 i (by omega)).1
    refine r_iload (i := 5) hK dX10_gainOf_6 rfl ?_
    refine r_aload_n (i := 0) hK dX10_gainOf_8 rfl rfl ?_
    refine r_iload_n (i := 3) hK dX10_gainOf_9 rfl rfl ?_
    refine r_ci1 hK hnn (c_mOutOf x4 hlaw rfl (by omega)) moX10_outOf mlX10_271 to_91 rfl rfl dX10_gainOf_10 (Nat.le_of_ble_eq_true rfl) (Nat.le_of_ble_eq_true rfl) (eqI ?_)
    refine r_icmp_gt (tgt := 50) hK dX10_gainOf_13 (by decide) (fun h => absurd h (nI_nlt (show i ≤ (oL X.2.2.2.2.2 k) by omega) (by omega))) (fun _ => ?_)
    refine r_iload (i := 4) hK dX10_gainOf_16 rfl ?_
    refine r_if_ne (tgt := 37) hK dX10_gainOf_18 (by decide) (fun h18 => ?_) (fun h18 => ?_)
    · refine r_iconst (v := 1) hK dX10_gainOf_37 (by decide) ?_
      refine r_goto (tgt := 42) hK dX10_gainOf_38 (by decide) ?_
      refine r_istore (i := 4) hK hm dX10_gainOf_42 (by decide) ?_
      refine r_iincN (i := 5) hK hm dX10_gainOf_44 rfl (by decide) ?_
      refine r_goto (tgt := 6) hK dX10_gainOf_47 (by decide) ?_
      first
        | (have e9 : cq (i + 1) = true := (by rw [hcs i h1i (by omega), B1_n.mp h18, Bool.true_or]); rw [e9] at ih2; refine r_loc ?_ ih2; rfl)
        | (have hq : (fun i => decide (rP X.2.1 (kN X p) t a i = X.2.2.1.2.2.1 p)) i = true := decide_eq_true (nI_inj (by omega) (by omega) h34); have e9 : cq (i + 1) = true := (by rw [hcs i h1i (by omega), hq, Bool.or_true]); rw [e9] at ih2; refine r_loc ?_ ih2; rfl)
        | (have hq : (fun i => decide (rP X.2.1 (kN X p) t a i = X.2.2.1.2.2.1 p)) i = false := decide_eq_false (fun z => h34 (congrArg nI z)); have e9 : cq (i + 1) = false := (by rw [hcs i h1i (by omega), B1_0.mp h18, hq, Bool.or_false]); rw [e9] at ih2; refine r_loc ?_ ih2; rfl)
    · refine r_aload_n (i := 0) hK dX10_gainOf_21 rfl rfl ?_
      refine r_iload_n (i := 2) hK dX10_gainOf_22 rfl rfl ?_
      refine r_iload (i := 5) hK dX10_gainOf_23 rfl ?_
      refine r_ci2 hK hnn (c_mEndOf hok ha hP rfl rfl (by omega)) moX10_endOf mlX10_274 to_91 rfl rfl dX10_gainOf_25 (Nat.le_of_ble_eq_true rfl) (Nat.le_of_ble_eq_true rfl) (eqI ?_)
      refine r_aload_n (i := 0) hK dX10_gainOf_28 rfl rfl ?_
      refine r_getA hK flX10_22 to_91 rfl dX10_gainOf_29 ?_
      refine r_iload_n (i := 1) hK dX10_gainOf_32 rfl rfl ?_
      refine r_ialN hK to_96 rfl (by omega) (by decide) r2 dX10_gainOf_33 ?_
      refine r_icmp_ne (tgt := 41) hK dX10_gainOf_34 (by decide) (fun h34 => ?_) (fun h34 => ?_)
      · refine r_iconst (v := 0) hK dX10_gainOf_41 (by decide) ?_
        refine r_istore (i := 4) hK hm dX10_gainOf_42 (by decide) ?_
        refine r_iincN (i := 5) hK hm dX10_gainOf_44 rfl (by decide) ?_
        refine r_goto (tgt := 6) hK dX10_gainOf_47 (by decide) ?_
        first
          | (have e9 : cq (i + 1) = true := (by rw [hcs i h1i (by omega), B1_n.mp h18, Bool.true_or]); rw [e9] at ih2; refine r_loc ?_ ih2; rfl)
          | (have hq : (fun i => decide (rP X.2.1 (kN X p) t a i = X.2.2.1.2.2.1 p)) i = true := decide_eq_true (nI_inj (by omega) (by omega) h34); have e9 : cq (i + 1) = true := (by rw [hcs i h1i (by omega), hq, Bool.or_true]); rw [e9] at ih2; refine r_loc ?_ ih2; rfl)
          | (have hq : (fun i => decide (rP X.2.1 (kN X p) t a i = X.2.2.1.2.2.1 p)) i = false := decide_eq_false (fun z => h34 (congrArg nI z)); have e9 : cq (i + 1) = false := (by rw [hcs i h1i (by omega), B1_0.mp h18, hq, Bool.or_false]); rw [e9] at ih2; refine r_loc ?_ ih2; rfl)
      · refine r_iconst (v := 1) hK dX10_gainOf_37 (by decide) ?_
        refine r_goto (tgt := 42) hK dX10_gainOf_38 (by decide) ?_
        refine r_istore (i := 4) hK hm dX10_gainOf_42 (by decide) ?_
        refine r_iincN (i := 5) hK hm dX10_gainOf_44 rfl (by decide) ?_
        refine r_goto (tgt := 6) hK dX10_gainOf_47 (by decide) ?_
        first
          | (have e9 : cq (i + 1) = true := (by rw [hcs i h1i (by omega), B1_n.mp h18, Bool.true_or]); rw [e9] at ih2; refine r_loc ?_ ih2; rfl)
          | (have hq : (fun i => decide (rP X.2.1 (kN X p) t a i = X.2.2.1.2.2.1 p)) i = true := decide_eq_true (nI_inj (by omega) (by omega) h34); have e9 : cq (i + 1) = true := (by rw [hcs i h1i (by omega), hq, Bool.or_true]); rw [e9] at ih2; refine r_loc ?_ ih2; rfl)
          | (have hq : (fun i => decide (rP X.2.1 (kN X p) t a i = X.2.2.1.2.2.1 p)) i = false := decide_eq_false (fun z => h34 (congrArg nI z)); have e9 : cq (i + 1) = false := (by rw [hcs i h1i (by omega), B1_0.mp h18, hq, Bool.or_false]); rw [e9] at ih2; refine r_loc ?_ ih2; rfl)
set_option maxHeartbeats 4000000 in
set_option maxRecDepth 100000 in
theorem c_mGainOf {ad : Nat → Nat} {g : St} {X : LN} (hX : MC g X) {p a t k : Nat} (hp : p < X.2.2.1.1) (ha : a < X.1) (hP : MR g X.2.1 (kN X p) t a) (hk : k ≤ rn0 X.2.1 (kN X p) t a) {x y z : Int32} (hx : x = nI p) (hy : y = nI a) (hz : z = nI k) : Ci 3 mX10_gainOf [.ref 91, .int x, .int y, .int z] ad g (fun v g' => v = nI (cmW X.2.1 (kN X p) t a X.2.2.2.2.2 k (X.2.2.1.2.2.1 p) (X.2.2.1.2.2.2 p)) - nI (wL X.2.1 (kN X p) t a X.2.2.2.2.2 k) ∧ g' = g) := by
  subst hx; subst hy; subst hz
  obtain ⟨hok, hpo, hlaw, x1, hW, hPs, x4⟩ := id hX
  have h10 := hok.2.1
  have h6 := hpo.1
  have h14 := hok.1
  obtain ⟨p1, p2, p3, p4, p5⟩ := hpo.2 p hp
  obtain ⟨r1, r2, r3, r4, r5⟩ := hPs.2 p hp
  have hrb := rt_b hok (kN X p) t ha
  have hol : oL X.2.2.2.2.2 k ≤ k := oL_le
  refine Cm.mk rfl (Nat.le_of_ble_eq_true rfl) (fun K hK hR hm hnn => ?_)
  have h50 : Wp K 0 0 TT ad g 50 [(0, .ref 91), (1, .int (nI p)), (2, .int (nI a)), (3, .int (nI k)), (4, .int (B1 (cqB (fun i => decide (rP X.2.1 (kN X p) t a i = X.2.2.1.2.2.1 p)) (oL X.2.2.2.2.2 k) ((oL X.2.2.2.2.2 k) + 1))))] [] := by
    refine r_iload (i := 4) hK dX10_gainOf_50 rfl ?_
    refine r_if_eq (tgt := 74) hK dX10_gainOf_52 (by decide) (fun h52 => ?_) (fun h52 => ?_)
    · refine r_iconst (v := 0) hK dX10_gainOf_74 (by decide) ?_
      refine r_aload_n (i := 0) hK dX10_gainOf_75 rfl rfl ?_
      refine r_iload_n (i := 3) hK dX10_gainOf_76 rfl rfl ?_
      refine r_ci1 hK hnn (c_mWalked hok ha hP x4 hlaw rfl hk) moX10_walked mlX10_283 to_91 rfl rfl dX10_gainOf_77 (Nat.le_of_ble_eq_true rfl) (Nat.le_of_ble_eq_true rfl) (eqI ?_)
      refine r_isub hK dX10_gainOf_80 ?_
      refine q_iret hK hR dX10_gainOf_81 ?_
      refine ⟨congrArg (fun z => z - nI (wL X.2.1 (kN X p) t a X.2.2.2.2.2 k)) ?_, rfl⟩
      rw [mcm_eq hok ha hk]
      first
        | (have hcq : fdF (fun i => decide (rP X.2.1 (kN X p) t a i = X.2.2.1.2.2.1 p)) (oL X.2.2.2.2.2 k) 1 < (oL X.2.2.2.2.2 k) + 1 := of_decide_eq_true (B1_n.mp h52); rw [if_pos ⟨Nat.le_of_lt_succ hcq, fun z => h62 (congrArg nI z)⟩]; done)
        | (have hcq : ¬ fdF (fun i => decide (rP X.2.1 (kN X p) t a i = X.2.2.1.2.2.1 p)) (oL X.2.2.2.2.2 k) 1 < (oL X.2.2.2.2.2 k) + 1 := of_decide_eq_false (B1_0.mp h52); rw [if_neg (fun z => hcq (Nat.lt_succ_of_le z.1))]; rfl)
        | (rw [if_neg (fun z => z.2 (nI_inj (by omega) (by omega) h62))]; rfl)
    · refine r_iload_n (i := 2) hK dX10_gainOf_55 rfl rfl ?_
      refine r_aload_n (i := 0) hK dX10_gainOf_56 rfl rfl ?_
      refine r_getA hK flX10_22 to_91 rfl dX10_gainOf_57 ?_
      refine r_iload_n (i := 1) hK dX10_gainOf_60 rfl rfl ?_
      refine r_ialN hK to_96 rfl (by omega) (by decide) r2 dX10_gainOf_61 ?_
      refine r_icmp_eq (tgt := 74) hK dX10_gainOf_62 (by decide) (fun h62 => ?_) (fun h62 => ?_)
      · refine r_iconst (v := 0) hK dX10_gainOf_74 (by decide) ?_
        refine r_aload_n (i := 0) hK dX10_gainOf_75 rfl rfl ?_
        refine r_iload_n (i := 3) hK dX10_gainOf_76 rfl rfl ?_
        refine r_ci1 hK hnn (c_mWalked hok ha hP x4 hlaw rfl hk) moX10_walked mlX10_283 to_91 rfl rfl dX10_gainOf_77 (Nat.le_of_ble_eq_true rfl) (Nat.le_of_ble_eq_true rfl) (eqI ?_)
        refine r_isub hK dX10_gainOf_80 ?_
        refine q_iret hK hR dX10_gainOf_81 ?_
        refine ⟨congrArg (fun z => z - nI (wL X.2.1 (kN X p) t a X.2.2.2.2.2 k)) ?_, rfl⟩
        rw [mcm_eq hok ha hk]
        first
          | (have hcq : fdF (fun i => decide (rP X.2.1 (kN X p) t a i = X.2.2.1.2.2.1 p)) (oL X.2.2.2.2.2 k) 1 < (oL X.2.2.2.2.2 k) + 1 := of_decide_eq_true (B1_n.mp h52); rw [if_pos ⟨Nat.le_of_lt_succ hcq, fun z => h62 (congrArg nI z)⟩]; done)
          | (have hcq : ¬ fdF (fun i => decide (rP X.2.1 (kN X p) t a i = X.2.2.1.2.2.1 p)) (oL X.2.2.2.2.2 k) 1 < (oL X.2.2.2.2.2 k) + 1 := of_decide_eq_false (B1_0.mp h52); rw [if_neg (fun z => hcq (Nat.lt_succ_of_le z.1))]; rfl)
          | (rw [if_neg (fun z => z.2 (nI_inj (by omega) (by omega) h62))]; rfl)
      · refine r_aload_n (i := 0) hK dX10_gainOf_65 rfl rfl ?_
        refine r_getA hK flX10_25 to_91 rfl dX10_gainOf_66 ?_
        refine r_iload_n (i := 1) hK dX10_gainOf_69 rfl rfl ?_
        refine r_ialN hK to_97 rfl (by omega) (by decide) r3 dX10_gainOf_70 ?_
        refine r_goto (tgt := 75) hK dX10_gainOf_71 (by decide) ?_
        refine r_aload_n (i := 0) hK dX10_gainOf_75 rfl rfl ?_
        refine r_iload_n (i := 3) hK dX10_gainOf_76 rfl rfl ?_
        refine r_ci1 hK hnn (c_mWalked hok ha hP x4 hlaw rfl hk) moX10_walked mlX10_283 to_91 rfl rfl dX10_gainOf_77 (Nat.le_of_ble_eq_true rfl) (Nat.le_of_ble_eq_true rfl) (eqI ?_)
        refine r_isub hK dX10_gainOf_80 ?_
        refine q_iret hK hR dX10_gainOf_81 ?_
        refine ⟨congrArg (fun z => z - nI (wL X.2.1 (kN X p) t a X.2.2.2.2.2 k)) ?_, rfl⟩
        rw [mcm_eq hok ha hk]
        first
          | (have hcq : fdF (fun i => decide (rP X.2.1 (kN X p) t a i = X.2.2.1.2.2.1 p)) (oL X.2.2.2.2.2 k) 1 < (oL X.2.2.2.2.2 k) + 1 := of_decide_eq_true (B1_n.mp h52); rw [if_pos ⟨Nat.le_of_lt_succ hcq, fun z => h62 (congrArg nI z)⟩]; done)
          | (have hcq : ¬ fdF (fun i => decide (rP X.2.1 (kN X p) t a i = X.2.2.1.2.2.1 p)) (oL X.2.2.2.2.2 k) 1 < (oL X.2.2.2.2.2 k) + 1 := of_decide_eq_false (B1_0.mp h52); rw [if_neg (fun z => hcq (Nat.lt_succ_of_le z.1))]; rfl)
          | (rw [if_neg (fun z => z.2 (nI_inj (by omega) (by omega) h62))]; rfl)
  refine r_iconst (v := 0) hK dX10_gainOf_0 (by decide) ?_
  refine r_istore (i := 4) hK hm dX10_gainOf_1 (by decide) ?_
  refine r_iconst (v := 1) hK dX10_gainOf_3 (by decide) ?_
  refine r_istore (i := 5) hK hm dX10_gainOf_4 (by decide) ?_
  refine r_loc ?_ (l_mG (cq := cqB (fun i => decide (rP X.2.1 (kN X p) t a i = X.2.2.1.2.2.1 p)) (oL X.2.2.2.2.2 k)) hX hp ha hP hk (fun i h1 h2 => cqB_s h1 h2) hK hm hnn h50 (oL X.2.2.2.2.2 k) 1 (Nat.le_refl 1) (by omega))
  rw [cqB_1]
  rfl
def gG (X : LN) (p a t k : Nat) : Int32 := nI (cmW X.2.1 (kN X p) t a X.2.2.2.2.2 k (X.2.2.1.2.2.1 p) (X.2.2.1.2.2.2 p)) - nI (wL X.2.1 (kN X p) t a X.2.2.2.2.2 k)
def gZ (X : LN) (p a t : Nat) : Nat → Int := fun k => gnZ X.2.1 (kN X p) t a X.2.2.2.2.2 k (X.2.2.1.2.2.1 p) (X.2.2.1.2.2.2 p)
theorem gG_0 {X : LN} {p a t : Nat} : gG X p a t 0 = 0 := by
  have h1 : cmW X.2.1 (kN X p) t a X.2.2.2.2.2 0 (X.2.2.1.2.2.1 p) (X.2.2.1.2.2.2 p) = 0 := by
    unfold cmW
    have := (pT_b (D := X.2.1) (kn := kN X p) (t := t) (a := a) (e := X.2.2.1.2.2.1 p)).1
    have h2 : oL X.2.2.2.2.2 0 ≤ 0 := oL_le
    exact if_neg (fun z => by omega)
  have h2 : wL X.2.1 (kN X p) t a X.2.2.2.2.2 0 = 0 := by
    unfold wL
    rw [show oL X.2.2.2.2.2 0 = 0 from Nat.le_zero.mp oL_le, rM_0, Nat.zero_mul]
  unfold gG
  rw [h1, h2]
  decide
theorem upI_upI {g : St} {o k : Nat} {x y : Int32} : upI (upI g o k x) o k y = upI g o k y := by
  rw [show upI g o k x = upR g o (upd (g.1 o) k x) from upI_upR, upR_upI, upI_upR]
  congr 1
  funext j
  unfold upd
  split
  · rfl
  · rfl
theorem MR_36 {g : St} {D : WD} {kn : Nat → Bool} {t a : Nat} {x : Int32} (h : MR g D kn t a) : MR (upI g 91 36 x) D kn t a := by
  unfold MR at *
  rw [upI_n (by decide), upI_n (by decide), upd_n2 (by decide)]
  exact h

set_option maxHeartbeats 4000000 in
set_option maxRecDepth 100000 in
theorem l_mOw {K : KT} {ad : Nat → Nat} {g : St} {X : LN} (hX : MC g X) {p a t : Nat} (hp : p < X.2.2.1.1) (ha : a < X.1) {f1 f2 f3 : Nat → Int32} {v2 : Int32} (hMP : MPt f2 f3 v2 X.2.1 (kN X p) t a) {n : Nat} (hn : n = rn0 X.2.1 (kN X p) t a) {G : Nat → Int32} {Zf : Nat → Int} {bd : Nat → Nat} (hG : ∀ k, G k = nI (cmW X.2.1 (kN X p) t a X.2.2.2.2.2 k (X.2.2.1.2.2.1 p) (X.2.2.1.2.2.2 p)) - nI (wL X.2.1 (kN X p) t a X.2.2.2.2.2 k)) (hbs : ∀ i, bd (i + 1) = if Zf (bd i) < Zf (i + 1) then i + 1 else bd i) (hbl : ∀ i, bd i ≤ i) (hgl : ∀ i j, i ≤ n → j ≤ n → (G i ≤ G j ↔ ¬ Zf j < Zf i)) (hK : Cx K RX10 cX10_ownBy 4 ad) (hm : K.2.2.1.2.maxLocals = 8) (hnn : Nn K 0 0)
    (h88 : Wp K 0 0 TT ad (upI (pM g f1 f2 f3 v2) 91 36 (G (bd n))) 88 [(5, .int (nI (bd n)))] []) :
    ∀ m i, i + m = n → Wp K 0 0 TT ad (upI (pM g f1 f2 f3 v2) 91 36 (G (bd i))) 25 [(0, .ref 91), (1, .int (nI p)), (2, .int (nI a)), (3, .int (nI t)), (4, .int v2), (5, .int (nI (bd i))), (6, .int (nI (i + 1)))] [] := by
  obtain ⟨hok, hpo, hlaw, x1, hW, hPs, x4⟩ := id hX
  have h10 := hok.2.1
  have h6 := hpo.1
  have h14 := hok.1
  obtain ⟨p1, p2, p3, p4, p5⟩ := hpo.2 p hp
  obtain ⟨r1, r2, r3, r4, r5⟩ := hPs.2 p hp
  have hrb := rt_b hok (kN X p) t ha
  intro m
  induction m with
  | zero =>
    intro i him
    have e : i = n := by omega
    refine r_iload (i := 6) hK dX10_ownBy_25 rfl ?_
    refine r_iload (i := 4) hK dX10_ownBy_27 rfl ?_
    refine r_icmp_gt (tgt := 88) hK dX10_ownBy_29 (by decide) (fun _ => ?_) (fun h => absurd (?_ : v2 < nI (i + 1)) h)
    · rw [e]
      refine r_loc ?_ h88
      rfl
    · rcases mp_v hMP with ⟨q1, q2⟩ | ⟨q1, q2, q3⟩
      · rw [q2]; exact nI_lt (by omega) (by omega)
      · rw [q2, e, hn, q3]; decide
  | succ m ih =>
    intro i him
    have ih2 := ih (i + 1) (by omega)
    have hbi := hbl i
    have hv2 : v2 = nI (rn0 X.2.1 (kN X p) t a) := by
      rcases mp_v hMP with ⟨q1, q2⟩ | ⟨q1, q2, q3⟩
      · exact q2
      · omega
    have hgl2 := hgl (i + 1) (bd i) (by omega) (by omega)
    clear ih
    refine r_iload (i := 6) hK dX10_ownBy_25 rfl ?_
    refine r_iload (i := 4) hK dX10_ownBy_27 rfl ?_
    refine r_icmp_gt (tgt := 88) hK dX10_ownBy_29 (by decide) (fun h => absurd h (by rw [hv2]; exact nI_nlt (show i + 1 ≤ rn0 X.2.1 (kN X p) t a by omega) (by omega))) (fun _ => ?_)
    refine r_aload_n (i := 0) hK dX10_ownBy_32 rfl rfl ?_
    refine r_iload_n (i := 1) hK dX10_ownBy_33 rfl rfl ?_
    refine r_iload_n (i := 2) hK dX10_ownBy_34 rfl rfl ?_
    refine r_iload (i := 6) hK dX10_ownBy_35 rfl ?_
    refine r_ci3 hK hnn (c_mGainOf (k := i + 1) (MC_of hX (FM_pM.fl (g := g) rfl)) hp ha (MR_36 (MR_pM hMP)) (by omega) rfl rfl rfl) moX10_gainOf mlX10_289 to_91 rfl rfl dX10_ownBy_37 (Nat.le_of_ble_eq_true rfl) (Nat.le_of_ble_eq_true rfl) (eqI ?_)
    refine r_top (y := G (i + 1)) (hG (i + 1)).symm ?_
    refine r_istore (i := 7) hK hm dX10_ownBy_40 (by decide) ?_
    refine r_iload (i := 7) hK dX10_ownBy_42 rfl ?_
    refine r_aload_n (i := 0) hK dX10_ownBy_44 rfl rfl ?_
    refine r_getI hK flX10_286 to_91 rfl dX10_ownBy_45 ?_
    refine r_top (y := G (bd i)) ((congrFun upI_s _).trans upd_s) ?_
    refine r_icmp_le (tgt := 56) hK dX10_ownBy_48 (by decide) (fun h48 => ?_) (fun h48 => ?_)
    · refine r_iload (i := 5) hK dX10_ownBy_56 rfl ?_
      refine r_istore (i := 5) hK hm dX10_ownBy_58 (by decide) ?_
      refine r_aload_n (i := 0) hK dX10_ownBy_60 rfl rfl ?_
      refine r_iload (i := 7) hK dX10_ownBy_61 rfl ?_
      refine r_aload_n (i := 0) hK dX10_ownBy_63 rfl rfl ?_
      refine r_getI hK flX10_286 to_91 rfl dX10_ownBy_64 ?_
      refine r_top (y := G (bd i)) ((congrFun upI_s _).trans upd_s) ?_
      refine r_icmp_le (tgt := 75) hK dX10_ownBy_67 (by decide) (fun _ => ?_) (fun h => absurd h48 h)
      refine r_aload_n (i := 0) hK dX10_ownBy_75 rfl rfl ?_
      refine r_getI hK flX10_286 to_91 rfl dX10_ownBy_76 ?_
      refine r_top (y := G (bd i)) ((congrFun upI_s _).trans upd_s) ?_
      refine r_putI hK flX10_286 ft10_36 to_91 rfl dX10_ownBy_79 ?_
      refine r_g upI_upI ?_
      refine r_iincN (i := 6) hK hm dX10_ownBy_82 rfl (by decide) ?_
      refine r_goto (tgt := 25) hK dX10_ownBy_85 (by decide) ?_
      first
        | (have e9 : bd (i + 1) = (bd i) := (by rw [hbs, if_neg (hgl2.mp h48)]); rw [e9] at ih2; refine r_loc ?_ ih2; rfl)
        | (have e9 : bd (i + 1) = i + 1 := (by rw [hbs, if_pos (Classical.byContradiction (fun z => h48 (hgl2.mpr z)))]); rw [e9] at ih2; refine r_loc ?_ ih2; rfl)
    · refine r_iload (i := 6) hK dX10_ownBy_51 rfl ?_
      refine r_goto (tgt := 58) hK dX10_ownBy_53 (by decide) ?_
      refine r_istore (i := 5) hK hm dX10_ownBy_58 (by decide) ?_
      refine r_aload_n (i := 0) hK dX10_ownBy_60 rfl rfl ?_
      refine r_iload (i := 7) hK dX10_ownBy_61 rfl ?_
      refine r_aload_n (i := 0) hK dX10_ownBy_63 rfl rfl ?_
      refine r_getI hK flX10_286 to_91 rfl dX10_ownBy_64 ?_
      refine r_top (y := G (bd i)) ((congrFun upI_s _).trans upd_s) ?_
      refine r_icmp_le (tgt := 75) hK dX10_ownBy_67 (by decide) (fun h => absurd h h48) (fun _ => ?_)
      refine r_iload (i := 7) hK dX10_ownBy_70 rfl ?_
      refine r_goto (tgt := 79) hK dX10_ownBy_72 (by decide) ?_
      refine r_putI hK flX10_286 ft10_36 to_91 rfl dX10_ownBy_79 ?_
      refine r_g upI_upI ?_
      refine r_iincN (i := 6) hK hm dX10_ownBy_82 rfl (by decide) ?_
      refine r_goto (tgt := 25) hK dX10_ownBy_85 (by decide) ?_
      first
        | (have e9 : bd (i + 1) = (bd i) := (by rw [hbs, if_neg (hgl2.mp h48)]); rw [e9] at ih2; refine r_loc ?_ ih2; rfl)
        | (have e9 : bd (i + 1) = i + 1 := (by rw [hbs, if_pos (Classical.byContradiction (fun z => h48 (hgl2.mpr z)))]); rw [e9] at ih2; refine r_loc ?_ ih2; rfl)
set_option maxHeartbeats 4000000 in
set_option maxRecDepth 100000 in
theorem c_mOwnBy {ad : Nat → Nat} {g : St} {X : LN} (hX : MC g X) {p a t : Nat} {x y z : Int32} (hx : x = nI p) (hp : p < X.2.2.1.1) (hy : y = nI a) (ha : a < X.1) (hz : z = nI t) (ht : t < X.1) : Ci 4 mX10_ownBy [.ref 91, .int x, .int y, .int z] ad g (fun v g' => ∃ f1 f2 f3 v2, g' = upI (pM g f1 f2 f3 v2) 91 36 (gG X p a t (owX X p a t)) ∧ MPt f2 f3 v2 X.2.1 (kN X p) t a ∧ v = nI (owX X p a t)) := by
  subst hx; subst hy; subst hz
  obtain ⟨hok, hpo, hlaw, x1, hW, hPs, x4⟩ := id hX
  have h10 := hok.2.1
  have h6 := hpo.1
  have h14 := hok.1
  obtain ⟨p1, p2, p3, p4, p5⟩ := hpo.2 p hp
  obtain ⟨r1, r2, r3, r4, r5⟩ := hPs.2 p hp
  refine Cm.mk rfl (Nat.le_of_ble_eq_true rfl) (fun K hK hR hm hnn => ?_)
  refine r_aload_n (i := 0) hK dX10_ownBy_0 rfl rfl ?_
  refine r_aload_n (i := 0) hK dX10_ownBy_1 rfl rfl ?_
  refine r_getA hK flX10_31 to_91 rfl dX10_ownBy_2 ?_
  refine r_iload_n (i := 1) hK dX10_ownBy_5 rfl rfl ?_
  refine r_ialN hK to_99 rfl (by omega) (by decide) r5 dX10_ownBy_6 ?_
  refine r_iload_n (i := 2) hK dX10_ownBy_7 rfl rfl ?_
  refine r_iload_n (i := 3) hK dX10_ownBy_8 rfl rfl ?_
  refine r_ci3 hK hnn (c_mRoute0 hok hW rfl (Nat.lt_trans p5 (by decide)) rfl ha rfl ht) moX10_findRoute mlX10_263 to_91 rfl rfl dX10_ownBy_9 (Nat.le_of_ble_eq_true rfl) (Nat.le_of_ble_eq_true rfl) (fun v9 g9 q9 => ?_)
  obtain ⟨f1, f2, f3, rfl, hMP⟩ := q9
  have h88 : Wp K 0 0 TT ad (upI (pM g f1 f2 f3 v9) 91 36 (gG X p a t (owX X p a t))) 88 [(5, .int (nI (owX X p a t)))] [] := by
    refine r_iload (i := 5) hK dX10_ownBy_88 rfl ?_
    refine q_iret hK hR dX10_ownBy_90 ?_
    exact ⟨f1, f2, f3, v9, rfl, hMP, rfl⟩
  refine r_istore (i := 4) hK hm dX10_ownBy_12 (by decide) ?_
  refine r_iconst (v := 0) hK dX10_ownBy_14 (by decide) ?_
  refine r_istore (i := 5) hK hm dX10_ownBy_15 (by decide) ?_
  refine r_aload_n (i := 0) hK dX10_ownBy_17 rfl rfl ?_
  refine r_iconst (v := 0) hK dX10_ownBy_18 (by decide) ?_
  refine r_putI hK flX10_286 ft10_36 to_91 rfl dX10_ownBy_19 ?_
  refine r_iconst (v := 1) hK dX10_ownBy_22 (by decide) ?_
  refine r_istore (i := 6) hK hm dX10_ownBy_23 (by decide) ?_
  refine r_g (g' := upI (pM g f1 f2 f3 v9) 91 36 (gG X p a t 0)) (congrArg (upI (pM g f1 f2 f3 v9) 91 36) gG_0.symm) ?_
  refine r_loc ?_ (l_mOw (bd := bD (gZ X p a t)) (G := gG X p a t) (Zf := gZ X p a t) hX hp ha hMP rfl (fun k => rfl) (fun i => bD_succ _ i) (fun i => bD_le i) (fun i j h1 h2 => gn_lt hok ha p3 h1 h2) hK hm hnn h88 (rn0 X.2.1 (kN X p) t a) 0 (by omega))
  rfl
