/-! what a route gives: pieces (0 without a route), the piece that comes to a place, what is said, walked, gained -/
def rn0 (D : WD) (kn : Nat → Bool) (t a : Nat) : Nat := if kW D kn t a < FR then rN D kn t a else 0
def pT (D : WD) (kn : Nat → Bool) (t a e : Nat) : Nat := fdF (fun i => decide (rP D kn t a i = e)) (rn0 D kn t a) 1
def sdF (D : WD) (kn : Nat → Bool) (t a ha er : Nat) : Nat := if ha = 1 then min 1 (rn0 D kn t a) else if ha = 2 then (if pT D kn t a er ≤ rn0 D kn t a then pT D kn t a er else 0) else if ha = 3 then rn0 D kn t a else 0
def oL (law k : Nat) : Nat := if law = 1 then min 1 k else if law = 3 then (k + 1) / 2 else k
def wL (D : WD) (kn : Nat → Bool) (t a law k : Nat) : Nat := rM D kn t a (oL law k) * (if law = 2 then 2 else 1)
def sL (D : WD) (kn : Nat → Bool) (t a law k : Nat) : Nat := rP D kn t a (if law = 2 then 0 else oL law k)
def cmW (D : WD) (kn : Nat → Bool) (t a law k er wo : Nat) : Nat := if pT D kn t a er ≤ rn0 D kn t a ∧ pT D kn t a er ≤ oL law k then wo else 0
def gnZ (D : WD) (kn : Nat → Bool) (t a law k er wo : Nat) : Int := (cmW D kn t a law k er wo : Int) - (wL D kn t a law k : Int)
def bD (gn : Nat → Int) : Nat → Nat
  | 0 => 0
  | i + 1 => if gn (bD gn i) < gn (i + 1) then i + 1 else bD gn i
def ownF (D : WD) (kn : Nat → Bool) (t a law er wo : Nat) : Nat := bD (fun k => gnZ D kn t a law k er wo) (rn0 D kn t a)
def PthC (g : St) (D : WD) (kn : Nat → Bool) (t a : Nat) : Prop := Pth (g.1 24) (g.1 25) (g.1 22 3) D kn t a
theorem rt_b {np : Nat} {D : WD} (h : wOk np D) (kn : Nat → Bool) (t : Nat) {a : Nat} (ha : a < np) : rn0 D kn t a ≤ 9 ∧ ∀ i, i ≤ rn0 D kn t a → rP D kn t a i < np ∧ rM D kn t a i ≤ 891 := by
  unfold rn0
  split
  · rename_i hl
    obtain ⟨h1, h2, h3, h4⟩ := rN_go h ha hl
    exact ⟨h1, fun i hi => ⟨(h4 i hi).1, rM_bnd h ha hl hi⟩⟩
  · refine ⟨by omega, fun i hi => ?_⟩
    have : i = 0 := by omega
    subst this
    exact ⟨ha, by rw [rM_0]; omega⟩
theorem pth_s {g : St} {D : WD} {kn : Nat → Bool} {t a : Nat} (hP : PthC g D kn t a) {i : Nat} (hi : i ≤ rn0 D kn t a) : g.1 24 i = nI (rP D kn t a i) ∧ g.1 25 i = nI (rM D kn t a i) := by
  unfold rn0 at hi
  split at hi <;> rename_i hl
  · exact (hP.1 hl).2 i hi
  · have : i = 0 := by omega
    subst this
    exact (hP.2 hl).2
theorem pth_v {g : St} {D : WD} {kn : Nat → Bool} {t a : Nat} (hP : PthC g D kn t a) : (kW D kn t a < FR ∧ g.1 22 3 = nI (rn0 D kn t a)) ∨ (¬ kW D kn t a < FR ∧ g.1 22 3 = -1 ∧ rn0 D kn t a = 0) := by
  unfold rn0
  by_cases hl : kW D kn t a < FR
  · exact Or.inl ⟨hl, by rw [if_pos hl]; exact (hP.1 hl).1⟩
  · exact Or.inr ⟨hl, (hP.2 hl).1, if_neg hl⟩
theorem pth_gt {np : Nat} {g : St} {D : WD} {kn : Nat → Bool} {t a : Nat} (h : wOk np D) (ha : a < np) (hP : PthC g D kn t a) {i : Nat} (hi : rn0 D kn t a < i) (h2 : i < 2 ^ 31) : g.1 22 3 < nI i := by
  rcases pth_v hP with ⟨_, q⟩ | ⟨_, q, _⟩
  · rw [q]; exact nI_lt hi h2
  · rw [q, Int32.lt_iff_toInt_lt, nI_toInt h2]
    have : (-1 : Int32).toInt = -1 := by decide
    omega
theorem pth_ngt {np : Nat} {g : St} {D : WD} {kn : Nat → Bool} {t a : Nat} (h : wOk np D) (ha : a < np) (hP : PthC g D kn t a) {i : Nat} (hi : i ≤ rn0 D kn t a) (h1 : 1 ≤ i) : ¬ g.1 22 3 < nI i := by
  have hb := (rt_b h kn t ha).1
  rcases pth_v hP with ⟨_, q⟩ | ⟨_, _, q⟩
  · rw [q]; exact nI_nlt hi (by omega)
  · omega
theorem pth_z {g : St} {D : WD} {kn : Nat → Bool} {np t a : Nat} (h : wOk np D) (ha : a < np) (hP : PthC g D kn t a) (h5 : ¬ (1 : Int32) ≤ g.1 22 3) : rn0 D kn t a = 0 := by
  have hb := (rt_b h kn t ha).1
  rcases pth_v hP with ⟨_, q⟩ | ⟨_, _, q⟩
  · rw [q, show (1 : Int32) = nI 1 from rfl, nI_leI (by decide) (by omega)] at h5
    omega
  · exact q
theorem pth_nz {g : St} {D : WD} {kn : Nat → Bool} {np t a : Nat} (h : wOk np D) (ha : a < np) (hP : PthC g D kn t a) (h5 : (1 : Int32) ≤ g.1 22 3) : 1 ≤ rn0 D kn t a ∧ g.1 22 3 = nI (rn0 D kn t a) := by
  have hb := (rt_b h kn t ha).1
  rcases pth_v hP with ⟨_, q⟩ | ⟨_, q, _⟩
  · rw [q, show (1 : Int32) = nI 1 from rfl, nI_leI (by decide) (by omega)] at h5
    exact ⟨h5, q⟩
  · rw [q] at h5
    exact absurd h5 (by decide)
theorem fdF_le (p : Nat → Bool) : ∀ n i, i ≤ fdF p n i ∧ fdF p n i ≤ i + n
  | 0, i => ⟨Nat.le_refl _, Nat.le_refl _⟩
  | n + 1, i => by
    unfold fdF
    split
    · exact ⟨Nat.le_refl _, by omega⟩
    · have := fdF_le p n (i + 1)
      omega
theorem pT_b {D : WD} {kn : Nat → Bool} {t a e : Nat} : 1 ≤ pT D kn t a e ∧ pT D kn t a e ≤ rn0 D kn t a + 1 := by
  have := fdF_le (fun i => decide (rP D kn t a i = e)) (rn0 D kn t a) 1
  unfold pT
  omega
theorem oL_le {law k : Nat} : oL law k ≤ k := by unfold oL; split <;> (try split) <;> omega
theorem sdF_le {D : WD} {kn : Nat → Bool} {t a ha er : Nat} : sdF D kn t a ha er ≤ rn0 D kn t a := by
  unfold sdF
  split
  · omega
  · split
    · split <;> omega
    · split <;> omega
theorem wL_b {np : Nat} {D : WD} (h : wOk np D) (kn : Nat → Bool) (t : Nat) {a law k : Nat} (ha : a < np) (hk : k ≤ rn0 D kn t a) : wL D kn t a law k ≤ 1782 := by
  have h1 := ((rt_b h kn t ha).2 (oL law k) (Nat.le_trans oL_le hk)).2
  unfold wL
  split <;> omega
theorem bD_le {gn : Nat → Int} : ∀ n, bD gn n ≤ n
  | 0 => Nat.le_refl _
  | n + 1 => by have := bD_le (gn := gn) n; unfold bD; split <;> omega

set_option maxHeartbeats 4000000 in
set_option maxRecDepth 100000 in
theorem c_placeAfter {ad : Nat → Nat} {g : St} {D : WD} {np t a : Nat} {kn : Nat → Bool} (hok : wOk np D) (ha : a < np) (hP : PthC g D kn t a) {j : Nat} {i : Int32} (hi : i = nI j) (hj : j ≤ rn0 D kn t a) : Ci 2 mX6_placeAfter [.ref 22, .int i] ad g (fun v g' => v = nI (rP D kn t a j) ∧ g' = g) := by
  have hb := (rt_b hok kn t ha).1
  refine Cm.mk rfl (Nat.le_of_ble_eq_true rfl) (fun K hK hR hm hnn => ?_)
  refine r_aload_n (i := 0) hK dX6_placeAfter_0 rfl rfl ?_
  refine r_getA hK flX6_15 to_22 rfl dX6_placeAfter_1 ?_
  refine r_iload_n (i := 1) hK dX6_placeAfter_4 rfl rfl ?_
  refine r_si2 hK hnn (c_atE to_24 (by decide) hi (by omega) (pth_s hP hj).1) moX9_at mlX6_33 dX6_placeAfter_5 (Nat.le_of_ble_eq_true rfl) (Nat.le_of_ble_eq_true rfl) (eqI ?_)
  refine q_iret hK hR dX6_placeAfter_8 ?_
  exact ⟨rfl, rfl⟩
set_option maxHeartbeats 4000000 in
set_option maxRecDepth 100000 in
theorem c_minutesTo {ad : Nat → Nat} {g : St} {D : WD} {np t a : Nat} {kn : Nat → Bool} (hok : wOk np D) (ha : a < np) (hP : PthC g D kn t a) {j : Nat} {i : Int32} (hi : i = nI j) (hj : j ≤ rn0 D kn t a) : Ci 2 mX6_minutesTo [.ref 22, .int i] ad g (fun v g' => v = nI (rM D kn t a j) ∧ g' = g) := by
  have hb := (rt_b hok kn t ha).1
  refine Cm.mk rfl (Nat.le_of_ble_eq_true rfl) (fun K hK hR hm hnn => ?_)
  refine r_aload_n (i := 0) hK dX6_minutesTo_0 rfl rfl ?_
  refine r_getA hK flX6_18 to_22 rfl dX6_minutesTo_1 ?_
  refine r_iload_n (i := 1) hK dX6_minutesTo_4 rfl rfl ?_
  refine r_si2 hK hnn (c_atE to_25 (by decide) hi (by omega) (pth_s hP hj).2) moX9_at mlX6_33 dX6_minutesTo_5 (Nat.le_of_ble_eq_true rfl) (Nat.le_of_ble_eq_true rfl) (eqI ?_)
  refine q_iret hK hR dX6_minutesTo_8 ?_
  exact ⟨rfl, rfl⟩
set_option maxHeartbeats 4000000 in
set_option maxRecDepth 100000 in
theorem l_pT {K : KT} {ad : Nat → Nat} {g : St} {D : WD} {np t a : Nat} {kn : Nat → Bool} (hok : wOk np D) (ha : a < np) (hP : PthC g D kn t a) {e : Nat} (he : e < 2 ^ 31) (hK : Cx K RX6 cX6_piecesTo 2 ad) (hm : K.2.2.1.2.maxLocals = 3) (hnn : Nn K 0 0)
    (hR : Rt K 0 0 TT ad (some .int) (Qi ad (fun v g' => v = (if pT D kn t a e ≤ rn0 D kn t a then nI (pT D kn t a e) else -1) ∧ g' = g))) :
    ∀ m i, i + m = rn0 D kn t a + 1 → 1 ≤ i → fdF (fun i => decide (rP D kn t a i = e)) m i = pT D kn t a e → Wp K 0 0 TT ad g 2 [(0, .ref 22), (1, .int (nI e)), (2, .int (nI i))] [] := by
  have hb := rt_b hok kn t ha
  intro m
  induction m with
  | zero =>
    intro i him h1 hf
    refine r_iload_n (i := 2) hK dX6_piecesTo_2 rfl rfl ?_
    refine r_aload_n (i := 0) hK dX6_piecesTo_3 rfl rfl ?_
    refine r_getI hK flX6_21 to_22 rfl dX6_piecesTo_4 ?_
    refine r_icmp_gt (tgt := 30) hK dX6_piecesTo_7 (by decide) (fun _ => ?_) (fun h => absurd (pth_gt hok ha hP (by omega) (by omega)) h)
    refine r_iconst (v := (-1)) hK dX6_piecesTo_30 (by decide) ?_
    refine q_iret hK hR dX6_piecesTo_31 ⟨?_, rfl⟩
    have e2 : pT D kn t a e = i := hf.symm
    rw [e2, if_neg (by omega)]
  | succ m ih =>
    intro i him h1 hf
    refine r_iload_n (i := 2) hK dX6_piecesTo_2 rfl rfl ?_
    refine r_aload_n (i := 0) hK dX6_piecesTo_3 rfl rfl ?_
    refine r_getI hK flX6_21 to_22 rfl dX6_piecesTo_4 ?_
    refine r_icmp_gt (tgt := 30) hK dX6_piecesTo_7 (by decide) (fun h => absurd h (pth_ngt hok ha hP (by omega) h1)) (fun _ => ?_)
    refine r_aload_n (i := 0) hK dX6_piecesTo_10 rfl rfl ?_
    refine r_getA hK flX6_15 to_22 rfl dX6_piecesTo_11 ?_
    refine r_iload_n (i := 2) hK dX6_piecesTo_14 rfl rfl ?_
    refine r_si2 hK hnn (c_atE to_24 (by decide) rfl (by omega) (pth_s hP (by omega)).1) moX9_at mlX6_33 dX6_piecesTo_15 (Nat.le_of_ble_eq_true rfl) (Nat.le_of_ble_eq_true rfl) (eqI ?_)
    refine r_iload_n (i := 1) hK dX6_piecesTo_18 rfl rfl ?_
    refine r_icmp_ne (tgt := 24) hK dX6_piecesTo_19 (by decide) (fun h19 => ?_) (fun h19 => ?_)
    · refine r_iincN (i := 2) hK hm dX6_piecesTo_24 rfl (by decide) ?_
      refine r_goto (tgt := 2) hK dX6_piecesTo_27 (by decide) ?_
      refine r_loc ?_ (ih (i + 1) (by omega) (by omega) ?_)
      · rfl
      · rw [← hf]
        show fdF _ m (i + 1) = if _ then i else fdF _ m (i + 1)
        rw [if_neg]
        simp only [decide_eq_true_eq]
        exact fun z => h19 (by rw [z])
    · refine r_iload_n (i := 2) hK dX6_piecesTo_22 rfl rfl ?_
      refine q_iret hK hR dX6_piecesTo_23 ?_
      have e1 : rP D kn t a i = e := nI_inj (by have := (hb.2 i (by omega)).1; have := hok.2.1; omega) he h19
      have e2 : pT D kn t a e = i := by
        rw [← hf]
        show (if _ then i else fdF _ m (i + 1)) = i
        rw [if_pos]
        exact decide_eq_true e1
      exact ⟨by rw [e2, if_pos (by omega)], rfl⟩
set_option maxHeartbeats 4000000 in
set_option maxRecDepth 100000 in
theorem c_piecesTo {ad : Nat → Nat} {g : St} {D : WD} {np t a : Nat} {kn : Nat → Bool} (hok : wOk np D) (ha : a < np) (hP : PthC g D kn t a) {e : Nat} {x : Int32} (hx : x = nI e) (he : e < 2 ^ 31) : Ci 2 mX6_piecesTo [.ref 22, .int x] ad g (fun v g' => v = (if pT D kn t a e ≤ rn0 D kn t a then nI (pT D kn t a e) else -1) ∧ g' = g) := by
  subst hx
  refine Cm.mk rfl (Nat.le_of_ble_eq_true rfl) (fun K hK hR hm hnn => ?_)
  refine r_iconst (v := 1) hK dX6_piecesTo_0 (by decide) ?_
  refine r_istore_n (i := 2) hK hm dX6_piecesTo_1 rfl (by decide) ?_
  refine r_loc ?_ (l_pT hok ha hP he hK hm hnn hR (rn0 D kn t a) 1 (by omega) (by omega) rfl)
  rfl
set_option maxHeartbeats 4000000 in
set_option maxRecDepth 100000 in
theorem c_saidBy {ad : Nat → Nat} {g : St} {D : WD} {np t a : Nat} {kn : Nat → Bool} (hok : wOk np D) (ha : a < np) (hP : PthC g D kn t a) {h er : Nat} {x y : Int32} (hx : x = nI h) (hh : h ≤ 3) (hy : y = nI er) (he : er < 2 ^ 31) : Ci 3 mX6_saidBy [.ref 22, .int x, .int y] ad g (fun v g' => v = nI (sdF D kn t a h er) ∧ g' = g) := by
  subst hx; subst hy
  have hb := rt_b hok kn t ha
  have hp := pT_b (D := D) (kn := kn) (t := t) (a := a) (e := er)
  refine Cm.mk rfl (Nat.le_of_ble_eq_true rfl) (fun K hK hR hm hnn => ?_)
  refine r_aload_n (i := 0) hK dX6_saidBy_0 rfl rfl ?_
  refine r_getI hK flX6_21 to_22 rfl dX6_saidBy_1 ?_
  refine r_iconst (v := 1) hK dX6_saidBy_4 (by decide) ?_
  refine r_icmp_ge (tgt := 10) hK dX6_saidBy_5 (by decide) (fun h5 => ?_) (fun h5 => ?_)
  · refine r_iload_n (i := 1) hK dX6_saidBy_10 rfl rfl ?_
    refine r_sw (n := 3) (lo := 1) (tgt0 := 53) hK dX6_saidBy_11 (by decide) (by decide) (by decide) (by decide) (fun h11 => ?_) (fun i11 hi11 h11 => ?_)
    · refine r_iconst (v := 0) hK dX6_saidBy_53 (by decide) ?_
      refine q_iret hK hR dX6_saidBy_54 ?_
      have eh : h = 0 := by rw [nI_toInt (by omega)] at h11; omega
      subst eh
      refine ⟨?_, rfl⟩
      unfold sdF
      rw [if_neg (by decide), if_neg (by decide), if_neg (by decide)]
      rfl
    · obtain rfl | rfl | rfl : i11 = 0 ∨ i11 = 1 ∨ i11 = 2 := by omega
      · refine ⟨_, 36, rfl, by decide, ?_⟩
        refine r_iconst (v := 1) hK dX6_saidBy_36 (by decide) ?_
        refine q_iret hK hR dX6_saidBy_37 ?_
        have eh : h = 1 := nI_inj (by omega) (by decide) h11
        subst eh
        obtain ⟨q1, q2⟩ := pth_nz hok ha hP h5
        refine ⟨?_, rfl⟩
        unfold sdF
        rw [if_pos rfl, Nat.min_eq_left q1]
        rfl
      · refine ⟨_, 38, rfl, by decide, ?_⟩
        refine r_iconst (v := 0) hK dX6_saidBy_38 (by decide) ?_
        refine r_aload_n (i := 0) hK dX6_saidBy_39 rfl rfl ?_
        refine r_iload_n (i := 2) hK dX6_saidBy_40 rfl rfl ?_
        refine r_ci1 hK hnn (c_piecesTo hok ha hP rfl he) moX6_piecesTo mlX6_71 to_22 rfl rfl dX6_saidBy_41 (Nat.le_of_ble_eq_true rfl) (Nat.le_of_ble_eq_true rfl) (eqI ?_)
        refine r_max hK hnn mwX6_75 dX6_saidBy_44 (Nat.le_of_ble_eq_true rfl) (Nat.le_of_ble_eq_true rfl) ?_
        refine q_iret hK hR dX6_saidBy_47 ?_
        have eh : h = 2 := nI_inj (by omega) (by decide) h11
        subst eh
        refine ⟨?_, rfl⟩
        by_cases c : pT D kn t a er ≤ rn0 D kn t a
        · have e : sdF D kn t a 2 er = pT D kn t a er := by unfold sdF; rw [if_neg (by decide), if_pos rfl, if_pos c]
          rw [e, if_pos c, if_pos (show (0 : Int32) < nI _ from nI_lt (a := 0) (by omega) (by omega))]
        · have e : sdF D kn t a 2 er = 0 := by unfold sdF; rw [if_neg (by decide), if_pos rfl, if_neg c]
          rw [e, if_neg c, if_neg (by decide)]
          rfl
      · refine ⟨_, 48, rfl, by decide, ?_⟩
        refine r_aload_n (i := 0) hK dX6_saidBy_48 rfl rfl ?_
        refine r_getI hK flX6_21 to_22 rfl dX6_saidBy_49 ?_
        refine q_iret hK hR dX6_saidBy_52 ?_
        have eh : h = 3 := nI_inj (by omega) (by decide) h11
        subst eh
        obtain ⟨q1, q2⟩ := pth_nz hok ha hP h5
        refine ⟨?_, rfl⟩
        unfold sdF
        rw [if_neg (by decide), if_neg (by decide), if_pos rfl]
        exact q2
  · refine r_iconst (v := 0) hK dX6_saidBy_8 (by decide) ?_
    refine q_iret hK hR dX6_saidBy_9 ?_
    have hz := pth_z hok ha hP h5
    have e : sdF D kn t a h er = 0 := by have := sdF_le (D := D) (kn := kn) (t := t) (a := a) (ha := h) (er := er); omega
    rw [e]
    exact ⟨rfl, rfl⟩
set_option maxHeartbeats 4000000 in
set_option maxRecDepth 100000 in
theorem c_outByLaw {ad : Nat → Nat} {g : St} {law j : Nat} {x y : Int32} (hx : x = nI law) (hl : law ≤ 3) (hy : y = nI j) (hj : j ≤ 1000) : Ci 1 mX6_outByLaw [.ref 22, .int x, .int y] ad g (fun v g' => v = nI (oL law j) ∧ g' = g) := by
  subst hx; subst hy
  have i1 : nI law = 1 ↔ law = 1 := nI_eq (b := 1) (by omega) (by decide)
  have i3 : nI law = 3 ↔ law = 3 := nI_eq (b := 3) (by omega) (by decide)
  refine Cm.mk rfl (Nat.le_of_ble_eq_true rfl) (fun K hK hR hm hnn => ?_)
  refine r_iload_n (i := 1) hK dX6_outByLaw_0 rfl rfl ?_
  refine r_iconst (v := 1) hK dX6_outByLaw_1 (by decide) ?_
  refine r_icmp_ne (tgt := 13) hK dX6_outByLaw_2 (by decide) (fun h2 => ?_) (fun h2 => ?_)
  · refine r_iload_n (i := 1) hK dX6_outByLaw_13 rfl rfl ?_
    refine r_iconst (v := 3) hK dX6_outByLaw_14 (by decide) ?_
    refine r_icmp_ne (tgt := 26) hK dX6_outByLaw_15 (by decide) (fun h15 => ?_) (fun h15 => ?_)
    · refine r_iload_n (i := 2) hK dX6_outByLaw_26 rfl rfl ?_
      refine q_iret hK hR dX6_outByLaw_27 ?_
      refine ⟨?_, rfl⟩
      unfold oL
      first
        | (rw [if_pos (i1.mp (by assumption))]; exact min_nI (a := 1) (b := j) (by decide) (by omega))
        | (rw [if_neg (fun z => (by assumption : ¬ nI law = 1) (i1.mpr z)), if_pos (i3.mp (by assumption)), nI_1, show (2 : Int32) = nI 2 from rfl, pk_div (by omega) (by decide) (by decide)])
        | (rw [if_neg (fun z => (by assumption : ¬ nI law = 1) (i1.mpr z)), if_neg (fun z => (by assumption : ¬ nI law = 3) (i3.mpr z))])
    · refine r_iload_n (i := 2) hK dX6_outByLaw_18 rfl rfl ?_
      refine r_iconst (v := 1) hK dX6_outByLaw_19 (by decide) ?_
      refine r_iadd hK dX6_outByLaw_20 ?_
      refine r_iconst (v := 2) hK dX6_outByLaw_21 (by decide) ?_
      refine r_idiv hK dX6_outByLaw_22 (by decide) ?_
      refine r_goto (tgt := 27) hK dX6_outByLaw_23 (by decide) ?_
      refine q_iret hK hR dX6_outByLaw_27 ?_
      refine ⟨?_, rfl⟩
      unfold oL
      first
        | (rw [if_pos (i1.mp (by assumption))]; exact min_nI (a := 1) (b := j) (by decide) (by omega))
        | (rw [if_neg (fun z => (by assumption : ¬ nI law = 1) (i1.mpr z)), if_pos (i3.mp (by assumption)), nI_1, show (2 : Int32) = nI 2 from rfl, pk_div (by omega) (by decide) (by decide)])
        | (rw [if_neg (fun z => (by assumption : ¬ nI law = 1) (i1.mpr z)), if_neg (fun z => (by assumption : ¬ nI law = 3) (i3.mpr z))])
  · refine r_iconst (v := 1) hK dX6_outByLaw_5 (by decide) ?_
    refine r_iload_n (i := 2) hK dX6_outByLaw_6 rfl rfl ?_
    refine r_min hK hnn mwX6_66 dX6_outByLaw_7 (Nat.le_of_ble_eq_true rfl) (Nat.le_of_ble_eq_true rfl) ?_
    refine r_goto (tgt := 27) hK dX6_outByLaw_10 (by decide) ?_
    refine q_iret hK hR dX6_outByLaw_27 ?_
    refine ⟨?_, rfl⟩
    unfold oL
    first
      | (rw [if_pos (i1.mp (by assumption))]; exact min_nI (a := 1) (b := j) (by decide) (by omega))
      | (rw [if_neg (fun z => (by assumption : ¬ nI law = 1) (i1.mpr z)), if_pos (i3.mp (by assumption)), nI_1, show (2 : Int32) = nI 2 from rfl, pk_div (by omega) (by decide) (by decide)])
      | (rw [if_neg (fun z => (by assumption : ¬ nI law = 1) (i1.mpr z)), if_neg (fun z => (by assumption : ¬ nI law = 3) (i3.mpr z))])
set_option maxHeartbeats 4000000 in
set_option maxRecDepth 100000 in
theorem c_placeByLaw {ad : Nat → Nat} {g : St} {D : WD} {np t a : Nat} {kn : Nat → Bool} (hok : wOk np D) (ha : a < np) (hP : PthC g D kn t a) {law j : Nat} {x y : Int32} (hx : x = nI law) (hl : law ≤ 3) (hy : y = nI j) (hj : j ≤ rn0 D kn t a) : Ci 3 mX6_placeByLaw [.ref 22, .int x, .int y] ad g (fun v g' => v = nI (sL D kn t a law j) ∧ g' = g) := by
  subst hx; subst hy
  have hb := (rt_b hok kn t ha).1
  have i2 : nI law = 2 ↔ law = 2 := nI_eq (b := 2) (by omega) (by decide)
  refine Cm.mk rfl (Nat.le_of_ble_eq_true rfl) (fun K hK hR hm hnn => ?_)
  refine r_aload_n (i := 0) hK dX6_placeByLaw_0 rfl rfl ?_
  refine r_iload_n (i := 1) hK dX6_placeByLaw_1 rfl rfl ?_
  refine r_iconst (v := 2) hK dX6_placeByLaw_2 (by decide) ?_
  refine r_icmp_ne (tgt := 10) hK dX6_placeByLaw_3 (by decide) (fun h3 => ?_) (fun h3 => ?_)
  · refine r_aload_n (i := 0) hK dX6_placeByLaw_10 rfl rfl ?_
    refine r_iload_n (i := 1) hK dX6_placeByLaw_11 rfl rfl ?_
    refine r_iload_n (i := 2) hK dX6_placeByLaw_12 rfl rfl ?_
    refine r_ci2 hK hnn (c_outByLaw rfl hl rfl (by omega)) moX6_outByLaw mlX6_78 to_22 rfl rfl dX6_placeByLaw_13 (Nat.le_of_ble_eq_true rfl) (Nat.le_of_ble_eq_true rfl) (eqI ?_)
    first
      | (refine r_ci1 hK hnn (c_placeAfter (j := oL law j) hok ha hP rfl (Nat.le_trans oL_le hj)) moX6_placeAfter mlX6_81 to_22 rfl rfl dX6_placeByLaw_16 (Nat.le_of_ble_eq_true rfl) (Nat.le_of_ble_eq_true rfl) (eqI ?_); refine q_iret hK hR dX6_placeByLaw_19 ⟨?_, rfl⟩; unfold sL; rw [if_neg (fun z => h3 (i2.mpr z))]; done)
      | (refine r_ci1 hK hnn (c_placeAfter (j := 0) hok ha hP rfl (Nat.zero_le _)) moX6_placeAfter mlX6_81 to_22 rfl rfl dX6_placeByLaw_16 (Nat.le_of_ble_eq_true rfl) (Nat.le_of_ble_eq_true rfl) (eqI ?_); refine q_iret hK hR dX6_placeByLaw_19 ⟨?_, rfl⟩; unfold sL; rw [if_pos (i2.mp h3)])
  · refine r_iconst (v := 0) hK dX6_placeByLaw_6 (by decide) ?_
    refine r_goto (tgt := 16) hK dX6_placeByLaw_7 (by decide) ?_
    first
      | (refine r_ci1 hK hnn (c_placeAfter (j := oL law j) hok ha hP rfl (Nat.le_trans oL_le hj)) moX6_placeAfter mlX6_81 to_22 rfl rfl dX6_placeByLaw_16 (Nat.le_of_ble_eq_true rfl) (Nat.le_of_ble_eq_true rfl) (eqI ?_); refine q_iret hK hR dX6_placeByLaw_19 ⟨?_, rfl⟩; unfold sL; rw [if_neg (fun z => h3 (i2.mpr z))]; done)
      | (refine r_ci1 hK hnn (c_placeAfter (j := 0) hok ha hP rfl (Nat.zero_le _)) moX6_placeAfter mlX6_81 to_22 rfl rfl dX6_placeByLaw_16 (Nat.le_of_ble_eq_true rfl) (Nat.le_of_ble_eq_true rfl) (eqI ?_); refine q_iret hK hR dX6_placeByLaw_19 ⟨?_, rfl⟩; unfold sL; rw [if_pos (i2.mp h3)])
set_option maxHeartbeats 4000000 in
set_option maxRecDepth 100000 in
theorem c_minutesByLaw {ad : Nat → Nat} {g : St} {D : WD} {np t a : Nat} {kn : Nat → Bool} (hok : wOk np D) (ha : a < np) (hP : PthC g D kn t a) {law j : Nat} {x y : Int32} (hx : x = nI law) (hl : law ≤ 3) (hy : y = nI j) (hj : j ≤ rn0 D kn t a) : Ci 3 mX6_minutesByLaw [.ref 22, .int x, .int y] ad g (fun v g' => v = nI (wL D kn t a law j) ∧ g' = g) := by
  subst hx; subst hy
  have hb := (rt_b hok kn t ha).1
  have i2 : nI law = 2 ↔ law = 2 := nI_eq (b := 2) (by omega) (by decide)
  refine Cm.mk rfl (Nat.le_of_ble_eq_true rfl) (fun K hK hR hm hnn => ?_)
  refine r_aload_n (i := 0) hK dX6_minutesByLaw_0 rfl rfl ?_
  refine r_aload_n (i := 0) hK dX6_minutesByLaw_1 rfl rfl ?_
  refine r_iload_n (i := 1) hK dX6_minutesByLaw_2 rfl rfl ?_
  refine r_iload_n (i := 2) hK dX6_minutesByLaw_3 rfl rfl ?_
  refine r_ci2 hK hnn (c_outByLaw rfl hl rfl (by omega)) moX6_outByLaw mlX6_78 to_22 rfl rfl dX6_minutesByLaw_4 (Nat.le_of_ble_eq_true rfl) (Nat.le_of_ble_eq_true rfl) (eqI ?_)
  refine r_ci1 hK hnn (c_minutesTo (j := oL law j) hok ha hP rfl (Nat.le_trans oL_le hj)) moX6_minutesTo mlX6_84 to_22 rfl rfl dX6_minutesByLaw_7 (Nat.le_of_ble_eq_true rfl) (Nat.le_of_ble_eq_true rfl) (eqI ?_)
  refine r_iload_n (i := 1) hK dX6_minutesByLaw_10 rfl rfl ?_
  refine r_iconst (v := 2) hK dX6_minutesByLaw_11 (by decide) ?_
  refine r_icmp_ne (tgt := 19) hK dX6_minutesByLaw_12 (by decide) (fun h12 => ?_) (fun h12 => ?_)
  · refine r_iconst (v := 1) hK dX6_minutesByLaw_19 (by decide) ?_
    refine r_imul hK dX6_minutesByLaw_20 ?_
    refine q_iret hK hR dX6_minutesByLaw_21 ?_
    refine ⟨?_, rfl⟩
    unfold wL
    first
      | (rw [if_pos (i2.mp (by assumption)), show (2 : Int32) = nI 2 from rfl, pk_mul]; done)
      | (rw [if_neg (fun z => (by assumption : ¬ nI law = 2) (i2.mpr z)), show (1 : Int32) = nI 1 from rfl, pk_mul])
  · refine r_iconst (v := 2) hK dX6_minutesByLaw_15 (by decide) ?_
    refine r_goto (tgt := 20) hK dX6_minutesByLaw_16 (by decide) ?_
    refine r_imul hK dX6_minutesByLaw_20 ?_
    refine q_iret hK hR dX6_minutesByLaw_21 ?_
    refine ⟨?_, rfl⟩
    unfold wL
    first
      | (rw [if_pos (i2.mp (by assumption)), show (2 : Int32) = nI 2 from rfl, pk_mul]; done)
      | (rw [if_neg (fun z => (by assumption : ¬ nI law = 2) (i2.mpr z)), show (1 : Int32) = nI 1 from rfl, pk_mul])
set_option maxHeartbeats 4000000 in
set_option maxRecDepth 100000 in
theorem c_gain {ad : Nat → Nat} {g : St} {D : WD} {np t a : Nat} {kn : Nat → Bool} (hok : wOk np D) (ha : a < np) (hP : PthC g D kn t a) {law j er wo : Nat} {x y z u : Int32} (hx : x = nI law) (hl : law ≤ 3) (hy : y = nI j) (hj : j ≤ rn0 D kn t a) (hz : z = nI er) (he : er < 2 ^ 31) (hu : u = nI wo) : Ci 4 mX6_gain [.ref 22, .int x, .int y, .int z, .int u] ad g (fun v g' => v = nI (cmW D kn t a law j er wo) - nI (wL D kn t a law j) ∧ g' = g) := by
  subst hx; subst hy; subst hz; subst hu
  have hb := (rt_b hok kn t ha).1
  have hpb := pT_b (D := D) (kn := kn) (t := t) (a := a) (e := er)
  have ho := oL_le (law := law) (k := j)
  refine Cm.mk rfl (Nat.le_of_ble_eq_true rfl) (fun K hK hR hm hnn => ?_)
  refine r_aload_n (i := 0) hK dX6_gain_0 rfl rfl ?_
  refine r_iload_n (i := 3) hK dX6_gain_1 rfl rfl ?_
  refine r_ci1 hK hnn (c_piecesTo hok ha hP rfl he) moX6_piecesTo mlX6_71 to_22 rfl rfl dX6_gain_2 (Nat.le_of_ble_eq_true rfl) (Nat.le_of_ble_eq_true rfl) (eqI ?_)
  obtain ⟨v5, hv5⟩ : ∃ v5, v5 = (if pT D kn t a er ≤ rn0 D kn t a then nI (pT D kn t a er) else -1) := ⟨_, rfl⟩
  rw [← hv5]
  refine r_istore (i := 5) hK hm dX6_gain_5 (by decide) ?_
  refine r_iload (i := 5) hK dX6_gain_7 rfl ?_
  refine r_iconst (v := (-1)) hK dX6_gain_9 (by decide) ?_
  refine r_icmp_eq (tgt := 28) hK dX6_gain_10 (by decide) (fun h10 => ?_) (fun h10 => ?_)
  · refine r_iconst (v := 0) hK dX6_gain_28 (by decide) ?_
    refine r_istore (i := 6) hK hm dX6_gain_29 (by decide) ?_
    have eC : cmW D kn t a law j er wo = 0 := by
      unfold cmW
      refine if_neg (fun z => ?_)
      rw [if_pos z.1] at hv5
      rw [hv5] at h10
      exact nI_m1 (by omega) h10
    refine r_iload (i := 6) hK dX6_gain_31 rfl ?_
    refine r_if_eq (tgt := 41) hK dX6_gain_33 (by decide) (fun _ => ?_) (fun h => absurd (by decide) h)
    refine r_iconst (v := 0) hK dX6_gain_41 (by decide) ?_
    refine r_aload_n (i := 0) hK dX6_gain_42 rfl rfl ?_
    refine r_iload_n (i := 1) hK dX6_gain_43 rfl rfl ?_
    refine r_iload_n (i := 2) hK dX6_gain_44 rfl rfl ?_
    refine r_ci2 hK hnn (c_minutesByLaw hok ha hP rfl hl rfl hj) moX6_minutesByLaw mlX6_87 to_22 rfl rfl dX6_gain_45 (Nat.le_of_ble_eq_true rfl) (Nat.le_of_ble_eq_true rfl) (eqI ?_)
    refine r_isub hK dX6_gain_48 ?_
    refine q_iret hK hR dX6_gain_49 ?_
    refine ⟨?_, rfl⟩
    rw [eC]
    rfl
  · refine r_iload (i := 5) hK dX6_gain_13 rfl ?_
    refine r_aload_n (i := 0) hK dX6_gain_15 rfl rfl ?_
    refine r_iload_n (i := 1) hK dX6_gain_16 rfl rfl ?_
    refine r_iload_n (i := 2) hK dX6_gain_17 rfl rfl ?_
    refine r_ci2 hK hnn (c_outByLaw rfl hl rfl (by omega)) moX6_outByLaw mlX6_78 to_22 rfl rfl dX6_gain_18 (Nat.le_of_ble_eq_true rfl) (Nat.le_of_ble_eq_true rfl) (eqI ?_)
    refine r_icmp_gt (tgt := 28) hK dX6_gain_21 (by decide) (fun h21 => ?_) (fun h21 => ?_)
    · refine r_iconst (v := 0) hK dX6_gain_28 (by decide) ?_
      refine r_istore (i := 6) hK hm dX6_gain_29 (by decide) ?_
      have eC : cmW D kn t a law j er wo = 0 := by
        unfold cmW
        refine if_neg (fun z => ?_)
        rw [if_pos z.1] at hv5
        rw [hv5, nI_ltI (by omega) (by omega)] at h21
        omega
      refine r_iload (i := 6) hK dX6_gain_31 rfl ?_
      refine r_if_eq (tgt := 41) hK dX6_gain_33 (by decide) (fun _ => ?_) (fun h => absurd (by decide) h)
      refine r_iconst (v := 0) hK dX6_gain_41 (by decide) ?_
      refine r_aload_n (i := 0) hK dX6_gain_42 rfl rfl ?_
      refine r_iload_n (i := 1) hK dX6_gain_43 rfl rfl ?_
      refine r_iload_n (i := 2) hK dX6_gain_44 rfl rfl ?_
      refine r_ci2 hK hnn (c_minutesByLaw hok ha hP rfl hl rfl hj) moX6_minutesByLaw mlX6_87 to_22 rfl rfl dX6_gain_45 (Nat.le_of_ble_eq_true rfl) (Nat.le_of_ble_eq_true rfl) (eqI ?_)
      refine r_isub hK dX6_gain_48 ?_
      refine q_iret hK hR dX6_gain_49 ?_
      refine ⟨?_, rfl⟩
      rw [eC]
      rfl
    · refine r_iconst (v := 1) hK dX6_gain_24 (by decide) ?_
      refine r_goto (tgt := 29) hK dX6_gain_25 (by decide) ?_
      refine r_istore (i := 6) hK hm dX6_gain_29 (by decide) ?_
      have eC : cmW D kn t a law j er wo = wo := by
        unfold cmW
        have c1 : pT D kn t a er ≤ rn0 D kn t a := Decidable.byContradiction (fun z => h10 (by rw [hv5, if_neg z]))
        rw [if_pos c1] at hv5
        rw [hv5, nI_ltI (by omega) (by omega)] at h21
        exact if_pos ⟨c1, by omega⟩
      refine r_iload (i := 6) hK dX6_gain_31 rfl ?_
      refine r_if_eq (tgt := 41) hK dX6_gain_33 (by decide) (fun h => absurd h (by decide)) (fun _ => ?_)
      refine r_iload (i := 4) hK dX6_gain_36 rfl ?_
      refine r_goto (tgt := 42) hK dX6_gain_38 (by decide) ?_
      refine r_aload_n (i := 0) hK dX6_gain_42 rfl rfl ?_
      refine r_iload_n (i := 1) hK dX6_gain_43 rfl rfl ?_
      refine r_iload_n (i := 2) hK dX6_gain_44 rfl rfl ?_
      refine r_ci2 hK hnn (c_minutesByLaw hok ha hP rfl hl rfl hj) moX6_minutesByLaw mlX6_87 to_22 rfl rfl dX6_gain_45 (Nat.le_of_ble_eq_true rfl) (Nat.le_of_ble_eq_true rfl) (eqI ?_)
      refine r_isub hK dX6_gain_48 ?_
      refine q_iret hK hR dX6_gain_49 ?_
      refine ⟨?_, rfl⟩
      rw [eC]
theorem gn_lt {np : Nat} {D : WD} (h : wOk np D) {kn : Nat → Bool} {t a : Nat} (ha : a < np) {law er wo i j : Nat} (hwo : wo ≤ 99) (hi : i ≤ rn0 D kn t a) (hj : j ≤ rn0 D kn t a) : (nI (cmW D kn t a law i er wo) - nI (wL D kn t a law i) ≤ nI (cmW D kn t a law j er wo) - nI (wL D kn t a law j)) ↔ ¬ gnZ D kn t a law j er wo < gnZ D kn t a law i er wo := by
  have h1 := wL_b h kn t (law := law) ha hi
  have h2 := wL_b h kn t (law := law) ha hj
  have h3 : ∀ q, cmW D kn t a law q er wo ≤ 99 := fun q => by unfold cmW; split <;> omega
  have h4 := h3 i
  have h5 := h3 j
  rw [Int32.le_iff_toInt_le, pk_sub_toInt (by omega) (by omega), pk_sub_toInt (by omega) (by omega)]
  unfold gnZ
  omega
theorem bD_succ (gn : Nat → Int) (i : Nat) : bD gn (i + 1) = if gn (bD gn i) < gn (i + 1) then i + 1 else bD gn i := rfl
set_option maxHeartbeats 4000000 in
set_option maxRecDepth 100000 in
theorem l_dr {K : KT} {ad : Nat → Nat} {g : St} {D : WD} {np t a : Nat} {kn : Nat → Bool} (hok : wOk np D) (ha : a < np) (hP : PthC g D kn t a) {law er wo : Nat} (hl : law ≤ 3) (he : er < 2 ^ 31) (hwo : wo ≤ 99) (hK : Cx K RX6 cX6_dearest 5 ad) (hm : K.2.2.1.2.maxLocals = 6) (hnn : Nn K 0 0)
    (hR : Rt K 0 0 TT ad (some .int) (Qi ad (fun v g' => v = nI (ownF D kn t a law er wo) ∧ g' = g))) :
    ∀ m i, i + m = rn0 D kn t a → Wp K 0 0 TT ad g 6 [(0, .ref 22), (1, .int (nI law)), (2, .int (nI er)), (3, .int (nI wo)), (4, .int (nI (bD (fun k => gnZ D kn t a law k er wo) i))), (5, .int (nI (i + 1)))] [] := by
  have hb := rt_b hok kn t ha
  intro m
  induction m with
  | zero =>
    intro i him
    refine r_iload (i := 5) hK dX6_dearest_6 rfl ?_
    refine r_aload_n (i := 0) hK dX6_dearest_8 rfl rfl ?_
    refine r_getI hK flX6_21 to_22 rfl dX6_dearest_9 ?_
    refine r_icmp_gt (tgt := 46) hK dX6_dearest_12 (by decide) (fun _ => ?_) (fun h => absurd (pth_gt hok ha hP (by omega) (by omega)) h)
    refine r_iload (i := 4) hK dX6_dearest_46 rfl ?_
    refine q_iret hK hR dX6_dearest_48 ⟨?_, rfl⟩
    have e : i = rn0 D kn t a := by omega
    rw [e]
    rfl
  | succ m ih =>
    intro i him
    refine r_iload (i := 5) hK dX6_dearest_6 rfl ?_
    refine r_aload_n (i := 0) hK dX6_dearest_8 rfl rfl ?_
    refine r_getI hK flX6_21 to_22 rfl dX6_dearest_9 ?_
    refine r_icmp_gt (tgt := 46) hK dX6_dearest_12 (by decide) (fun h => absurd h (pth_ngt hok ha hP (by omega) (by omega))) (fun _ => ?_)
    refine r_aload_n (i := 0) hK dX6_dearest_15 rfl rfl ?_
    refine r_iload_n (i := 1) hK dX6_dearest_16 rfl rfl ?_
    refine r_iload (i := 5) hK dX6_dearest_17 rfl ?_
    refine r_iload_n (i := 2) hK dX6_dearest_19 rfl rfl ?_
    refine r_iload_n (i := 3) hK dX6_dearest_20 rfl rfl ?_
    refine r_ci4 hK hnn (c_gain hok ha hP rfl hl rfl (by omega) rfl he rfl) moX6_gain mlX6_90 to_22 rfl rfl dX6_dearest_21 (Nat.le_of_ble_eq_true rfl) (Nat.le_of_ble_eq_true rfl) (eqI ?_)
    refine r_aload_n (i := 0) hK dX6_dearest_24 rfl rfl ?_
    refine r_iload_n (i := 1) hK dX6_dearest_25 rfl rfl ?_
    refine r_iload (i := 4) hK dX6_dearest_26 rfl ?_
    refine r_iload_n (i := 2) hK dX6_dearest_28 rfl rfl ?_
    refine r_iload_n (i := 3) hK dX6_dearest_29 rfl rfl ?_
    refine r_ci4 hK hnn (c_gain hok ha hP rfl hl rfl (Nat.le_trans (bD_le i) (by omega)) rfl he rfl) moX6_gain mlX6_90 to_22 rfl rfl dX6_dearest_30 (Nat.le_of_ble_eq_true rfl) (Nat.le_of_ble_eq_true rfl) (eqI ?_)
    refine r_icmp_le (tgt := 40) hK dX6_dearest_33 (by decide) (fun h33 => ?_) (fun h33 => ?_)
    · rw [gn_lt hok ha hwo (by omega) (Nat.le_trans (bD_le i) (by omega))] at h33
      have eB : bD (fun k => gnZ D kn t a law k er wo) (i + 1) = bD (fun k => gnZ D kn t a law k er wo) i := by rw [bD_succ]; exact if_neg h33
      refine r_iincN (i := 5) hK hm dX6_dearest_40 rfl (by decide) ?_
      refine r_goto (tgt := 6) hK dX6_dearest_43 (by decide) ?_
      refine r_loc ?_ (ih (i + 1) (by omega))
      simp only [List.map_cons, List.map_nil]
      rw [eB]
      rfl
    · refine r_iload (i := 5) hK dX6_dearest_36 rfl ?_
      refine r_istore (i := 4) hK hm dX6_dearest_38 (by decide) ?_
      rw [gn_lt hok ha hwo (by omega) (Nat.le_trans (bD_le i) (by omega)), Decidable.not_not] at h33
      have eB : bD (fun k => gnZ D kn t a law k er wo) (i + 1) = i + 1 := by rw [bD_succ]; exact if_pos h33
      refine r_iincN (i := 5) hK hm dX6_dearest_40 rfl (by decide) ?_
      refine r_goto (tgt := 6) hK dX6_dearest_43 (by decide) ?_
      refine r_loc ?_ (ih (i + 1) (by omega))
      simp only [List.map_cons, List.map_nil]
      rw [eB]
      rfl
set_option maxHeartbeats 4000000 in
set_option maxRecDepth 100000 in
theorem c_dearest {ad : Nat → Nat} {g : St} {D : WD} {np t a : Nat} {kn : Nat → Bool} (hok : wOk np D) (ha : a < np) (hP : PthC g D kn t a) {law er wo : Nat} {x z u : Int32} (hx : x = nI law) (hl : law ≤ 3) (hz : z = nI er) (he : er < 2 ^ 31) (hu : u = nI wo) (hwo : wo ≤ 99) : Ci 5 mX6_dearest [.ref 22, .int x, .int z, .int u] ad g (fun v g' => v = nI (ownF D kn t a law er wo) ∧ g' = g) := by
  subst hx; subst hz; subst hu
  refine Cm.mk rfl (Nat.le_of_ble_eq_true rfl) (fun K hK hR hm hnn => ?_)
  refine r_iconst (v := 0) hK dX6_dearest_0 (by decide) ?_
  refine r_istore (i := 4) hK hm dX6_dearest_1 (by decide) ?_
  refine r_iconst (v := 1) hK dX6_dearest_3 (by decide) ?_
  refine r_istore (i := 5) hK hm dX6_dearest_4 (by decide) ?_
  refine r_loc ?_ (l_dr hok ha hP hl he hwo hK hm hnn hR (rn0 D kn t a) 0 (by omega))
  rfl
