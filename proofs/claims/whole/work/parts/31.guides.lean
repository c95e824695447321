/-! GUIDES of the class, at any place -/
def gE (g : St) (o : Nat) (e m : Nat → Int32) : St := (fun j => if j = o + 1 then e else if j = o + 2 then m else g.1 j, g.2)
theorem gE_mk {g : St} {o p : Nat} {x y : Int32} : upI (upI g (o + 1) p x) (o + 2) p y = gE g o (upd (g.1 (o + 1)) p x) (upd (g.1 (o + 2)) p y) := by
  refine St_ext (fun j => ?_) rfl
  unfold upI gE
  dsimp only
  by_cases h1 : j = o + 2
  · subst h1
    rw [if_pos rfl, if_neg (by omega), if_neg (by omega), if_pos rfl]
  · rw [if_neg h1]
    by_cases h2 : j = o + 1
    · subst h2
      rw [if_pos rfl, if_pos rfl]
    · rw [if_neg h2, if_neg h2, if_neg h1]
theorem gE_id {g : St} {o : Nat} : gE g o (g.1 (o + 1)) (g.1 (o + 2)) = g := by
  refine St_ext (fun j => ?_) rfl
  unfold gE
  dsimp only
  split
  · rename_i h; rw [h]
  · split
    · rename_i h; rw [h]
    · rfl
theorem gE_1 {g : St} {o : Nat} {e m : Nat → Int32} : (gE g o e m).1 (o + 1) = e := by unfold gE; dsimp only; rw [if_pos rfl]
theorem gE_2 {g : St} {o : Nat} {e m : Nat → Int32} : (gE g o e m).1 (o + 2) = m := by unfold gE; dsimp only; rw [if_neg (by omega), if_pos rfl]
theorem gE_n {g : St} {o j : Nat} {e m : Nat → Int32} (h1 : j ≠ o + 1) (h2 : j ≠ o + 2) : (gE g o e m).1 j = g.1 j := by unfold gE; dsimp only; rw [if_neg h1, if_neg h2]
theorem gE_gE {g : St} {o : Nat} {e m e' m' : Nat → Int32} : gE (gE g o e m) o e' m' = gE g o e' m' := by
  refine St_ext (fun j => ?_) rfl
  unfold gE
  dsimp only
  split
  · rfl
  · split <;> rfl
theorem pG_n {g : St} {f1 f2 f3 : Nat → Int32} {v : Int32} {j : Nat} (h : j < 22 ∨ 25 < j) : (pG g f1 f2 f3 v).1 j = g.1 j := by
  unfold pG
  dsimp only
  rw [if_neg (by omega), if_neg (by omega), if_neg (by omega), if_neg (by omega)]
theorem gE_pG {g : St} {o : Nat} (ho : 27 ≤ o) {e m f1 f2 f3 : Nat → Int32} {v : Int32} : pG (gE g o e m) f1 f2 f3 v = gE (pG g f1 f2 f3 v) o e m := by
  refine St_ext (fun j => ?_) rfl
  unfold pG gE
  dsimp only
  by_cases h1 : j = o + 1
  · subst h1
    rw [if_neg (by omega), if_neg (by omega), if_neg (by omega), if_neg (by omega), if_pos rfl, if_pos rfl]
  · by_cases h2 : j = o + 2
    · subst h2
      rw [if_neg (by omega), if_neg (by omega), if_neg (by omega), if_neg (by omega), if_neg h1, if_pos rfl, if_neg h1, if_pos rfl]
    · simp only [if_neg h1, if_neg h2]
      rw [if_neg (show ¬ (22 = o + 1) by omega), if_neg (show ¬ (22 = o + 2) by omega)]
/-- the persons as the land has them: who they are, their habits, what they know -/
def PsC (g : St) (P : PD) (ha kn : Nat → Nat) : Prop := g.1 13 10 = nI P.1 ∧ ∀ p, p < P.1 → g.1 17 p = nI (P.2.1 p) ∧ g.1 18 p = nI (P.2.2.1 p) ∧ g.1 19 p = nI (P.2.2.2 p) ∧ g.1 20 p = nI (ha p) ∧ g.1 21 p = nI (kn p)
def pOk (np : Nat) (P : PD) (ha kn : Nat → Nat) : Prop := P.1 ≤ 6 ∧ ∀ p, p < P.1 → P.2.1 p < np ∧ P.2.2.1 p < np ∧ P.2.2.2 p ≤ 99 ∧ ha p ≤ 3 ∧ kn p < 2 ^ 14
theorem WyC_of {g g' : St} {D : WD} (h : WyC g 13 D) (hg : ∀ j, j ≤ 21 → g'.1 j = g.1 j) : WyC g' 13 D := by
  unfold WyC at *
  rw [hg 13 (by omega), hg (13 + 1) (by omega), hg (13 + 2) (by omega), hg (13 + 3) (by omega)]
  exact h
theorem PsC_of {g g' : St} {P : PD} {ha kn : Nat → Nat} (h : PsC g P ha kn) (hg : ∀ j, j ≤ 21 → g'.1 j = g.1 j) : PsC g' P ha kn := by
  unfold PsC at *
  rw [hg 13 (by omega), hg 17 (by omega), hg 18 (by omega), hg 19 (by omega), hg 20 (by omega), hg 21 (by omega)]
  exact h
theorem PthC_of {g g' : St} {D : WD} {kn : Nat → Bool} {t a : Nat} (h : PthC g D kn t a) (hg : ∀ j, 22 ≤ j → j ≤ 25 → g'.1 j = g.1 j) : PthC g' D kn t a := by
  unfold PthC at *
  rw [hg 24 (by omega) (by omega), hg 25 (by omega) (by omega), hg 22 (by omega) (by omega)]
  exact h
def enI (e : Nat) : Int32 := if e < 10 then nI e else -1
def vcE (D : WD) (kn : Nat → Bool) (t a s : Nat) : Nat := if s = 0 then 10 else rP D kn t a s
theorem vcE_lt {D : WD} {kn : Nat → Bool} {np t a s : Nat} (h : vcE D kn t a s < 10) (h2 : rP D kn t a s < np) : vcE D kn t a s < np := by
  unfold vcE at h ⊢
  by_cases z : s = 0
  · rw [if_pos z] at h; omega
  · rw [if_neg z]; exact h2
theorem enI_vc0 {D : WD} {kn : Nat → Bool} {t a s : Nat} (h : s = 0) : enI (vcE D kn t a s) = -1 := by unfold enI vcE; rw [if_pos h]; rfl
theorem enI_vc1 {D : WD} {kn : Nat → Bool} {t a s : Nat} (h : s ≠ 0) (h2 : rP D kn t a s < 10) : enI (vcE D kn t a s) = nI (rP D kn t a s) := by unfold enI vcE; rw [if_neg h, if_pos h2]
def saS (D : WD) (P : PD) (ha kn : Nat → Nat) (t p : Nat) : Nat := sdF D (knb (kn p)) t (P.2.1 p) (ha p) (P.2.2.1 p)
def owS (D : WD) (P : PD) (kn : Nat → Nat) (law t p : Nat) : Nat := ownF D (knb (kn p)) t (P.2.1 p) law (P.2.2.1 p) (P.2.2.2 p)
def VV (D : WD) (P : PD) (ha kn : Nat → Nat) (law t : Nat) (own : Bool) : VT := (fun p => vcE D (knb (kn p)) t (P.2.1 p) (if own = true then owS D P kn law t p else saS D P ha kn t p), fun p => rM D (knb (kn p)) t (P.2.1 p) (if own = true then owS D P kn law t p else saS D P ha kn t p))
theorem ownF_le {D : WD} {kn : Nat → Bool} {t a law er wo : Nat} : ownF D kn t a law er wo ≤ rn0 D kn t a := bD_le _
theorem VV_ok {np : Nat} {D : WD} {P : PD} {ha kn : Nat → Nat} (h : wOk np D) (hp : pOk np P ha kn) (law t : Nat) (own : Bool) : vOk np P (VV D P ha kn law t own) := by
  refine ⟨h.2.1, hp.1, fun p hpp => ?_⟩
  obtain ⟨q1, q2, q3, q4, q5⟩ := hp.2 p hpp
  have hs : (if own = true then owS D P kn law t p else saS D P ha kn t p) ≤ rn0 D (knb (kn p)) t (P.2.1 p) := by
    split
    · exact ownF_le
    · exact sdF_le
  obtain ⟨b1, b2⟩ := (rt_b h (knb (kn p)) t q1).2 _ hs
  refine ⟨q1, fun hv => ?_, b2⟩
  show vcE _ _ _ _ _ < np
  have hv' : vcE D (knb (kn p)) t (P.2.1 p) (if own = true then owS D P kn law t p else saS D P ha kn t p) < 10 := hv
  exact vcE_lt hv' b1

theorem upI_lo {g : St} {r k j : Nat} {x : Int32} (h : j ≠ r) : (upI g r k x).1 j = g.1 j := upI_n h
set_option maxHeartbeats 4000000 in
set_option maxRecDepth 100000 in
theorem c_hear {ad : Nat → Nat} {g : St} {D : WD} {np t a : Nat} {kn : Nat → Bool} (hok : wOk np D) (ha : a < np) (hP : PthC g D kn t a) {o p s : Nat} {x y : Int32} (hG : GdP o) (hx : x = nI p) (hp : p < 6) (hy : y = nI s) (hs : s ≤ rn0 D kn t a) : Cv 3 mX1_hear [.ref o, .int x, .int y] ad g (fun g' => g' = gE g o (upd (g.1 (o + 1)) p (enI (vcE D kn t a s))) (upd (g.1 (o + 2)) p (nI (rM D kn t a s)))) := by
  obtain ⟨o1, o2, o3, t0, t1, t2, t3⟩ := hG
  subst hx; subst hy
  have hb := rt_b hok kn t ha
  have hb2 := (hb.2 s hs).1
  have h10 := hok.2.1
  refine Cm.mk rfl (Nat.le_of_ble_eq_true rfl) (fun K hK hR hm hnn => ?_)
  refine r_aload_n (i := 0) hK dX1_hear_0 rfl rfl ?_
  refine r_getA hK flX1_9 t0 rfl dX1_hear_1 ?_
  refine r_iload_n (i := 1) hK dX1_hear_4 rfl rfl ?_
  refine r_iload_n (i := 2) hK dX1_hear_5 rfl rfl ?_
  refine r_if_le (tgt := 20) hK dX1_hear_6 (by decide) (fun h6 => ?_) (fun h6 => ?_)
  · refine r_iconst (v := (-1)) hK dX1_hear_20 (by decide) ?_
    have h6 : s = 0 := by rw [show (0 : Int32) = nI 0 from rfl, nI_leI (by omega) (by decide)] at h6; omega
    refine r_sv3 hK hnn (c_ptE t1 (by decide) rfl (by omega) rfl) moX9_put mlX1_80 dX1_hear_21 (Nat.le_of_ble_eq_true rfl) (Nat.le_of_ble_eq_true rfl) (eqV ?_)
    refine r_aload_n (i := 0) hK dX1_hear_24 rfl rfl ?_
    refine r_getA hK flX1_15 t0 rfl dX1_hear_25 ?_
    refine r_iload_n (i := 1) hK dX1_hear_28 rfl rfl ?_
    refine r_aload_n (i := 0) hK dX1_hear_29 rfl rfl ?_
    refine r_getA hK flX1_25 t0 rfl dX1_hear_30 ?_
    refine r_iload_n (i := 2) hK dX1_hear_33 rfl rfl ?_
    refine r_ci1 hK hnn (c_minutesTo hok ha (PthC_of hP (fun j j1 j2 => upI_n (by omega))) rfl hs) moX6_minutesTo mlX1_84 to_22 rfl rfl dX1_hear_34 (Nat.le_of_ble_eq_true rfl) (Nat.le_of_ble_eq_true rfl) (eqI ?_)
    refine r_sv3 hK hnn (c_ptE t2 (by decide) rfl (by omega) rfl) moX9_put mlX1_80 dX1_hear_37 (Nat.le_of_ble_eq_true rfl) (Nat.le_of_ble_eq_true rfl) (eqV ?_)
    refine q_vret hK hR dX1_hear_40 ?_
    first
      | (rw [gE_mk, enI_vc0 (by omega)]; done)
      | rw [gE_mk, enI_vc1 (by omega) (by omega)]
  · refine r_aload_n (i := 0) hK dX1_hear_9 rfl rfl ?_
    refine r_getA hK flX1_25 t0 rfl dX1_hear_10 ?_
    refine r_iload_n (i := 2) hK dX1_hear_13 rfl rfl ?_
    have h6 : ¬ s = 0 := by rw [show (0 : Int32) = nI 0 from rfl, nI_leI (by omega) (by decide)] at h6; omega
    refine r_ci1 hK hnn (c_placeAfter hok ha hP rfl hs) moX6_placeAfter mlX1_76 to_22 rfl rfl dX1_hear_14 (Nat.le_of_ble_eq_true rfl) (Nat.le_of_ble_eq_true rfl) (eqI ?_)
    refine r_goto (tgt := 21) hK dX1_hear_17 (by decide) ?_
    refine r_sv3 hK hnn (c_ptE t1 (by decide) rfl (by omega) rfl) moX9_put mlX1_80 dX1_hear_21 (Nat.le_of_ble_eq_true rfl) (Nat.le_of_ble_eq_true rfl) (eqV ?_)
    refine r_aload_n (i := 0) hK dX1_hear_24 rfl rfl ?_
    refine r_getA hK flX1_15 t0 rfl dX1_hear_25 ?_
    refine r_iload_n (i := 1) hK dX1_hear_28 rfl rfl ?_
    refine r_aload_n (i := 0) hK dX1_hear_29 rfl rfl ?_
    refine r_getA hK flX1_25 t0 rfl dX1_hear_30 ?_
    refine r_iload_n (i := 2) hK dX1_hear_33 rfl rfl ?_
    refine r_ci1 hK hnn (c_minutesTo hok ha (PthC_of hP (fun j j1 j2 => upI_n (by omega))) rfl hs) moX6_minutesTo mlX1_84 to_22 rfl rfl dX1_hear_34 (Nat.le_of_ble_eq_true rfl) (Nat.le_of_ble_eq_true rfl) (eqI ?_)
    refine r_sv3 hK hnn (c_ptE t2 (by decide) rfl (by omega) rfl) moX9_put mlX1_80 dX1_hear_37 (Nat.le_of_ble_eq_true rfl) (Nat.le_of_ble_eq_true rfl) (eqV ?_)
    refine q_vret hK hR dX1_hear_40 ?_
    first
      | (rw [gE_mk, enI_vc0 (by omega)]; done)
      | rw [gE_mk, enI_vc1 (by omega) (by omega)]
set_option maxHeartbeats 4000000 in
set_option maxRecDepth 100000 in
theorem c_ask {ad : Nat → Nat} {g : St} {D : WD} {P : PD} {ha kn : Nat → Nat} {np t : Nat} (hok : wOk np D) (hpo : pOk np P ha kn) (hW : WyC g 13 D) (hPs : PsC g P ha kn) (ht : t < np) {o p k : Nat} {x : Int32} (hG : GdP o) (hx : x = nI p) (hp : p < P.1) (hk : k < 2 ^ 31) : Cv 5 mX1_ask [.ref o, .int x, .int (nI k), .int (nI t)] ad g (fun g' => ∃ f1 f2 f3 v, g' = gE (pG g f1 f2 f3 v) o (upd (g.1 (o + 1)) p (enI (vcE D (knb k) t (P.2.1 p) (sdF D (knb k) t (P.2.1 p) (ha p) (P.2.2.1 p))))) (upd (g.1 (o + 2)) p (nI (rM D (knb k) t (P.2.1 p) (sdF D (knb k) t (P.2.1 p) (ha p) (P.2.2.1 p)))))) := by
  obtain ⟨o1, o2, o3, t0, t1, t2, t3⟩ := hG
  subst hx
  have h6 := hpo.1
  have h10 := hok.2.1
  obtain ⟨p1, p2, p3, p4, p5⟩ := hpo.2 p hp
  obtain ⟨r1, r2, r3, r4, r5⟩ := hPs.2 p hp
  refine Cm.mk rfl (Nat.le_of_ble_eq_true rfl) (fun K hK hR hm hnn => ?_)
  refine r_aload_n (i := 0) hK dX1_ask_0 rfl rfl ?_
  refine r_getA hK flX1_25 t0 rfl dX1_ask_1 ?_
  refine r_aload_n (i := 0) hK dX1_ask_4 rfl rfl ?_
  refine r_getA hK flX1_21 t0 rfl dX1_ask_5 ?_
  refine r_iload_n (i := 2) hK dX1_ask_8 rfl rfl ?_
  refine r_aload_n (i := 0) hK dX1_ask_9 rfl rfl ?_
  refine r_getA hK flX1_21 t0 rfl dX1_ask_10 ?_
  refine r_getA hK flX1_42 to_13 rfl dX1_ask_13 ?_
  refine r_iload_n (i := 1) hK dX1_ask_16 rfl rfl ?_
  refine r_si2 hK hnn (c_atE to_17 (by decide) rfl (by omega) r1) moX9_at mlX1_38 dX1_ask_17 (Nat.le_of_ble_eq_true rfl) (Nat.le_of_ble_eq_true rfl) (eqI ?_)
  refine r_iload_n (i := 3) hK dX1_ask_20 rfl rfl ?_
  refine r_cv4 hK hnn (c_seek (D := D) hok hW hk p1 ht) moX6_seek mlX1_45 to_22 rfl rfl dX1_ask_21 (Nat.le_of_ble_eq_true rfl) (Nat.le_of_ble_eq_true rfl) (fun g21 q21 => ?_)
  obtain ⟨f1, f2, f3, v, rfl, hPth⟩ := q21
  have hPc : PthC (pG g f1 f2 f3 v) D (knb k) t (P.2.1 p) := hPth
  refine r_aload_n (i := 0) hK dX1_ask_24 rfl rfl ?_
  refine r_iload_n (i := 1) hK dX1_ask_25 rfl rfl ?_
  refine r_aload_n (i := 0) hK dX1_ask_26 rfl rfl ?_
  refine r_getA hK flX1_25 t0 rfl dX1_ask_27 ?_
  refine r_aload_n (i := 0) hK dX1_ask_30 rfl rfl ?_
  refine r_getA hK flX1_21 t0 rfl dX1_ask_31 ?_
  refine r_getA hK flX1_69 to_13 rfl dX1_ask_34 ?_
  refine r_iload_n (i := 1) hK dX1_ask_37 rfl rfl ?_
  refine r_si2 hK hnn (c_atE to_20 (by decide) rfl (by omega) r4) moX9_at mlX1_38 dX1_ask_38 (Nat.le_of_ble_eq_true rfl) (Nat.le_of_ble_eq_true rfl) (eqI ?_)
  refine r_aload_n (i := 0) hK dX1_ask_41 rfl rfl ?_
  refine r_getA hK flX1_21 t0 rfl dX1_ask_42 ?_
  refine r_getA hK flX1_51 to_13 rfl dX1_ask_45 ?_
  refine r_iload_n (i := 1) hK dX1_ask_48 rfl rfl ?_
  refine r_si2 hK hnn (c_atE to_18 (by decide) rfl (by omega) r2) moX9_at mlX1_38 dX1_ask_49 (Nat.le_of_ble_eq_true rfl) (Nat.le_of_ble_eq_true rfl) (eqI ?_)
  refine r_ci2 hK hnn (c_saidBy hok p1 hPc rfl p4 rfl (by omega)) moX6_saidBy mlX1_72 to_22 rfl rfl dX1_ask_52 (Nat.le_of_ble_eq_true rfl) (Nat.le_of_ble_eq_true rfl) (eqI ?_)
  refine r_cv2 hK hnn (c_hear hok p1 hPc ⟨o1, o2, o3, t0, t1, t2, t3⟩ rfl (by omega) rfl sdF_le) moX1_hear mlX1_61 t0 rfl rfl dX1_ask_55 (Nat.le_of_ble_eq_true rfl) (Nat.le_of_ble_eq_true rfl) (eqV ?_)
  refine q_vret hK hR dX1_ask_58 ?_
  refine ⟨f1, f2, f3, v, ?_⟩
  rw [pG_n (j := o + 1) (by omega), pG_n (j := o + 2) (by omega)]
