/-! THE LAND of the class, and what several calls need -/
abbrev LN : Type := Nat × WD × PD × (Nat → Nat) × (Nat → Nat) × Nat
def LC (g : St) (X : LN) : Prop := wOk X.1 X.2.1 ∧ pOk X.1 X.2.2.1 X.2.2.2.1 X.2.2.2.2.1 ∧ X.2.2.2.2.2 ≤ 3 ∧ g.1 13 8 = nI X.1 ∧ WyC g 13 X.2.1 ∧ PsC g X.2.2.1 X.2.2.2.1 X.2.2.2.2.1 ∧ g.1 0 9 = nI X.2.2.2.2.2
/-- what a question leaves as it was -/
def Fr (g g' : St) : Prop := (∀ j, (j ≤ 21 ∨ 76 ≤ j) → g'.1 j = g.1 j) ∧ ∀ j, (j ≤ 21 ∨ 76 ≤ j) → g'.2 j = g.2 j
theorem Fr.rf {g : St} : Fr g g := ⟨fun _ _ => rfl, fun _ _ => rfl⟩
theorem Fr.tr {g g' g2 : St} (h : Fr g g') (h2 : Fr g' g2) : Fr g g2 := ⟨fun j hj => (h2.1 j hj).trans (h.1 j hj), fun j hj => (h2.2 j hj).trans (h.2 j hj)⟩
theorem Fr_pG {g : St} {f1 f2 f3 : Nat → Int32} {v : Int32} : Fr g (pG g f1 f2 f3 v) := ⟨fun j hj => pG_n (by omega), fun _ _ => rfl⟩
theorem LC_of {g g' : St} {X : LN} (h : LC g X) (hf : Fr g g') : LC g' X := by
  obtain ⟨h1, h2, h3, h4, h5, h6, h7⟩ := h
  refine ⟨h1, h2, h3, by rw [hf.1 13 (by omega)]; exact h4, WyC_of h5 (fun j hj => hf.1 j (Or.inl hj)), PsC_of h6 (fun j hj => hf.1 j (Or.inl hj)), by rw [hf.1 0 (by omega)]; exact h7⟩
def isB (x : Int32) (n : Nat) : Bool := !decide (x < 0) && decide (x < nI n)
theorem isB_iff {x : Int32} {n : Nat} (hn : n < 2 ^ 31) : isB x n = true ↔ ∃ j, j < n ∧ x = nI j := by
  unfold isB
  simp only [Bool.and_eq_true, Bool.not_eq_true', decide_eq_false_iff_not, decide_eq_true_eq]
  constructor
  · rintro ⟨h1, h2⟩
    obtain ⟨j, hj, rfl⟩ := nI_of h1
    exact ⟨j, (nI_ltI hj hn).mp h2, rfl⟩
  · rintro ⟨j, h1, rfl⟩
    exact ⟨nI_pos (by omega), nI_lt h1 hn⟩
theorem isB_cl {x : Int32} {n : Nat} (hn : n < 2 ^ 31) (h : isB x n = true) : x.toNatClampNeg < n ∧ x = nI x.toNatClampNeg := by
  obtain ⟨j, h1, rfl⟩ := (isB_iff hn).mp h
  rw [nI_clamp (by omega)]
  exact ⟨h1, rfl⟩
abbrev B1 (b : Bool) : Int32 := if b = true then 1 else 0
theorem B1_0 {b : Bool} : B1 b = 0 ↔ b = false := by cases b <;> simp [B1]
theorem B1_n {b : Bool} : ¬ B1 b = 0 ↔ b = true := by cases b <;> simp [B1]

set_option maxHeartbeats 4000000 in
set_option maxRecDepth 100000 in
theorem c_hasPlace {ad : Nat → Nat} {g : St} {o n : Nat} {x : Int32} (hL : LnP o) (hn : g.1 o 8 = nI n) : Ci 1 mX4_hasPlace [.ref o, .int x] ad g (fun v g' => v = B1 (isB x n) ∧ g' = g) := by
  obtain ⟨-, t0, t1, t2, t3, t4, t5, t6, t7, t8⟩ := hL
  refine Cm.mk rfl (Nat.le_of_ble_eq_true rfl) (fun K hK hR hm hnn => ?_)
  refine r_iload_n (i := 1) hK dX4_hasPlace_0 rfl rfl ?_
  refine r_if_lt (tgt := 16) hK dX4_hasPlace_1 (by decide) (fun h1 => ?_) (fun h1 => ?_)
  · refine r_iconst (v := 0) hK dX4_hasPlace_16 (by decide) ?_
    refine q_zret hK hR dX4_hasPlace_17 (by first | exact Or.inl rfl | exact Or.inr rfl | assumption) ?_
    refine ⟨?_, rfl⟩
    unfold isB B1
    first
      | (rw [hn] at h9; simp [h1, h9]; done)
      | (simp [h1]; done)
      | (rw [hn] at h9; rw [Int32.not_le] at h9; simp [h1, h9]; done)
  · refine r_iload_n (i := 1) hK dX4_hasPlace_4 rfl rfl ?_
    refine r_aload_n (i := 0) hK dX4_hasPlace_5 rfl rfl ?_
    refine r_getI hK flX4_36 t0 rfl dX4_hasPlace_6 ?_
    refine r_icmp_ge (tgt := 16) hK dX4_hasPlace_9 (by decide) (fun h9 => ?_) (fun h9 => ?_)
    · refine r_iconst (v := 0) hK dX4_hasPlace_16 (by decide) ?_
      refine q_zret hK hR dX4_hasPlace_17 (by first | exact Or.inl rfl | exact Or.inr rfl | assumption) ?_
      refine ⟨?_, rfl⟩
      unfold isB B1
      first
        | (rw [hn] at h9; simp [h1, h9]; done)
        | (simp [h1]; done)
        | (rw [hn] at h9; rw [Int32.not_le] at h9; simp [h1, h9]; done)
    · refine r_iconst (v := 1) hK dX4_hasPlace_12 (by decide) ?_
      refine r_goto (tgt := 17) hK dX4_hasPlace_13 (by decide) ?_
      refine q_zret hK hR dX4_hasPlace_17 (by first | exact Or.inl rfl | exact Or.inr rfl | assumption) ?_
      refine ⟨?_, rfl⟩
      unfold isB B1
      first
        | (rw [hn] at h9; simp [h1, h9]; done)
        | (simp [h1]; done)
        | (rw [hn] at h9; rw [Int32.not_le] at h9; simp [h1, h9]; done)
set_option maxHeartbeats 4000000 in
set_option maxRecDepth 100000 in
theorem c_hasWay {ad : Nat → Nat} {g : St} {o n : Nat} {x : Int32} (hL : LnP o) (hn : g.1 o 9 = nI n) : Ci 1 mX4_hasWay [.ref o, .int x] ad g (fun v g' => v = B1 (isB x n) ∧ g' = g) := by
  obtain ⟨-, t0, t1, t2, t3, t4, t5, t6, t7, t8⟩ := hL
  refine Cm.mk rfl (Nat.le_of_ble_eq_true rfl) (fun K hK hR hm hnn => ?_)
  refine r_iload_n (i := 1) hK dX4_hasWay_0 rfl rfl ?_
  refine r_if_lt (tgt := 16) hK dX4_hasWay_1 (by decide) (fun h1 => ?_) (fun h1 => ?_)
  · refine r_iconst (v := 0) hK dX4_hasWay_16 (by decide) ?_
    refine q_zret hK hR dX4_hasWay_17 (by first | exact Or.inl rfl | exact Or.inr rfl | assumption) ?_
    refine ⟨?_, rfl⟩
    unfold isB B1
    first
      | (rw [hn] at h9; simp [h1, h9]; done)
      | (simp [h1]; done)
      | (rw [hn] at h9; rw [Int32.not_le] at h9; simp [h1, h9]; done)
  · refine r_iload_n (i := 1) hK dX4_hasWay_4 rfl rfl ?_
    refine r_aload_n (i := 0) hK dX4_hasWay_5 rfl rfl ?_
    refine r_getI hK flX4_40 t0 rfl dX4_hasWay_6 ?_
    refine r_icmp_ge (tgt := 16) hK dX4_hasWay_9 (by decide) (fun h9 => ?_) (fun h9 => ?_)
    · refine r_iconst (v := 0) hK dX4_hasWay_16 (by decide) ?_
      refine q_zret hK hR dX4_hasWay_17 (by first | exact Or.inl rfl | exact Or.inr rfl | assumption) ?_
      refine ⟨?_, rfl⟩
      unfold isB B1
      first
        | (rw [hn] at h9; simp [h1, h9]; done)
        | (simp [h1]; done)
        | (rw [hn] at h9; rw [Int32.not_le] at h9; simp [h1, h9]; done)
    · refine r_iconst (v := 1) hK dX4_hasWay_12 (by decide) ?_
      refine r_goto (tgt := 17) hK dX4_hasWay_13 (by decide) ?_
      refine q_zret hK hR dX4_hasWay_17 (by first | exact Or.inl rfl | exact Or.inr rfl | assumption) ?_
      refine ⟨?_, rfl⟩
      unfold isB B1
      first
        | (rw [hn] at h9; simp [h1, h9]; done)
        | (simp [h1]; done)
        | (rw [hn] at h9; rw [Int32.not_le] at h9; simp [h1, h9]; done)
set_option maxHeartbeats 4000000 in
set_option maxRecDepth 100000 in
theorem c_hasPerson {ad : Nat → Nat} {g : St} {o n : Nat} {x : Int32} (hL : LnP o) (hn : g.1 o 10 = nI n) : Ci 1 mX4_hasPerson [.ref o, .int x] ad g (fun v g' => v = B1 (isB x n) ∧ g' = g) := by
  obtain ⟨-, t0, t1, t2, t3, t4, t5, t6, t7, t8⟩ := hL
  refine Cm.mk rfl (Nat.le_of_ble_eq_true rfl) (fun K hK hR hm hnn => ?_)
  refine r_iload_n (i := 1) hK dX4_hasPerson_0 rfl rfl ?_
  refine r_if_lt (tgt := 16) hK dX4_hasPerson_1 (by decide) (fun h1 => ?_) (fun h1 => ?_)
  · refine r_iconst (v := 0) hK dX4_hasPerson_16 (by decide) ?_
    refine q_zret hK hR dX4_hasPerson_17 (by first | exact Or.inl rfl | exact Or.inr rfl | assumption) ?_
    refine ⟨?_, rfl⟩
    unfold isB B1
    first
      | (rw [hn] at h9; simp [h1, h9]; done)
      | (simp [h1]; done)
      | (rw [hn] at h9; rw [Int32.not_le] at h9; simp [h1, h9]; done)
  · refine r_iload_n (i := 1) hK dX4_hasPerson_4 rfl rfl ?_
    refine r_aload_n (i := 0) hK dX4_hasPerson_5 rfl rfl ?_
    refine r_getI hK flX4_43 t0 rfl dX4_hasPerson_6 ?_
    refine r_icmp_ge (tgt := 16) hK dX4_hasPerson_9 (by decide) (fun h9 => ?_) (fun h9 => ?_)
    · refine r_iconst (v := 0) hK dX4_hasPerson_16 (by decide) ?_
      refine q_zret hK hR dX4_hasPerson_17 (by first | exact Or.inl rfl | exact Or.inr rfl | assumption) ?_
      refine ⟨?_, rfl⟩
      unfold isB B1
      first
        | (rw [hn] at h9; simp [h1, h9]; done)
        | (simp [h1]; done)
        | (rw [hn] at h9; rw [Int32.not_le] at h9; simp [h1, h9]; done)
    · refine r_iconst (v := 1) hK dX4_hasPerson_12 (by decide) ?_
      refine r_goto (tgt := 17) hK dX4_hasPerson_13 (by decide) ?_
      refine q_zret hK hR dX4_hasPerson_17 (by first | exact Or.inl rfl | exact Or.inr rfl | assumption) ?_
      refine ⟨?_, rfl⟩
      unfold isB B1
      first
        | (rw [hn] at h9; simp [h1, h9]; done)
        | (simp [h1]; done)
        | (rw [hn] at h9; rw [Int32.not_le] at h9; simp [h1, h9]; done)
def kA (X : LN) (p a t : Int32) : Bool := isB p X.2.2.1.1 && (isB a X.1 && isB t X.1)
set_option maxHeartbeats 4000000 in
set_option maxRecDepth 100000 in
theorem c_canAsk {ad : Nat → Nat} {g : St} {X : LN} (hX : LC g X) {p a t : Int32} : Ci 2 mX9_canAsk [.ref 0, .int p, .int a, .int t] ad g (fun v g' => v = B1 (kA X p a t) ∧ g' = g) := by
  obtain ⟨hok, hpo, hlaw, x1, hW, hPs, x4⟩ := id hX
  have h10 := hok.2.1
  have h6 := hpo.1
  have h14 := hok.1
  refine Cm.mk rfl (Nat.le_of_ble_eq_true rfl) (fun K hK hR hm hnn => ?_)
  refine r_aload_n (i := 0) hK dX9_canAsk_0 rfl rfl ?_
  refine r_getA hK flX9_26 to_0 rfl dX9_canAsk_1 ?_
  refine r_iload_n (i := 1) hK dX9_canAsk_4 rfl rfl ?_
  refine r_ci1 hK hnn (c_hasPerson lp_13 hPs.1) moX4_hasPerson mlX9_144 to_13 rfl rfl dX9_canAsk_5 (Nat.le_of_ble_eq_true rfl) (Nat.le_of_ble_eq_true rfl) (eqI ?_)
  refine r_if_eq (tgt := 37) hK dX9_canAsk_8 (by decide) (fun h8 => ?_) (fun h8 => ?_)
  · refine r_iconst (v := 0) hK dX9_canAsk_37 (by decide) ?_
    refine q_zret hK hR dX9_canAsk_38 (by first | exact Or.inl rfl | exact Or.inr rfl | assumption) ?_
    refine ⟨?_, rfl⟩
    unfold kA
    first
      | (rw [B1_0] at h8; rw [h8]; rfl)
      | (rw [B1_0] at h19; rw [h19]; simp; done)
      | (rw [B1_n] at h8; rw [B1_n] at h19; rw [B1_0] at h30; rw [h8, h19, h30]; rfl)
      | (rw [B1_n] at h8; rw [B1_n] at h19; rw [B1_n] at h30; rw [h8, h19, h30]; rfl)
  · refine r_aload_n (i := 0) hK dX9_canAsk_11 rfl rfl ?_
    refine r_getA hK flX9_26 to_0 rfl dX9_canAsk_12 ?_
    refine r_iload_n (i := 2) hK dX9_canAsk_15 rfl rfl ?_
    refine r_ci1 hK hnn (c_hasPlace lp_13 x1) moX4_hasPlace mlX9_162 to_13 rfl rfl dX9_canAsk_16 (Nat.le_of_ble_eq_true rfl) (Nat.le_of_ble_eq_true rfl) (eqI ?_)
    refine r_if_eq (tgt := 37) hK dX9_canAsk_19 (by decide) (fun h19 => ?_) (fun h19 => ?_)
    · refine r_iconst (v := 0) hK dX9_canAsk_37 (by decide) ?_
      refine q_zret hK hR dX9_canAsk_38 (by first | exact Or.inl rfl | exact Or.inr rfl | assumption) ?_
      refine ⟨?_, rfl⟩
      unfold kA
      first
        | (rw [B1_0] at h8; rw [h8]; rfl)
        | (rw [B1_0] at h19; rw [h19]; simp; done)
        | (rw [B1_n] at h8; rw [B1_n] at h19; rw [B1_0] at h30; rw [h8, h19, h30]; rfl)
        | (rw [B1_n] at h8; rw [B1_n] at h19; rw [B1_n] at h30; rw [h8, h19, h30]; rfl)
    · refine r_aload_n (i := 0) hK dX9_canAsk_22 rfl rfl ?_
      refine r_getA hK flX9_26 to_0 rfl dX9_canAsk_23 ?_
      refine r_iload_n (i := 3) hK dX9_canAsk_26 rfl rfl ?_
      refine r_ci1 hK hnn (c_hasPlace lp_13 x1) moX4_hasPlace mlX9_162 to_13 rfl rfl dX9_canAsk_27 (Nat.le_of_ble_eq_true rfl) (Nat.le_of_ble_eq_true rfl) (eqI ?_)
      refine r_if_eq (tgt := 37) hK dX9_canAsk_30 (by decide) (fun h30 => ?_) (fun h30 => ?_)
      · refine r_iconst (v := 0) hK dX9_canAsk_37 (by decide) ?_
        refine q_zret hK hR dX9_canAsk_38 (by first | exact Or.inl rfl | exact Or.inr rfl | assumption) ?_
        refine ⟨?_, rfl⟩
        unfold kA
        first
          | (rw [B1_0] at h8; rw [h8]; rfl)
          | (rw [B1_0] at h19; rw [h19]; simp; done)
          | (rw [B1_n] at h8; rw [B1_n] at h19; rw [B1_0] at h30; rw [h8, h19, h30]; rfl)
          | (rw [B1_n] at h8; rw [B1_n] at h19; rw [B1_n] at h30; rw [h8, h19, h30]; rfl)
      · refine r_iconst (v := 1) hK dX9_canAsk_33 (by decide) ?_
        refine r_goto (tgt := 38) hK dX9_canAsk_34 (by decide) ?_
        refine q_zret hK hR dX9_canAsk_38 (by first | exact Or.inl rfl | exact Or.inr rfl | assumption) ?_
        refine ⟨?_, rfl⟩
        unfold kA
        first
          | (rw [B1_0] at h8; rw [h8]; rfl)
          | (rw [B1_0] at h19; rw [h19]; simp; done)
          | (rw [B1_n] at h8; rw [B1_n] at h19; rw [B1_0] at h30; rw [h8, h19, h30]; rfl)
          | (rw [B1_n] at h8; rw [B1_n] at h19; rw [B1_n] at h30; rw [h8, h19, h30]; rfl)
theorem LC_pth {g : St} {D : WD} {kn : Nat → Bool} {t a : Nat} {f1 f2 f3 : Nat → Int32} {v : Int32} (h : Pth f2 f3 v D kn t a) : PthC (pG g f1 f2 f3 v) D kn t a := h
set_option maxHeartbeats 4000000 in
set_option maxRecDepth 100000 in
theorem c_seekFor {ad : Nat → Nat} {g : St} {X : LN} (hX : LC g X) {p a t : Nat} {x y z : Int32} (hx : x = nI p) (hp : p < X.2.2.1.1) (hy : y = nI a) (ha : a < X.1) (hz : z = nI t) (ht : t < X.1) : Cv 5 mX9_seekFor [.ref 0, .int x, .int y, .int z] ad g (fun g' => ∃ f1 f2 f3 v, g' = pG g f1 f2 f3 v ∧ Pth f2 f3 v X.2.1 (knb (X.2.2.2.2.1 p)) t a) := by
  subst hx; subst hy; subst hz
  obtain ⟨hok, hpo, hlaw, x1, hW, hPs, x4⟩ := id hX
  have h10 := hok.2.1
  have h6 := hpo.1
  have h14 := hok.1
  obtain ⟨p1, p2, p3, p4, p5⟩ := hpo.2 p hp
  obtain ⟨r1, r2, r3, r4, r5⟩ := hPs.2 p hp
  refine Cm.mk rfl (Nat.le_of_ble_eq_true rfl) (fun K hK hR hm hnn => ?_)
  refine r_aload_n (i := 0) hK dX9_seekFor_0 rfl rfl ?_
  refine r_getA hK flX9_33 to_0 rfl dX9_seekFor_1 ?_
  refine r_aload_n (i := 0) hK dX9_seekFor_4 rfl rfl ?_
  refine r_getA hK flX9_26 to_0 rfl dX9_seekFor_5 ?_
  refine r_aload_n (i := 0) hK dX9_seekFor_8 rfl rfl ?_
  refine r_getA hK flX9_26 to_0 rfl dX9_seekFor_9 ?_
  refine r_getA hK flX9_159 to_13 rfl dX9_seekFor_12 ?_
  refine r_iload_n (i := 1) hK dX9_seekFor_15 rfl rfl ?_
  refine r_si2 hK hnn (c_atE to_21 (by decide) rfl (by omega) r5) moX9_at mlX9_134 dX9_seekFor_16 (Nat.le_of_ble_eq_true rfl) (Nat.le_of_ble_eq_true rfl) (eqI ?_)
  refine r_iload_n (i := 2) hK dX9_seekFor_19 rfl rfl ?_
  refine r_iload_n (i := 3) hK dX9_seekFor_20 rfl rfl ?_
  refine r_cv4 hK hnn (c_seek (D := X.2.1) hok hW (Nat.lt_trans p5 (by decide)) ha ht) moX6_seek mlX9_318 to_22 rfl rfl dX9_seekFor_21 (Nat.le_of_ble_eq_true rfl) (Nat.le_of_ble_eq_true rfl) (fun g21 q21 => ?_)
  refine q_vret hK hR dX9_seekFor_24 ?_
  exact q21
def allK (D : WD) : Nat → Bool := knb (2 ^ D.1 - 1)
def farV (X : LN) (a b : Nat) : Int32 := if kW X.2.1 (allK X.2.1) b a < FR then nI (rM X.2.1 (allK X.2.1) b a (rN X.2.1 (allK X.2.1) b a)) else -1
theorem bits_nI {w : Nat} (hw : w ≤ 14) : ((1 : Int32) <<< (nI w &&& 31)) - 1 = nI (2 ^ w - 1) := by
  have hp : 2 ^ w ≤ 2 ^ 14 := Nat.pow_le_pow_right (by decide) hw
  have h1 : 1 ≤ 2 ^ w := Nat.one_le_two_pow
  have h := pk_shlN (n := 1) (nI w &&& 31) w (sh_l w (by omega)) (by rw [Nat.one_mul]; exact Nat.lt_of_le_of_lt hp (by decide))
  rw [show (1 : Int32) = nI 1 from rfl, h, Nat.one_mul, pk_sub h1]

set_option maxHeartbeats 4000000 in
set_option maxRecDepth 100000 in
theorem c_farBetween {ad : Nat → Nat} {g : St} {X : LN} (hX : LC g X) {a b : Nat} {x y : Int32} (hx : x = nI a) (ha : a < X.1) (hy : y = nI b) (hb : b < X.1) : Ci 5 mX9_farBetween [.ref 0, .int x, .int y] ad g (fun v g' => v = farV X a b ∧ Fr g g') := by
  subst hx; subst hy
  obtain ⟨hok, hpo, hlaw, x1, hW, hPs, x4⟩ := id hX
  have h10 := hok.2.1
  have h6 := hpo.1
  have h14 := hok.1
  have hpw : 2 ^ X.2.1.1 ≤ 2 ^ 14 := Nat.pow_le_pow_right (by decide) h14
  refine Cm.mk rfl (Nat.le_of_ble_eq_true rfl) (fun K hK hR hm hnn => ?_)
  refine r_aload_n (i := 0) hK dX9_farBetween_0 rfl rfl ?_
  refine r_getA hK flX9_33 to_0 rfl dX9_farBetween_1 ?_
  refine r_aload_n (i := 0) hK dX9_farBetween_4 rfl rfl ?_
  refine r_getA hK flX9_26 to_0 rfl dX9_farBetween_5 ?_
  refine r_iconst (v := 1) hK dX9_farBetween_8 (by decide) ?_
  refine r_aload_n (i := 0) hK dX9_farBetween_9 rfl rfl ?_
  refine r_getA hK flX9_26 to_0 rfl dX9_farBetween_10 ?_
  refine r_getI hK flX9_110 to_13 rfl dX9_farBetween_13 ?_
  refine r_ishl hK dX9_farBetween_16 ?_
  refine r_top (x := ((1 : Int32) <<< (g.1 13 9 &&& 31))) (y := ((1 : Int32) <<< (nI X.2.1.1 &&& 31))) (by rw [hW.1]) ?_
  refine r_iconst (v := 1) hK dX9_farBetween_17 (by decide) ?_
  refine r_isub hK dX9_farBetween_18 ?_
  refine r_top (y := nI (2 ^ X.2.1.1 - 1)) (bits_nI h14) ?_
  refine r_iload_n (i := 1) hK dX9_farBetween_19 rfl rfl ?_
  refine r_iload_n (i := 2) hK dX9_farBetween_20 rfl rfl ?_
  refine r_cv4 hK hnn (c_seek (D := X.2.1) hok hW (k := 2 ^ X.2.1.1 - 1) (Nat.lt_of_le_of_lt (Nat.sub_le _ _) (Nat.lt_of_le_of_lt hpw (by decide))) ha hb) moX6_seek mlX9_318 to_22 rfl rfl dX9_farBetween_21 (Nat.le_of_ble_eq_true rfl) (Nat.le_of_ble_eq_true rfl) (fun g21 q21 => ?_)
  obtain ⟨f1, f2, f3, v, rfl, hPth⟩ := q21
  have hPc : PthC (pG g f1 f2 f3 v) X.2.1 (allK X.2.1) b a := hPth
  have hrb := (rt_b hok (allK X.2.1) b ha).1
  have hv := pth_v hPc
  refine r_aload_n (i := 0) hK dX9_farBetween_24 rfl rfl ?_
  refine r_getA hK flX9_33 to_0 rfl dX9_farBetween_25 ?_
  refine r_getI hK flX9_181 to_22 rfl dX9_farBetween_28 ?_
  refine r_iconst (v := (-1)) hK dX9_farBetween_31 (by decide) ?_
  refine r_icmp_ne (tgt := 39) hK dX9_farBetween_32 (by decide) (fun h32 => ?_) (fun h32 => ?_)
  · refine r_aload_n (i := 0) hK dX9_farBetween_39 rfl rfl ?_
    refine r_getA hK flX9_33 to_0 rfl dX9_farBetween_40 ?_
    refine r_aload_n (i := 0) hK dX9_farBetween_43 rfl rfl ?_
    refine r_getA hK flX9_33 to_0 rfl dX9_farBetween_44 ?_
    refine r_getI hK flX9_181 to_22 rfl dX9_farBetween_47 ?_
    refine r_ci1 hK hnn (c_minutesTo (j := rn0 X.2.1 (allK X.2.1) b a) hok ha hPc (by rcases hv with ⟨q1, q2⟩ | ⟨q1, q2, q3⟩; exact q2; exact absurd q2 h32) (Nat.le_refl _)) moX6_minutesTo mlX9_184 to_22 rfl rfl dX9_farBetween_50 (Nat.le_of_ble_eq_true rfl) (Nat.le_of_ble_eq_true rfl) (eqI ?_)
    refine q_iret hK hR dX9_farBetween_53 ?_
    refine ⟨?_, Fr_pG⟩
    unfold farV
    rcases hv with ⟨q1, q2⟩ | ⟨q1, q2, q3⟩
    · rw [if_pos q1]
      first
        | (rw [q2] at h32; exact absurd h32 (nI_m1 (by omega)))
        | (unfold rn0; rw [if_pos q1])
    · first
        | exact absurd q2 h32
        | (rw [if_neg q1]; done)
  · refine r_iconst (v := (-1)) hK dX9_farBetween_35 (by decide) ?_
    refine r_goto (tgt := 53) hK dX9_farBetween_36 (by decide) ?_
    refine q_iret hK hR dX9_farBetween_53 ?_
    refine ⟨?_, Fr_pG⟩
    unfold farV
    rcases hv with ⟨q1, q2⟩ | ⟨q1, q2, q3⟩
    · rw [if_pos q1]
      first
        | (rw [q2] at h32; exact absurd h32 (nI_m1 (by omega)))
        | (unfold rn0; rw [if_pos q1])
    · first
        | exact absurd q2 h32
        | (rw [if_neg q1]; done)
def owQ (X : LN) (p a t : Nat) : Nat := ownF X.2.1 (knb (X.2.2.2.2.1 p)) t a X.2.2.2.2.2 (X.2.2.1.2.2.1 p) (X.2.2.1.2.2.2 p)
def mlV (X : LN) (w p a t : Nat) : Int32 := if 0 < owQ X p a t ∧ rP X.2.1 (knb (X.2.2.2.2.1 p)) t a (owQ X p a t) = w then nI (rM X.2.1 (knb (X.2.2.2.2.1 p)) t a (owQ X p a t)) else -1
def asQ (X : LN) (m p t : Nat) : Bool := decide (0 < rn0 X.2.1 (knb (X.2.2.2.2.1 p)) t (X.2.2.1.2.1 p)) && decide (wL X.2.1 (knb (X.2.2.2.2.1 p)) t (X.2.2.1.2.1 p) X.2.2.2.2.2 (rn0 X.2.1 (knb (X.2.2.2.2.1 p)) t (X.2.2.1.2.1 p)) = m)
def asS (X : LN) (m p : Nat) : Nat → Nat
  | 0 => 0
  | t + 1 => if asQ X m p t = true then asS X m p t ||| 1 <<< t else asS X m p t
theorem asS_succ (X : LN) (m p t : Nat) : asS X m p (t + 1) = if asQ X m p t = true then asS X m p t ||| 1 <<< t else asS X m p t := rfl
theorem asS_lt {X : LN} {m p : Nat} : ∀ t, t ≤ 10 → asS X m p t < 1024
  | 0, _ => by show 0 < 1024; omega
  | t + 1, h => by
    have := asS_lt (X := X) (m := m) (p := p) t (by omega)
    rw [asS_succ]
    split
    · refine Nat.or_lt_two_pow (n := 10) this ?_
      rw [Nat.one_shiftLeft]
      exact Nat.pow_lt_pow_right (by decide) (by omega)
    · exact this
set_option maxHeartbeats 4000000 in
set_option maxRecDepth 100000 in
theorem c_minutesIfLedTo {ad : Nat → Nat} {g : St} {X : LN} (hX : LC g X) {w p a t : Nat} (hw : w < 2 ^ 31) (hp : p < X.2.2.1.1) (ha : a < X.1) (ht : t < X.1) : Ci 6 mX9_minutesIfLedTo [.ref 0, .int (nI w), .int (nI p), .int (nI a), .int (nI t)] ad g (fun v g' => v = mlV X w p a t ∧ Fr g g') := by
  obtain ⟨hok, hpo, hlaw, x1, hW, hPs, x4⟩ := id hX
  have h10 := hok.2.1
  have h6 := hpo.1
  have h14 := hok.1
  obtain ⟨p1, p2, p3, p4, p5⟩ := hpo.2 p hp
  obtain ⟨r1, r2, r3, r4, r5⟩ := hPs.2 p hp
  have hb := rt_b hok (knb (X.2.2.2.2.1 p)) t ha
  have hoq : owQ X p a t ≤ rn0 X.2.1 (knb (X.2.2.2.2.1 p)) t a := ownF_le
  have hrp := (hb.2 _ hoq).1
  refine Cm.mk rfl (Nat.le_of_ble_eq_true rfl) (fun K hK hR hm hnn => ?_)
  refine r_aload_n (i := 0) hK dX9_minutesIfLedTo_0 rfl rfl ?_
  refine r_iload_n (i := 2) hK dX9_minutesIfLedTo_1 rfl rfl ?_
  refine r_iload_n (i := 3) hK dX9_minutesIfLedTo_2 rfl rfl ?_
  refine r_iload (i := 4) hK dX9_minutesIfLedTo_3 rfl ?_
  refine r_cv3 hK hnn (c_seekFor hX rfl hp rfl ha rfl ht) moX9_seekFor mlX9_177 to_0 rfl rfl dX9_minutesIfLedTo_5 (Nat.le_of_ble_eq_true rfl) (Nat.le_of_ble_eq_true rfl) (fun g5 q5 => ?_)
  obtain ⟨f1, f2, f3, v, rfl, hPth⟩ := q5
  have hPc : PthC (pG g f1 f2 f3 v) X.2.1 (knb (X.2.2.2.2.1 p)) t a := hPth
  have hX2 : LC (pG g f1 f2 f3 v) X := LC_of hX Fr_pG
  obtain ⟨-, -, -, y1, yW, yPs, y4⟩ := id hX2
  obtain ⟨u1, u2, u3, u4, u5⟩ := yPs.2 p hp
  refine r_aload_n (i := 0) hK dX9_minutesIfLedTo_8 rfl rfl ?_
  refine r_getA hK flX9_33 to_0 rfl dX9_minutesIfLedTo_9 ?_
  refine r_aload_n (i := 0) hK dX9_minutesIfLedTo_12 rfl rfl ?_
  refine r_getI hK flX9_116 to_0 rfl dX9_minutesIfLedTo_13 ?_
  refine r_top (y := nI X.2.2.2.2.2) y4 ?_
  refine r_aload_n (i := 0) hK dX9_minutesIfLedTo_16 rfl rfl ?_
  refine r_getA hK flX9_26 to_0 rfl dX9_minutesIfLedTo_17 ?_
  refine r_getA hK flX9_150 to_13 rfl dX9_minutesIfLedTo_20 ?_
  refine r_iload_n (i := 2) hK dX9_minutesIfLedTo_23 rfl rfl ?_
  refine r_si2 hK hnn (c_atE to_18 (by decide) rfl (by omega) u2) moX9_at mlX9_134 dX9_minutesIfLedTo_24 (Nat.le_of_ble_eq_true rfl) (Nat.le_of_ble_eq_true rfl) (eqI ?_)
  refine r_aload_n (i := 0) hK dX9_minutesIfLedTo_27 rfl rfl ?_
  refine r_getA hK flX9_26 to_0 rfl dX9_minutesIfLedTo_28 ?_
  refine r_getA hK flX9_153 to_13 rfl dX9_minutesIfLedTo_31 ?_
  refine r_iload_n (i := 2) hK dX9_minutesIfLedTo_34 rfl rfl ?_
  refine r_si2 hK hnn (c_atE to_19 (by decide) rfl (by omega) u3) moX9_at mlX9_134 dX9_minutesIfLedTo_35 (Nat.le_of_ble_eq_true rfl) (Nat.le_of_ble_eq_true rfl) (eqI ?_)
  refine r_ci3 hK hnn (Ci.eq (c_dearest hok ha hPc rfl hlaw rfl (by omega) rfl p3) (show _ = nI (owQ X p a t) from rfl) rfl) moX6_dearest mlX9_200 to_22 rfl rfl dX9_minutesIfLedTo_38 (Nat.le_of_ble_eq_true rfl) (Nat.le_of_ble_eq_true rfl) (eqI ?_)
  refine r_istore (i := 5) hK hm dX9_minutesIfLedTo_41 (by decide) ?_
  refine r_iload (i := 5) hK dX9_minutesIfLedTo_43 rfl ?_
  refine r_if_le (tgt := 73) hK dX9_minutesIfLedTo_45 (by decide) (fun h45 => ?_) (fun h45 => ?_)
  · refine r_iconst (v := (-1)) hK dX9_minutesIfLedTo_73 (by decide) ?_
    refine q_iret hK hR dX9_minutesIfLedTo_74 ?_
    refine ⟨?_, Fr_pG⟩
    unfold mlV
    first
      | (rw [if_neg]; rw [show (0 : Int32) = nI 0 from rfl, nI_leI (by omega) (by decide)] at h45; exact fun z => by omega)
      | (rw [if_neg]; exact fun z => h58 (by rw [z.2]))
      | (rw [if_pos]; rw [show (0 : Int32) = nI 0 from rfl, nI_leI (by omega) (by decide)] at h45; exact ⟨by omega, nI_inj (by omega) hw h58⟩)
  · refine r_aload_n (i := 0) hK dX9_minutesIfLedTo_48 rfl rfl ?_
    refine r_getA hK flX9_33 to_0 rfl dX9_minutesIfLedTo_49 ?_
    refine r_iload (i := 5) hK dX9_minutesIfLedTo_52 rfl ?_
    refine r_ci1 hK hnn (c_placeAfter hok ha hPc rfl hoq) moX6_placeAfter mlX9_188 to_22 rfl rfl dX9_minutesIfLedTo_54 (Nat.le_of_ble_eq_true rfl) (Nat.le_of_ble_eq_true rfl) (eqI ?_)
    refine r_iload_n (i := 1) hK dX9_minutesIfLedTo_57 rfl rfl ?_
    refine r_icmp_ne (tgt := 73) hK dX9_minutesIfLedTo_58 (by decide) (fun h58 => ?_) (fun h58 => ?_)
    · refine r_iconst (v := (-1)) hK dX9_minutesIfLedTo_73 (by decide) ?_
      refine q_iret hK hR dX9_minutesIfLedTo_74 ?_
      refine ⟨?_, Fr_pG⟩
      unfold mlV
      first
        | (rw [if_neg]; rw [show (0 : Int32) = nI 0 from rfl, nI_leI (by omega) (by decide)] at h45; exact fun z => by omega)
        | (rw [if_neg]; exact fun z => h58 (by rw [z.2]))
        | (rw [if_pos]; rw [show (0 : Int32) = nI 0 from rfl, nI_leI (by omega) (by decide)] at h45; exact ⟨by omega, nI_inj (by omega) hw h58⟩)
    · refine r_aload_n (i := 0) hK dX9_minutesIfLedTo_61 rfl rfl ?_
      refine r_getA hK flX9_33 to_0 rfl dX9_minutesIfLedTo_62 ?_
      refine r_iload (i := 5) hK dX9_minutesIfLedTo_65 rfl ?_
      refine r_ci1 hK hnn (c_minutesTo hok ha hPc rfl hoq) moX6_minutesTo mlX9_184 to_22 rfl rfl dX9_minutesIfLedTo_67 (Nat.le_of_ble_eq_true rfl) (Nat.le_of_ble_eq_true rfl) (eqI ?_)
      refine r_goto (tgt := 74) hK dX9_minutesIfLedTo_70 (by decide) ?_
      refine q_iret hK hR dX9_minutesIfLedTo_74 ?_
      refine ⟨?_, Fr_pG⟩
      unfold mlV
      first
        | (rw [if_neg]; rw [show (0 : Int32) = nI 0 from rfl, nI_leI (by omega) (by decide)] at h45; exact fun z => by omega)
        | (rw [if_neg]; exact fun z => h58 (by rw [z.2]))
        | (rw [if_pos]; rw [show (0 : Int32) = nI 0 from rfl, nI_leI (by omega) (by decide)] at h45; exact ⟨by omega, nI_inj (by omega) hw h58⟩)
set_option maxHeartbeats 4000000 in
set_option maxRecDepth 100000 in
theorem l_aF {K : KT} {ad : Nat → Nat} {g : St} {X : LN} (hX : LC g X) {p mm : Nat} (hp : p < X.2.2.1.1) (hmm : mm < 2 ^ 31) (hK : Cx K RX9 cX9_askedFor 6 ad) (hm : K.2.2.1.2.maxLocals = 6) (hnn : Nn K 0 0)
    (hR : Rt K 0 0 TT ad (some .int) (Qi ad (fun v g' => v = nI (asS X mm p X.1) ∧ Fr g g'))) :
    ∀ m t, t + m = X.1 → ∀ g1 : St, Fr g g1 → Wp K 0 0 TT ad g1 18 [(0, .ref 0), (1, .int (nI p)), (2, .int (nI mm)), (3, .int (nI (asS X mm p t))), (4, .int (nI (X.2.2.1.2.1 p))), (5, .int (nI t))] [] := by
  intro m
  induction m with
  | zero =>
    intro t htm g1 hfr
    obtain ⟨hok, hpo, hlaw, x1, hW, hPs, x4⟩ := LC_of hX hfr
    have h10 := hok.2.1
    have et : t = X.1 := by omega
    refine r_iload (i := 5) hK dX9_askedFor_18 rfl ?_
    refine r_aload_n (i := 0) hK dX9_askedFor_20 rfl rfl ?_
    refine r_getA hK flX9_26 to_0 rfl dX9_askedFor_21 ?_
    refine r_getI hK flX9_104 to_13 rfl dX9_askedFor_24 ?_
    refine r_top (y := nI X.1) x1 ?_
    refine r_icmp_ge (tgt := 84) hK dX9_askedFor_27 (by decide) (fun _ => ?_) (fun h => absurd (nI_le (by omega) (by omega)) h)
    refine r_iload_n (i := 3) hK dX9_askedFor_84 rfl rfl ?_
    refine q_iret hK hR dX9_askedFor_85 ⟨?_, hfr⟩
    rw [et]
  | succ m ih =>
    intro t htm g1 hfr
    have hX1 := LC_of hX hfr
    obtain ⟨hok, hpo, hlaw, x1, hW, hPs, x4⟩ := id hX1
    have h10 := hok.2.1
    have ht : t < X.1 := by omega
    obtain ⟨p1, p2, p3, p4, p5⟩ := hpo.2 p hp
    refine r_iload (i := 5) hK dX9_askedFor_18 rfl ?_
    refine r_aload_n (i := 0) hK dX9_askedFor_20 rfl rfl ?_
    refine r_getA hK flX9_26 to_0 rfl dX9_askedFor_21 ?_
    refine r_getI hK flX9_104 to_13 rfl dX9_askedFor_24 ?_
    refine r_top (y := nI X.1) x1 ?_
    refine r_icmp_ge (tgt := 84) hK dX9_askedFor_27 (by decide) (fun h => absurd h (nI_ge ht (by omega))) (fun _ => ?_)
    refine r_aload_n (i := 0) hK dX9_askedFor_30 rfl rfl ?_
    refine r_iload_n (i := 1) hK dX9_askedFor_31 rfl rfl ?_
    refine r_iload (i := 4) hK dX9_askedFor_32 rfl ?_
    refine r_iload (i := 5) hK dX9_askedFor_34 rfl ?_
    refine r_cv3 hK hnn (c_seekFor hX1 rfl hp rfl p1 rfl (by omega)) moX9_seekFor mlX9_177 to_0 rfl rfl dX9_askedFor_36 (Nat.le_of_ble_eq_true rfl) (Nat.le_of_ble_eq_true rfl) (fun g36 q36 => ?_)
    obtain ⟨f1, f2, f3, v, rfl, hPth⟩ := q36
    have hPc : PthC (pG g1 f1 f2 f3 v) X.2.1 (knb (X.2.2.2.2.1 p)) t (X.2.2.1.2.1 p) := hPth
    have hX2 : LC (pG g1 f1 f2 f3 v) X := LC_of hX1 Fr_pG
    obtain ⟨-, -, -, y1, yW, yPs, y4⟩ := id hX2
    have hv := pth_v hPc
    have hrb := (rt_b hok (knb (X.2.2.2.2.1 p)) t p1).1
    refine r_aload_n (i := 0) hK dX9_askedFor_39 rfl rfl ?_
    refine r_getA hK flX9_33 to_0 rfl dX9_askedFor_40 ?_
    refine r_getI hK flX9_181 to_22 rfl dX9_askedFor_43 ?_
    refine r_if_le (tgt := 78) hK dX9_askedFor_46 (by decide) (fun h46 => ?_) (fun h46 => ?_)
    · have hq : asQ X mm p t = false := by
        unfold asQ
        rw [decide_eq_false (p := 0 < rn0 X.2.1 (knb (X.2.2.2.2.1 p)) t (X.2.2.1.2.1 p))]
        · rfl
        · rcases hv with ⟨q1, q2⟩ | ⟨q1, q2, q3⟩
          · rw [q2, show (0 : Int32) = nI 0 from rfl, nI_leI (by omega) (by decide)] at h46; omega
          · omega
      refine r_iincN (i := 5) hK hm dX9_askedFor_78 rfl (by decide) ?_
      refine r_goto (tgt := 18) hK dX9_askedFor_81 (by decide) ?_
      refine r_loc ?_ (ih (t + 1) (by omega) _ (hfr.tr Fr_pG))
      simp only [List.map_cons, List.map_nil]
      rw [asS_succ, hq]
      rfl
    · refine r_aload_n (i := 0) hK dX9_askedFor_49 rfl rfl ?_
      have e181 : (pG g1 f1 f2 f3 v).1 22 3 = nI (rn0 X.2.1 (knb (X.2.2.2.2.1 p)) t (X.2.2.1.2.1 p)) := by rcases hv with ⟨q1, q2⟩ | ⟨q1, q2, q3⟩; exact q2; exact absurd (show (pG g1 f1 f2 f3 v).1 22 3 ≤ 0 by rw [q2]; decide) h46
      have hr0 : 0 < rn0 X.2.1 (knb (X.2.2.2.2.1 p)) t (X.2.2.1.2.1 p) := by rw [e181, show (0 : Int32) = nI 0 from rfl, nI_leI (by omega) (by decide)] at h46; omega
      refine r_getA hK flX9_33 to_0 rfl dX9_askedFor_50 ?_
      refine r_aload_n (i := 0) hK dX9_askedFor_53 rfl rfl ?_
      refine r_getI hK flX9_116 to_0 rfl dX9_askedFor_54 ?_
      refine r_top (y := nI X.2.2.2.2.2) y4 ?_
      refine r_aload_n (i := 0) hK dX9_askedFor_57 rfl rfl ?_
      refine r_getA hK flX9_33 to_0 rfl dX9_askedFor_58 ?_
      refine r_getI hK flX9_181 to_22 rfl dX9_askedFor_61 ?_
      refine r_ci2 hK hnn (c_minutesByLaw (j := rn0 X.2.1 (knb (X.2.2.2.2.1 p)) t (X.2.2.1.2.1 p)) hok p1 hPc rfl hlaw e181 (Nat.le_refl _)) moX6_minutesByLaw mlX9_197 to_22 rfl rfl dX9_askedFor_64 (Nat.le_of_ble_eq_true rfl) (Nat.le_of_ble_eq_true rfl) (eqI ?_)
      refine r_iload_n (i := 2) hK dX9_askedFor_67 rfl rfl ?_
      refine r_icmp_ne (tgt := 78) hK dX9_askedFor_68 (by decide) (fun h68 => ?_) (fun h68 => ?_)
      · have hq : asQ X mm p t = false := by
          unfold asQ
          rw [decide_eq_false (p := wL X.2.1 (knb (X.2.2.2.2.1 p)) t (X.2.2.1.2.1 p) X.2.2.2.2.2 (rn0 X.2.1 (knb (X.2.2.2.2.1 p)) t (X.2.2.1.2.1 p)) = mm)]
          · simp
          · exact fun z => h68 (by rw [z])
        refine r_iincN (i := 5) hK hm dX9_askedFor_78 rfl (by decide) ?_
        refine r_goto (tgt := 18) hK dX9_askedFor_81 (by decide) ?_
        refine r_loc ?_ (ih (t + 1) (by omega) _ (hfr.tr Fr_pG))
        simp only [List.map_cons, List.map_nil]
        rw [asS_succ, hq]
        rfl
      · refine r_iload_n (i := 3) hK dX9_askedFor_71 rfl rfl ?_
        refine r_iconst (v := 1) hK dX9_askedFor_72 (by decide) ?_
        refine r_iload (i := 5) hK dX9_askedFor_73 rfl ?_
        refine r_ishl hK dX9_askedFor_75 ?_
        refine r_ior hK dX9_askedFor_76 ?_
        refine r_top (y := nI (asS X mm p t ||| 1 <<< t)) (setbit (by omega)) ?_
        refine r_istore_n (i := 3) hK hm dX9_askedFor_77 rfl (by decide) ?_
        have hq : asQ X mm p t = true := by
          unfold asQ
          rw [decide_eq_true (nI_inj (by have := wL_b hok (knb (X.2.2.2.2.1 p)) t (law := X.2.2.2.2.2) p1 (Nat.le_refl (rn0 X.2.1 (knb (X.2.2.2.2.1 p)) t (X.2.2.1.2.1 p))); omega) hmm h68)]
          have : 0 < rn0 X.2.1 (knb (X.2.2.2.2.1 p)) t (X.2.2.1.2.1 p) := hr0
          simp [this]
        refine r_iincN (i := 5) hK hm dX9_askedFor_78 rfl (by decide) ?_
        refine r_goto (tgt := 18) hK dX9_askedFor_81 (by decide) ?_
        refine r_loc ?_ (ih (t + 1) (by omega) _ (hfr.tr Fr_pG))
        simp only [List.map_cons, List.map_nil]
        rw [asS_succ, hq]
        rfl
set_option maxHeartbeats 4000000 in
set_option maxRecDepth 100000 in
theorem c_askedFor {ad : Nat → Nat} {g : St} {X : LN} (hX : LC g X) {p mm : Nat} {x y : Int32} (hx : x = nI p) (hp : p < X.2.2.1.1) (hy : y = nI mm) (hmm : mm < 2 ^ 31) : Ci 6 mX9_askedFor [.ref 0, .int x, .int y] ad g (fun v g' => v = nI (asS X mm p X.1) ∧ Fr g g') := by
  subst hx; subst hy
  obtain ⟨hok, hpo, hlaw, x1, hW, hPs, x4⟩ := id hX
  have h10 := hok.2.1
  have h6 := hpo.1
  have h14 := hok.1
  obtain ⟨p1, p2, p3, p4, p5⟩ := hpo.2 p hp
  obtain ⟨r1, r2, r3, r4, r5⟩ := hPs.2 p hp
  refine Cm.mk rfl (Nat.le_of_ble_eq_true rfl) (fun K hK hR hm hnn => ?_)
  refine r_iconst (v := 0) hK dX9_askedFor_0 (by decide) ?_
  refine r_istore_n (i := 3) hK hm dX9_askedFor_1 rfl (by decide) ?_
  refine r_aload_n (i := 0) hK dX9_askedFor_2 rfl rfl ?_
  refine r_getA hK flX9_26 to_0 rfl dX9_askedFor_3 ?_
  refine r_getA hK flX9_147 to_13 rfl dX9_askedFor_6 ?_
  refine r_iload_n (i := 1) hK dX9_askedFor_9 rfl rfl ?_
  refine r_si2 hK hnn (c_atE to_17 (by decide) rfl (by omega) r1) moX9_at mlX9_134 dX9_askedFor_10 (Nat.le_of_ble_eq_true rfl) (Nat.le_of_ble_eq_true rfl) (eqI ?_)
  refine r_istore (i := 4) hK hm dX9_askedFor_13 (by decide) ?_
  refine r_iconst (v := 0) hK dX9_askedFor_15 (by decide) ?_
  refine r_istore (i := 5) hK hm dX9_askedFor_16 (by decide) ?_
  refine r_loc ?_ (l_aF hX hp hmm hK hm hnn hR X.1 0 (by omega) g Fr.rf)
  rfl
