/-! ANSWERS -/
abbrev UNK : Int32 := -1000000001
abbrev OUT : Int32 := -1000000002
abbrev NTT : Int32 := -1000000003
abbrev FUL : Int32 := -1000000004
abbrev nC (x : Int32) : Nat := x.toNatClampNeg
theorem swn {x : Int32} {N : Int} (k : Nat) (h : x.toInt < 0 ∨ N < x.toInt) (hk : (k : Int) ≤ N) (h2 : k < 2 ^ 31) : x ≠ nI k := by
  intro e
  rw [e, nI_toInt h2] at h
  omega
def aWay (X : LN) (p x : Int32) : Int32 := if isB p X.2.1.1 = true then (if x = 0 then nI (X.2.1.2.1 (nC p)) else if x = 1 then nI (X.2.1.2.2.1 (nC p)) else if x = 2 then nI (X.2.1.2.2.2 (nC p)) else OUT) else UNK
def aPers (X : LN) (p x : Int32) : Int32 := if isB p X.2.2.1.1 = true then (if x = 0 then nI (X.2.2.1.2.1 (nC p)) else if x = 1 then nI (X.2.2.1.2.2.1 (nC p)) else if x = 2 then nI (X.2.2.1.2.2.2 (nC p)) else if x = 3 then nI (X.2.2.2.1 (nC p)) else if x = 4 then nI (X.2.2.2.2.1 (nC p)) else OUT) else UNK
def aFar (X : LN) (a b : Int32) : Int32 := if (isB a X.1 && isB b X.1) = true then farV X (nC a) (nC b) else UNK

set_option maxHeartbeats 4000000 in
set_option maxRecDepth 100000 in
theorem c_way {ad : Nat → Nat} {g : St} {X : LN} (hX : LC g X) {p x : Int32} : Ci 2 mX9_way [.ref 0, .int p, .int x] ad g (fun v g' => v = aWay X p x ∧ g' = g) := by
  obtain ⟨hok, hpo, hlaw, x1, hW, hPs, x4⟩ := id hX
  have h10 := hok.2.1
  have h6 := hpo.1
  have h14 := hok.1
  refine Cm.mk rfl (Nat.le_of_ble_eq_true rfl) (fun K hK hR hm hnn => ?_)
  refine r_aload_n (i := 0) hK dX9_way_0 rfl rfl ?_
  refine r_getA hK flX9_26 to_0 rfl dX9_way_1 ?_
  refine r_iload_n (i := 1) hK dX9_way_4 rfl rfl ?_
  refine r_ci1 hK hnn (c_hasWay lp_13 hW.1) moX4_hasWay mlX9_125 to_13 rfl rfl dX9_way_5 (Nat.le_of_ble_eq_true rfl) (Nat.le_of_ble_eq_true rfl) (eqI ?_)
  refine r_if_ne (tgt := 14) hK dX9_way_8 (by decide) (fun h8 => ?_) (fun h8 => ?_)
  · refine r_iload_n (i := 2) hK dX9_way_14 rfl rfl ?_
    have hb := B1_n.mp h8
    obtain ⟨hj, hwn⟩ := isB_cl (by omega) hb
    refine r_sw (n := 3) (lo := 0) (tgt0 := 76) hK dX9_way_15 (by decide) (by decide) (by decide) (by decide) (fun h15 => ?_) (fun i15 hi15 h15 => ?_)
    · refine r_ldc hK ckX9_76 dX9_way_76 ?_
      refine q_iret hK hR dX9_way_78 ?_
      refine ⟨?_, rfl⟩
      unfold aWay
      first
        | (rw [if_neg (by rw [B1_0.mp h8]; decide)]; done)
        | (rw [if_pos hb, (show x = 0 from h15)]; rw [if_pos rfl]; done)
        | (rw [if_pos hb, (show x = 1 from h15)]; rw [if_neg (by decide)]; rw [if_pos rfl]; done)
        | (rw [if_pos hb, (show x = 2 from h15)]; rw [if_neg (by decide)]; rw [if_neg (by decide)]; rw [if_pos rfl]; done)
        | (rw [if_pos hb, if_neg (show ¬ x = 0 from swn 0 h15 (by decide) (by decide)), if_neg (show ¬ x = 1 from swn 1 h15 (by decide) (by decide)), if_neg (show ¬ x = 2 from swn 2 h15 (by decide) (by decide))])
    · obtain rfl | rfl | rfl : i15 = 0 ∨ i15 = 1 ∨ i15 = 2 := by omega
      · refine ⟨_, 40, rfl, by decide, ?_⟩
        refine r_aload_n (i := 0) hK dX9_way_40 rfl rfl ?_
        refine r_getA hK flX9_26 to_0 rfl dX9_way_41 ?_
        refine r_getA hK flX9_130 to_13 rfl dX9_way_44 ?_
        refine r_iload_n (i := 1) hK dX9_way_47 rfl rfl ?_
        refine r_si2 hK hnn (c_atE to_14 (by decide) hwn (by omega) (hW.2 _ hj).1) moX9_at mlX9_134 dX9_way_48 (Nat.le_of_ble_eq_true rfl) (Nat.le_of_ble_eq_true rfl) (eqI ?_)
        refine q_iret hK hR dX9_way_51 ?_
        refine ⟨?_, rfl⟩
        unfold aWay
        first
          | (rw [if_neg (by rw [B1_0.mp h8]; decide)]; done)
          | (rw [if_pos hb, (show x = 0 from h15)]; rw [if_pos rfl]; done)
          | (rw [if_pos hb, (show x = 1 from h15)]; rw [if_neg (by decide)]; rw [if_pos rfl]; done)
          | (rw [if_pos hb, (show x = 2 from h15)]; rw [if_neg (by decide)]; rw [if_neg (by decide)]; rw [if_pos rfl]; done)
          | (rw [if_pos hb, if_neg (show ¬ x = 0 from swn 0 h15 (by decide) (by decide)), if_neg (show ¬ x = 1 from swn 1 h15 (by decide) (by decide)), if_neg (show ¬ x = 2 from swn 2 h15 (by decide) (by decide))])
      · refine ⟨_, 52, rfl, by decide, ?_⟩
        refine r_aload_n (i := 0) hK dX9_way_52 rfl rfl ?_
        refine r_getA hK flX9_26 to_0 rfl dX9_way_53 ?_
        refine r_getA hK flX9_138 to_13 rfl dX9_way_56 ?_
        refine r_iload_n (i := 1) hK dX9_way_59 rfl rfl ?_
        refine r_si2 hK hnn (c_atE to_15 (by decide) hwn (by omega) (hW.2 _ hj).2.1) moX9_at mlX9_134 dX9_way_60 (Nat.le_of_ble_eq_true rfl) (Nat.le_of_ble_eq_true rfl) (eqI ?_)
        refine q_iret hK hR dX9_way_63 ?_
        refine ⟨?_, rfl⟩
        unfold aWay
        first
          | (rw [if_neg (by rw [B1_0.mp h8]; decide)]; done)
          | (rw [if_pos hb, (show x = 0 from h15)]; rw [if_pos rfl]; done)
          | (rw [if_pos hb, (show x = 1 from h15)]; rw [if_neg (by decide)]; rw [if_pos rfl]; done)
          | (rw [if_pos hb, (show x = 2 from h15)]; rw [if_neg (by decide)]; rw [if_neg (by decide)]; rw [if_pos rfl]; done)
          | (rw [if_pos hb, if_neg (show ¬ x = 0 from swn 0 h15 (by decide) (by decide)), if_neg (show ¬ x = 1 from swn 1 h15 (by decide) (by decide)), if_neg (show ¬ x = 2 from swn 2 h15 (by decide) (by decide))])
      · refine ⟨_, 64, rfl, by decide, ?_⟩
        refine r_aload_n (i := 0) hK dX9_way_64 rfl rfl ?_
        refine r_getA hK flX9_26 to_0 rfl dX9_way_65 ?_
        refine r_getA hK flX9_141 to_13 rfl dX9_way_68 ?_
        refine r_iload_n (i := 1) hK dX9_way_71 rfl rfl ?_
        refine r_si2 hK hnn (c_atE to_16 (by decide) hwn (by omega) (hW.2 _ hj).2.2) moX9_at mlX9_134 dX9_way_72 (Nat.le_of_ble_eq_true rfl) (Nat.le_of_ble_eq_true rfl) (eqI ?_)
        refine q_iret hK hR dX9_way_75 ?_
        refine ⟨?_, rfl⟩
        unfold aWay
        first
          | (rw [if_neg (by rw [B1_0.mp h8]; decide)]; done)
          | (rw [if_pos hb, (show x = 0 from h15)]; rw [if_pos rfl]; done)
          | (rw [if_pos hb, (show x = 1 from h15)]; rw [if_neg (by decide)]; rw [if_pos rfl]; done)
          | (rw [if_pos hb, (show x = 2 from h15)]; rw [if_neg (by decide)]; rw [if_neg (by decide)]; rw [if_pos rfl]; done)
          | (rw [if_pos hb, if_neg (show ¬ x = 0 from swn 0 h15 (by decide) (by decide)), if_neg (show ¬ x = 1 from swn 1 h15 (by decide) (by decide)), if_neg (show ¬ x = 2 from swn 2 h15 (by decide) (by decide))])
  · refine r_ldc hK ckX9_129 dX9_way_11 ?_
    refine q_iret hK hR dX9_way_13 ?_
    refine ⟨?_, rfl⟩
    unfold aWay
    first
      | (rw [if_neg (by rw [B1_0.mp h8]; decide)]; done)
      | (rw [if_pos hb, (show x = 0 from h15)]; rw [if_pos rfl]; done)
      | (rw [if_pos hb, (show x = 1 from h15)]; rw [if_neg (by decide)]; rw [if_pos rfl]; done)
      | (rw [if_pos hb, (show x = 2 from h15)]; rw [if_neg (by decide)]; rw [if_neg (by decide)]; rw [if_pos rfl]; done)
      | (rw [if_pos hb, if_neg (show ¬ x = 0 from swn 0 h15 (by decide) (by decide)), if_neg (show ¬ x = 1 from swn 1 h15 (by decide) (by decide)), if_neg (show ¬ x = 2 from swn 2 h15 (by decide) (by decide))])
set_option maxHeartbeats 4000000 in
set_option maxRecDepth 100000 in
theorem c_person {ad : Nat → Nat} {g : St} {X : LN} (hX : LC g X) {p x : Int32} : Ci 2 mX9_person [.ref 0, .int p, .int x] ad g (fun v g' => v = aPers X p x ∧ g' = g) := by
  obtain ⟨hok, hpo, hlaw, x1, hW, hPs, x4⟩ := id hX
  have h10 := hok.2.1
  have h6 := hpo.1
  have h14 := hok.1
  refine Cm.mk rfl (Nat.le_of_ble_eq_true rfl) (fun K hK hR hm hnn => ?_)
  refine r_aload_n (i := 0) hK dX9_person_0 rfl rfl ?_
  refine r_getA hK flX9_26 to_0 rfl dX9_person_1 ?_
  refine r_iload_n (i := 1) hK dX9_person_4 rfl rfl ?_
  refine r_ci1 hK hnn (c_hasPerson lp_13 hPs.1) moX4_hasPerson mlX9_144 to_13 rfl rfl dX9_person_5 (Nat.le_of_ble_eq_true rfl) (Nat.le_of_ble_eq_true rfl) (eqI ?_)
  refine r_if_ne (tgt := 14) hK dX9_person_8 (by decide) (fun h8 => ?_) (fun h8 => ?_)
  · refine r_iload_n (i := 2) hK dX9_person_14 rfl rfl ?_
    have hb := B1_n.mp h8
    obtain ⟨hj, hwn⟩ := isB_cl (by omega) hb
    refine r_sw (n := 5) (lo := 0) (tgt0 := 108) hK dX9_person_15 (by decide) (by decide) (by decide) (by decide) (fun h15 => ?_) (fun i15 hi15 h15 => ?_)
    · refine r_ldc hK ckX9_76 dX9_person_108 ?_
      refine q_iret hK hR dX9_person_110 ?_
      refine ⟨?_, rfl⟩
      unfold aPers
      first
        | (rw [if_neg (by rw [B1_0.mp h8]; decide)]; done)
        | (rw [if_pos hb, (show x = 0 from h15)]; rw [if_pos rfl]; done)
        | (rw [if_pos hb, (show x = 1 from h15)]; rw [if_neg (by decide)]; rw [if_pos rfl]; done)
        | (rw [if_pos hb, (show x = 2 from h15)]; rw [if_neg (by decide)]; rw [if_neg (by decide)]; rw [if_pos rfl]; done)
        | (rw [if_pos hb, (show x = 3 from h15)]; rw [if_neg (by decide)]; rw [if_neg (by decide)]; rw [if_neg (by decide)]; rw [if_pos rfl]; done)
        | (rw [if_pos hb, (show x = 4 from h15)]; rw [if_neg (by decide)]; rw [if_neg (by decide)]; rw [if_neg (by decide)]; rw [if_neg (by decide)]; rw [if_pos rfl]; done)
        | (rw [if_pos hb, if_neg (show ¬ x = 0 from swn 0 h15 (by decide) (by decide)), if_neg (show ¬ x = 1 from swn 1 h15 (by decide) (by decide)), if_neg (show ¬ x = 2 from swn 2 h15 (by decide) (by decide)), if_neg (show ¬ x = 3 from swn 3 h15 (by decide) (by decide)), if_neg (show ¬ x = 4 from swn 4 h15 (by decide) (by decide))])
    · obtain rfl | rfl | rfl | rfl | rfl : i15 = 0 ∨ i15 = 1 ∨ i15 = 2 ∨ i15 = 3 ∨ i15 = 4 := by omega
      · refine ⟨_, 48, rfl, by decide, ?_⟩
        refine r_aload_n (i := 0) hK dX9_person_48 rfl rfl ?_
        refine r_getA hK flX9_26 to_0 rfl dX9_person_49 ?_
        refine r_getA hK flX9_147 to_13 rfl dX9_person_52 ?_
        refine r_iload_n (i := 1) hK dX9_person_55 rfl rfl ?_
        refine r_si2 hK hnn (c_atE to_17 (by decide) hwn (by omega) (hPs.2 _ hj).1) moX9_at mlX9_134 dX9_person_56 (Nat.le_of_ble_eq_true rfl) (Nat.le_of_ble_eq_true rfl) (eqI ?_)
        refine q_iret hK hR dX9_person_59 ?_
        refine ⟨?_, rfl⟩
        unfold aPers
        first
          | (rw [if_neg (by rw [B1_0.mp h8]; decide)]; done)
          | (rw [if_pos hb, (show x = 0 from h15)]; rw [if_pos rfl]; done)
          | (rw [if_pos hb, (show x = 1 from h15)]; rw [if_neg (by decide)]; rw [if_pos rfl]; done)
          | (rw [if_pos hb, (show x = 2 from h15)]; rw [if_neg (by decide)]; rw [if_neg (by decide)]; rw [if_pos rfl]; done)
          | (rw [if_pos hb, (show x = 3 from h15)]; rw [if_neg (by decide)]; rw [if_neg (by decide)]; rw [if_neg (by decide)]; rw [if_pos rfl]; done)
          | (rw [if_pos hb, (show x = 4 from h15)]; rw [if_neg (by decide)]; rw [if_neg (by decide)]; rw [if_neg (by decide)]; rw [if_neg (by decide)]; rw [if_pos rfl]; done)
          | (rw [if_pos hb, if_neg (show ¬ x = 0 from swn 0 h15 (by decide) (by decide)), if_neg (show ¬ x = 1 from swn 1 h15 (by decide) (by decide)), if_neg (show ¬ x = 2 from swn 2 h15 (by decide) (by decide)), if_neg (show ¬ x = 3 from swn 3 h15 (by decide) (by decide)), if_neg (show ¬ x = 4 from swn 4 h15 (by decide) (by decide))])
      · refine ⟨_, 60, rfl, by decide, ?_⟩
        refine r_aload_n (i := 0) hK dX9_person_60 rfl rfl ?_
        refine r_getA hK flX9_26 to_0 rfl dX9_person_61 ?_
        refine r_getA hK flX9_150 to_13 rfl dX9_person_64 ?_
        refine r_iload_n (i := 1) hK dX9_person_67 rfl rfl ?_
        refine r_si2 hK hnn (c_atE to_18 (by decide) hwn (by omega) (hPs.2 _ hj).2.1) moX9_at mlX9_134 dX9_person_68 (Nat.le_of_ble_eq_true rfl) (Nat.le_of_ble_eq_true rfl) (eqI ?_)
        refine q_iret hK hR dX9_person_71 ?_
        refine ⟨?_, rfl⟩
        unfold aPers
        first
          | (rw [if_neg (by rw [B1_0.mp h8]; decide)]; done)
          | (rw [if_pos hb, (show x = 0 from h15)]; rw [if_pos rfl]; done)
          | (rw [if_pos hb, (show x = 1 from h15)]; rw [if_neg (by decide)]; rw [if_pos rfl]; done)
          | (rw [if_pos hb, (show x = 2 from h15)]; rw [if_neg (by decide)]; rw [if_neg (by decide)]; rw [if_pos rfl]; done)
          | (rw [if_pos hb, (show x = 3 from h15)]; rw [if_neg (by decide)]; rw [if_neg (by decide)]; rw [if_neg (by decide)]; rw [if_pos rfl]; done)
          | (rw [if_pos hb, (show x = 4 from h15)]; rw [if_neg (by decide)]; rw [if_neg (by decide)]; rw [if_neg (by decide)]; rw [if_neg (by decide)]; rw [if_pos rfl]; done)
          | (rw [if_pos hb, if_neg (show ¬ x = 0 from swn 0 h15 (by decide) (by decide)), if_neg (show ¬ x = 1 from swn 1 h15 (by decide) (by decide)), if_neg (show ¬ x = 2 from swn 2 h15 (by decide) (by decide)), if_neg (show ¬ x = 3 from swn 3 h15 (by decide) (by decide)), if_neg (show ¬ x = 4 from swn 4 h15 (by decide) (by decide))])
      · refine ⟨_, 72, rfl, by decide, ?_⟩
        refine r_aload_n (i := 0) hK dX9_person_72 rfl rfl ?_
        refine r_getA hK flX9_26 to_0 rfl dX9_person_73 ?_
        refine r_getA hK flX9_153 to_13 rfl dX9_person_76 ?_
        refine r_iload_n (i := 1) hK dX9_person_79 rfl rfl ?_
        refine r_si2 hK hnn (c_atE to_19 (by decide) hwn (by omega) (hPs.2 _ hj).2.2.1) moX9_at mlX9_134 dX9_person_80 (Nat.le_of_ble_eq_true rfl) (Nat.le_of_ble_eq_true rfl) (eqI ?_)
        refine q_iret hK hR dX9_person_83 ?_
        refine ⟨?_, rfl⟩
        unfold aPers
        first
          | (rw [if_neg (by rw [B1_0.mp h8]; decide)]; done)
          | (rw [if_pos hb, (show x = 0 from h15)]; rw [if_pos rfl]; done)
          | (rw [if_pos hb, (show x = 1 from h15)]; rw [if_neg (by decide)]; rw [if_pos rfl]; done)
          | (rw [if_pos hb, (show x = 2 from h15)]; rw [if_neg (by decide)]; rw [if_neg (by decide)]; rw [if_pos rfl]; done)
          | (rw [if_pos hb, (show x = 3 from h15)]; rw [if_neg (by decide)]; rw [if_neg (by decide)]; rw [if_neg (by decide)]; rw [if_pos rfl]; done)
          | (rw [if_pos hb, (show x = 4 from h15)]; rw [if_neg (by decide)]; rw [if_neg (by decide)]; rw [if_neg (by decide)]; rw [if_neg (by decide)]; rw [if_pos rfl]; done)
          | (rw [if_pos hb, if_neg (show ¬ x = 0 from swn 0 h15 (by decide) (by decide)), if_neg (show ¬ x = 1 from swn 1 h15 (by decide) (by decide)), if_neg (show ¬ x = 2 from swn 2 h15 (by decide) (by decide)), if_neg (show ¬ x = 3 from swn 3 h15 (by decide) (by decide)), if_neg (show ¬ x = 4 from swn 4 h15 (by decide) (by decide))])
      · refine ⟨_, 84, rfl, by decide, ?_⟩
        refine r_aload_n (i := 0) hK dX9_person_84 rfl rfl ?_
        refine r_getA hK flX9_26 to_0 rfl dX9_person_85 ?_
        refine r_getA hK flX9_156 to_13 rfl dX9_person_88 ?_
        refine r_iload_n (i := 1) hK dX9_person_91 rfl rfl ?_
        refine r_si2 hK hnn (c_atE to_20 (by decide) hwn (by omega) (hPs.2 _ hj).2.2.2.1) moX9_at mlX9_134 dX9_person_92 (Nat.le_of_ble_eq_true rfl) (Nat.le_of_ble_eq_true rfl) (eqI ?_)
        refine q_iret hK hR dX9_person_95 ?_
        refine ⟨?_, rfl⟩
        unfold aPers
        first
          | (rw [if_neg (by rw [B1_0.mp h8]; decide)]; done)
          | (rw [if_pos hb, (show x = 0 from h15)]; rw [if_pos rfl]; done)
          | (rw [if_pos hb, (show x = 1 from h15)]; rw [if_neg (by decide)]; rw [if_pos rfl]; done)
          | (rw [if_pos hb, (show x = 2 from h15)]; rw [if_neg (by decide)]; rw [if_neg (by decide)]; rw [if_pos rfl]; done)
          | (rw [if_pos hb, (show x = 3 from h15)]; rw [if_neg (by decide)]; rw [if_neg (by decide)]; rw [if_neg (by decide)]; rw [if_pos rfl]; done)
          | (rw [if_pos hb, (show x = 4 from h15)]; rw [if_neg (by decide)]; rw [if_neg (by decide)]; rw [if_neg (by decide)]; rw [if_neg (by decide)]; rw [if_pos rfl]; done)
          | (rw [if_pos hb, if_neg (show ¬ x = 0 from swn 0 h15 (by decide) (by decide)), if_neg (show ¬ x = 1 from swn 1 h15 (by decide) (by decide)), if_neg (show ¬ x = 2 from swn 2 h15 (by decide) (by decide)), if_neg (show ¬ x = 3 from swn 3 h15 (by decide) (by decide)), if_neg (show ¬ x = 4 from swn 4 h15 (by decide) (by decide))])
      · refine ⟨_, 96, rfl, by decide, ?_⟩
        refine r_aload_n (i := 0) hK dX9_person_96 rfl rfl ?_
        refine r_getA hK flX9_26 to_0 rfl dX9_person_97 ?_
        refine r_getA hK flX9_159 to_13 rfl dX9_person_100 ?_
        refine r_iload_n (i := 1) hK dX9_person_103 rfl rfl ?_
        refine r_si2 hK hnn (c_atE to_21 (by decide) hwn (by omega) (hPs.2 _ hj).2.2.2.2) moX9_at mlX9_134 dX9_person_104 (Nat.le_of_ble_eq_true rfl) (Nat.le_of_ble_eq_true rfl) (eqI ?_)
        refine q_iret hK hR dX9_person_107 ?_
        refine ⟨?_, rfl⟩
        unfold aPers
        first
          | (rw [if_neg (by rw [B1_0.mp h8]; decide)]; done)
          | (rw [if_pos hb, (show x = 0 from h15)]; rw [if_pos rfl]; done)
          | (rw [if_pos hb, (show x = 1 from h15)]; rw [if_neg (by decide)]; rw [if_pos rfl]; done)
          | (rw [if_pos hb, (show x = 2 from h15)]; rw [if_neg (by decide)]; rw [if_neg (by decide)]; rw [if_pos rfl]; done)
          | (rw [if_pos hb, (show x = 3 from h15)]; rw [if_neg (by decide)]; rw [if_neg (by decide)]; rw [if_neg (by decide)]; rw [if_pos rfl]; done)
          | (rw [if_pos hb, (show x = 4 from h15)]; rw [if_neg (by decide)]; rw [if_neg (by decide)]; rw [if_neg (by decide)]; rw [if_neg (by decide)]; rw [if_pos rfl]; done)
          | (rw [if_pos hb, if_neg (show ¬ x = 0 from swn 0 h15 (by decide) (by decide)), if_neg (show ¬ x = 1 from swn 1 h15 (by decide) (by decide)), if_neg (show ¬ x = 2 from swn 2 h15 (by decide) (by decide)), if_neg (show ¬ x = 3 from swn 3 h15 (by decide) (by decide)), if_neg (show ¬ x = 4 from swn 4 h15 (by decide) (by decide))])
  · refine r_ldc hK ckX9_129 dX9_person_11 ?_
    refine q_iret hK hR dX9_person_13 ?_
    refine ⟨?_, rfl⟩
    unfold aPers
    first
      | (rw [if_neg (by rw [B1_0.mp h8]; decide)]; done)
      | (rw [if_pos hb, (show x = 0 from h15)]; rw [if_pos rfl]; done)
      | (rw [if_pos hb, (show x = 1 from h15)]; rw [if_neg (by decide)]; rw [if_pos rfl]; done)
      | (rw [if_pos hb, (show x = 2 from h15)]; rw [if_neg (by decide)]; rw [if_neg (by decide)]; rw [if_pos rfl]; done)
      | (rw [if_pos hb, (show x = 3 from h15)]; rw [if_neg (by decide)]; rw [if_neg (by decide)]; rw [if_neg (by decide)]; rw [if_pos rfl]; done)
      | (rw [if_pos hb, (show x = 4 from h15)]; rw [if_neg (by decide)]; rw [if_neg (by decide)]; rw [if_neg (by decide)]; rw [if_neg (by decide)]; rw [if_pos rfl]; done)
      | (rw [if_pos hb, if_neg (show ¬ x = 0 from swn 0 h15 (by decide) (by decide)), if_neg (show ¬ x = 1 from swn 1 h15 (by decide) (by decide)), if_neg (show ¬ x = 2 from swn 2 h15 (by decide) (by decide)), if_neg (show ¬ x = 3 from swn 3 h15 (by decide) (by decide)), if_neg (show ¬ x = 4 from swn 4 h15 (by decide) (by decide))])
set_option maxHeartbeats 4000000 in
set_option maxRecDepth 100000 in
theorem c_far {ad : Nat → Nat} {g : St} {X : LN} (hX : LC g X) {a b : Int32} : Ci 6 mX9_far [.ref 0, .int a, .int b] ad g (fun v g' => v = aFar X a b ∧ Fr g g') := by
  obtain ⟨hok, hpo, hlaw, x1, hW, hPs, x4⟩ := id hX
  have h10 := hok.2.1
  have h6 := hpo.1
  have h14 := hok.1
  refine Cm.mk rfl (Nat.le_of_ble_eq_true rfl) (fun K hK hR hm hnn => ?_)
  refine r_aload_n (i := 0) hK dX9_far_0 rfl rfl ?_
  refine r_getA hK flX9_26 to_0 rfl dX9_far_1 ?_
  refine r_iload_n (i := 1) hK dX9_far_4 rfl rfl ?_
  refine r_ci1 hK hnn (c_hasPlace lp_13 x1) moX4_hasPlace mlX9_162 to_13 rfl rfl dX9_far_5 (Nat.le_of_ble_eq_true rfl) (Nat.le_of_ble_eq_true rfl) (eqI ?_)
  refine r_if_eq (tgt := 22) hK dX9_far_8 (by decide) (fun h8 => ?_) (fun h8 => ?_)
  · refine r_ldc hK ckX9_129 dX9_far_22 ?_
    refine q_iret hK hR dX9_far_24 ?_
    refine ⟨?_, Fr.rf⟩
    unfold aFar
    first
      | (rw [if_neg (by rw [B1_0.mp h8]; simp)]; done)
      | (rw [if_neg (by rw [B1_0.mp h19]; simp)]; done)
  · refine r_aload_n (i := 0) hK dX9_far_11 rfl rfl ?_
    refine r_getA hK flX9_26 to_0 rfl dX9_far_12 ?_
    refine r_iload_n (i := 2) hK dX9_far_15 rfl rfl ?_
    refine r_ci1 hK hnn (c_hasPlace lp_13 x1) moX4_hasPlace mlX9_162 to_13 rfl rfl dX9_far_16 (Nat.le_of_ble_eq_true rfl) (Nat.le_of_ble_eq_true rfl) (eqI ?_)
    refine r_if_ne (tgt := 25) hK dX9_far_19 (by decide) (fun h19 => ?_) (fun h19 => ?_)
    · refine r_aload_n (i := 0) hK dX9_far_25 rfl rfl ?_
      have ha := B1_n.mp h8
      have hb := B1_n.mp h19
      obtain ⟨ha1, ha2⟩ := isB_cl (by omega) ha
      obtain ⟨hb1, hb2⟩ := isB_cl (by omega) hb
      refine r_iload_n (i := 1) hK dX9_far_26 rfl rfl ?_
      refine r_iload_n (i := 2) hK dX9_far_27 rfl rfl ?_
      refine r_ci2 hK hnn (c_farBetween hX ha2 ha1 hb2 hb1) moX9_farBetween mlX9_165 to_0 rfl rfl dX9_far_28 (Nat.le_of_ble_eq_true rfl) (Nat.le_of_ble_eq_true rfl) (fun v28 g28 q28 => ?_)
      obtain ⟨rfl, hfr⟩ := q28
      refine q_iret hK hR dX9_far_31 ?_
      refine ⟨?_, hfr⟩
      unfold aFar
      rw [ha, hb]; rfl
    · refine r_ldc hK ckX9_129 dX9_far_22 ?_
      refine q_iret hK hR dX9_far_24 ?_
      refine ⟨?_, Fr.rf⟩
      unfold aFar
      first
        | (rw [if_neg (by rw [B1_0.mp h8]; simp)]; done)
        | (rw [if_neg (by rw [B1_0.mp h19]; simp)]; done)
def aLaw (X : LN) (v : Int32) : Int32 := if v < 0 ∨ 3 < v then OUT else nI X.2.2.2.2.2
def sLaw (X : LN) (v : Int32) : LN := if v < 0 ∨ 3 < v then X else (X.1, X.2.1, X.2.2.1, X.2.2.2.1, X.2.2.2.2.1, nC v)
def aLrn (X : LN) (p q : Int32) : Int32 := if (isB p X.2.2.1.1 && isB q X.2.1.1) = true then (if (X.2.2.2.2.1 (nC p)).testBit (nC q) = true then 1 else 0) else UNK
def upN (f : Nat → Nat) (k x : Nat) : Nat → Nat := fun j => if j = k then x else f j
def clrN (s q : Nat) : Nat := s &&& ((2 ^ 14 - 1) ^^^ 2 ^ q)
def sLrn (X : LN) (p q : Int32) (is : Int32) : LN := if (isB p X.2.2.1.1 && isB q X.2.1.1) = true then (X.1, X.2.1, X.2.2.1, X.2.2.2.1, upN X.2.2.2.2.1 (nC p) (if is = 0 then clrN (X.2.2.2.2.1 (nC p)) (nC q) else X.2.2.2.2.1 (nC p) ||| 1 <<< nC q), X.2.2.2.2.2) else X
def aHab (X : LN) (p v : Int32) : Int32 := if isB p X.2.2.1.1 = true then (if v < 0 ∨ 3 < v then OUT else nI (X.2.2.2.1 (nC p))) else UNK
def sHab (X : LN) (p v : Int32) : LN := if isB p X.2.2.1.1 = true then (if v < 0 ∨ 3 < v then X else (X.1, X.2.1, X.2.2.1, upN X.2.2.2.1 (nC p) (nC v), X.2.2.2.2.1, X.2.2.2.2.2)) else X

set_option maxHeartbeats 4000000 in
set_option maxRecDepth 100000 in
theorem c_law {ad : Nat → Nat} {g : St} {X : LN} (hX : LC g X) {v : Int32} : Ci 1 mX9_law [.ref 0, .int v] ad g (fun r g' => r = aLaw X v ∧ g' = if v < 0 ∨ 3 < v then g else upI g 0 9 v) := by
  obtain ⟨hok, hpo, hlaw, x1, hW, hPs, x4⟩ := id hX
  have h10 := hok.2.1
  have h6 := hpo.1
  have h14 := hok.1
  refine Cm.mk rfl (Nat.le_of_ble_eq_true rfl) (fun K hK hR hm hnn => ?_)
  refine r_iload_n (i := 1) hK dX9_law_0 rfl rfl ?_
  refine r_if_lt (tgt := 9) hK dX9_law_1 (by decide) (fun h1 => ?_) (fun h1 => ?_)
  · refine r_ldc hK ckX9_76 dX9_law_9 ?_
    refine q_iret hK hR dX9_law_11 ?_
    unfold aLaw
    first
      | (rw [if_pos (Or.inl h1), if_pos (Or.inl h1)]; exact ⟨rfl, rfl⟩)
      | (have hor : ¬ (v < 0 ∨ 3 < v) := (fun z => z.elim h1 (fun y => absurd h6 (Int32.not_le.mpr y))); rw [if_neg hor, if_neg hor]; exact ⟨x4, rfl⟩)
      | (rw [if_pos (Or.inr (Int32.not_le.mp h6)), if_pos (Or.inr (Int32.not_le.mp h6))]; exact ⟨rfl, rfl⟩)
  · refine r_iload_n (i := 1) hK dX9_law_4 rfl rfl ?_
    refine r_iconst (v := 3) hK dX9_law_5 (by decide) ?_
    refine r_icmp_le (tgt := 12) hK dX9_law_6 (by decide) (fun h6 => ?_) (fun h6 => ?_)
    · refine r_aload_n (i := 0) hK dX9_law_12 rfl rfl ?_
      refine r_getI hK flX9_116 to_0 rfl dX9_law_13 ?_
      refine r_istore_n (i := 2) hK hm dX9_law_16 rfl (by decide) ?_
      refine r_aload_n (i := 0) hK dX9_law_17 rfl rfl ?_
      refine r_iload_n (i := 1) hK dX9_law_18 rfl rfl ?_
      refine r_putI hK flX9_116 ft9_9 to_0 rfl dX9_law_19 ?_
      refine r_iload_n (i := 2) hK dX9_law_22 rfl rfl ?_
      refine q_iret hK hR dX9_law_23 ?_
      unfold aLaw
      first
        | (rw [if_pos (Or.inl h1), if_pos (Or.inl h1)]; exact ⟨rfl, rfl⟩)
        | (have hor : ¬ (v < 0 ∨ 3 < v) := (fun z => z.elim h1 (fun y => absurd h6 (Int32.not_le.mpr y))); rw [if_neg hor, if_neg hor]; exact ⟨x4, rfl⟩)
        | (rw [if_pos (Or.inr (Int32.not_le.mp h6)), if_pos (Or.inr (Int32.not_le.mp h6))]; exact ⟨rfl, rfl⟩)
    · refine r_ldc hK ckX9_76 dX9_law_9 ?_
      refine q_iret hK hR dX9_law_11 ?_
      unfold aLaw
      first
        | (rw [if_pos (Or.inl h1), if_pos (Or.inl h1)]; exact ⟨rfl, rfl⟩)
        | (have hor : ¬ (v < 0 ∨ 3 < v) := (fun z => z.elim h1 (fun y => absurd h6 (Int32.not_le.mpr y))); rw [if_neg hor, if_neg hor]; exact ⟨x4, rfl⟩)
        | (rw [if_pos (Or.inr (Int32.not_le.mp h6)), if_pos (Or.inr (Int32.not_le.mp h6))]; exact ⟨rfl, rfl⟩)
set_option maxHeartbeats 4000000 in
set_option maxRecDepth 100000 in
theorem c_habit {ad : Nat → Nat} {g : St} {X : LN} (hX : LC g X) {p v : Int32} : Ci 2 mX9_habit [.ref 0, .int p, .int v] ad g (fun r g' => r = aHab X p v ∧ g' = if isB p X.2.2.1.1 = true then (if v < 0 ∨ 3 < v then g else upI g 20 (nC p) v) else g) := by
  obtain ⟨hok, hpo, hlaw, x1, hW, hPs, x4⟩ := id hX
  have h10 := hok.2.1
  have h6 := hpo.1
  have h14 := hok.1
  refine Cm.mk rfl (Nat.le_of_ble_eq_true rfl) (fun K hK hR hm hnn => ?_)
  refine r_aload_n (i := 0) hK dX9_habit_0 rfl rfl ?_
  refine r_getA hK flX9_26 to_0 rfl dX9_habit_1 ?_
  refine r_iload_n (i := 1) hK dX9_habit_4 rfl rfl ?_
  refine r_ci1 hK hnn (c_hasPerson lp_13 hPs.1) moX4_hasPerson mlX9_144 to_13 rfl rfl dX9_habit_5 (Nat.le_of_ble_eq_true rfl) (Nat.le_of_ble_eq_true rfl) (eqI ?_)
  refine r_if_ne (tgt := 14) hK dX9_habit_8 (by decide) (fun h8 => ?_) (fun h8 => ?_)
  · refine r_iload_n (i := 2) hK dX9_habit_14 rfl rfl ?_
    have hb := B1_n.mp h8
    obtain ⟨hj, hwn⟩ := isB_cl (by omega) hb
    refine r_if_lt (tgt := 23) hK dX9_habit_15 (by decide) (fun h15 => ?_) (fun h15 => ?_)
    · refine r_ldc hK ckX9_76 dX9_habit_23 ?_
      refine q_iret hK hR dX9_habit_25 ?_
      unfold aHab
      first
        | (have hb0 : ¬ isB p X.2.2.1.1 = true := (by rw [B1_0.mp h8]; decide); rw [if_neg hb0, if_neg hb0]; exact ⟨rfl, rfl⟩)
        | (rw [if_pos hb, if_pos hb, if_pos (Or.inl h15), if_pos (Or.inl h15)]; exact ⟨rfl, rfl⟩)
        | (have hor : ¬ (v < 0 ∨ 3 < v) := (fun z => z.elim h15 (fun y => absurd h20 (Int32.not_le.mpr y))); rw [if_pos hb, if_pos hb, if_neg hor, if_neg hor]; exact ⟨rfl, rfl⟩)
        | (rw [if_pos hb, if_pos hb, if_pos (Or.inr (Int32.not_le.mp h20)), if_pos (Or.inr (Int32.not_le.mp h20))]; exact ⟨rfl, rfl⟩)
    · refine r_iload_n (i := 2) hK dX9_habit_18 rfl rfl ?_
      refine r_iconst (v := 3) hK dX9_habit_19 (by decide) ?_
      refine r_icmp_le (tgt := 26) hK dX9_habit_20 (by decide) (fun h20 => ?_) (fun h20 => ?_)
      · refine r_aload_n (i := 0) hK dX9_habit_26 rfl rfl ?_
        refine r_getA hK flX9_26 to_0 rfl dX9_habit_27 ?_
        refine r_getA hK flX9_156 to_13 rfl dX9_habit_30 ?_
        refine r_iload_n (i := 1) hK dX9_habit_33 rfl rfl ?_
        refine r_si2 hK hnn (c_atE to_20 (by decide) hwn (by omega) (hPs.2 _ hj).2.2.2.1) moX9_at mlX9_134 dX9_habit_34 (Nat.le_of_ble_eq_true rfl) (Nat.le_of_ble_eq_true rfl) (eqI ?_)
        refine r_istore_n (i := 3) hK hm dX9_habit_37 rfl (by decide) ?_
        refine r_aload_n (i := 0) hK dX9_habit_38 rfl rfl ?_
        refine r_getA hK flX9_26 to_0 rfl dX9_habit_39 ?_
        refine r_getA hK flX9_156 to_13 rfl dX9_habit_42 ?_
        refine r_iload_n (i := 1) hK dX9_habit_45 rfl rfl ?_
        refine r_iload_n (i := 2) hK dX9_habit_46 rfl rfl ?_
        refine r_sv3 hK hnn (c_ptE to_20 (by decide) hwn (by omega) rfl) moX9_put mlX9_169 dX9_habit_47 (Nat.le_of_ble_eq_true rfl) (Nat.le_of_ble_eq_true rfl) (eqV ?_)
        refine r_iload_n (i := 3) hK dX9_habit_50 rfl rfl ?_
        refine q_iret hK hR dX9_habit_51 ?_
        unfold aHab
        first
          | (have hb0 : ¬ isB p X.2.2.1.1 = true := (by rw [B1_0.mp h8]; decide); rw [if_neg hb0, if_neg hb0]; exact ⟨rfl, rfl⟩)
          | (rw [if_pos hb, if_pos hb, if_pos (Or.inl h15), if_pos (Or.inl h15)]; exact ⟨rfl, rfl⟩)
          | (have hor : ¬ (v < 0 ∨ 3 < v) := (fun z => z.elim h15 (fun y => absurd h20 (Int32.not_le.mpr y))); rw [if_pos hb, if_pos hb, if_neg hor, if_neg hor]; exact ⟨rfl, rfl⟩)
          | (rw [if_pos hb, if_pos hb, if_pos (Or.inr (Int32.not_le.mp h20)), if_pos (Or.inr (Int32.not_le.mp h20))]; exact ⟨rfl, rfl⟩)
      · refine r_ldc hK ckX9_76 dX9_habit_23 ?_
        refine q_iret hK hR dX9_habit_25 ?_
        unfold aHab
        first
          | (have hb0 : ¬ isB p X.2.2.1.1 = true := (by rw [B1_0.mp h8]; decide); rw [if_neg hb0, if_neg hb0]; exact ⟨rfl, rfl⟩)
          | (rw [if_pos hb, if_pos hb, if_pos (Or.inl h15), if_pos (Or.inl h15)]; exact ⟨rfl, rfl⟩)
          | (have hor : ¬ (v < 0 ∨ 3 < v) := (fun z => z.elim h15 (fun y => absurd h20 (Int32.not_le.mpr y))); rw [if_pos hb, if_pos hb, if_neg hor, if_neg hor]; exact ⟨rfl, rfl⟩)
          | (rw [if_pos hb, if_pos hb, if_pos (Or.inr (Int32.not_le.mp h20)), if_pos (Or.inr (Int32.not_le.mp h20))]; exact ⟨rfl, rfl⟩)
  · refine r_ldc hK ckX9_129 dX9_habit_11 ?_
    refine q_iret hK hR dX9_habit_13 ?_
    unfold aHab
    first
      | (have hb0 : ¬ isB p X.2.2.1.1 = true := (by rw [B1_0.mp h8]; decide); rw [if_neg hb0, if_neg hb0]; exact ⟨rfl, rfl⟩)
      | (rw [if_pos hb, if_pos hb, if_pos (Or.inl h15), if_pos (Or.inl h15)]; exact ⟨rfl, rfl⟩)
      | (have hor : ¬ (v < 0 ∨ 3 < v) := (fun z => z.elim h15 (fun y => absurd h20 (Int32.not_le.mpr y))); rw [if_pos hb, if_pos hb, if_neg hor, if_neg hor]; exact ⟨rfl, rfl⟩)
      | (rw [if_pos hb, if_pos hb, if_pos (Or.inr (Int32.not_le.mp h20)), if_pos (Or.inr (Int32.not_le.mp h20))]; exact ⟨rfl, rfl⟩)
theorem clr_nI {s q : Nat} (hs : s < 2 ^ 14) (hq : q < 14) : nI s &&& ((1 : Int32) <<< (nI q &&& 31) ^^^ (-1)) = nI (clrN s q) := by
  have hp : 2 ^ q ≤ 2 ^ 13 := Nat.pow_le_pow_right (by decide) (by omega)
  have h := pk_shlN (n := 1) (nI q &&& 31) q (sh_l q (by omega)) (by rw [Nat.one_mul]; exact Nat.lt_of_le_of_lt hp (by decide))
  rw [show (1 : Int32) = nI 1 from rfl, h, Nat.one_mul]
  have key : ∀ s, s < 2 ^ 14 → ∀ q, q < 14 → nI s &&& (nI (2 ^ q) ^^^ (-1)) = nI (clrN s q) := by
    intro s hs q hq
    apply Int32.toBitVec_inj.1
    show BitVec.ofNat 32 s &&& (BitVec.ofNat 32 (2 ^ q) ^^^ (-1 : Int32).toBitVec) = BitVec.ofNat 32 (clrN s q)
    have hm1 : (-1 : Int32).toBitVec = BitVec.allOnes 32 := by decide
    rw [hm1]
    apply BitVec.eq_of_getLsbD_eq
    intro i hi
    rw [BitVec.getLsbD_and, BitVec.getLsbD_xor, BitVec.getLsbD_ofNat, BitVec.getLsbD_ofNat, BitVec.getLsbD_ofNat, Nat.testBit_two_pow]
    simp only [hi, decide_true, Bool.true_and, BitVec.getLsbD_allOnes]
    unfold clrN
    rw [Nat.testBit_and, Nat.testBit_xor, Nat.testBit_two_pow_sub_one, Nat.testBit_two_pow]
    by_cases h14 : i < 14
    · simp only [h14, decide_true, Bool.true_xor]
      cases s.testBit i <;> cases decide (q = i) <;> rfl
    · have : s.testBit i = false := Nat.testBit_lt_two_pow (Nat.lt_of_lt_of_le hs (Nat.pow_le_pow_right (by decide) (by omega)))
      rw [this]; simp
  exact key s hs q hq
set_option maxHeartbeats 4000000 in
set_option maxRecDepth 100000 in
theorem c_learn {ad : Nat → Nat} {g : St} {X : LN} (hX : LC g X) {p q is : Int32} : Ci 2 mX9_learn [.ref 0, .int p, .int q, .int is] ad g (fun r g' => r = aLrn X p q ∧ g' = if (isB p X.2.2.1.1 && isB q X.2.1.1) = true then upI g 21 (nC p) (nI (if is = 0 then clrN (X.2.2.2.2.1 (nC p)) (nC q) else X.2.2.2.2.1 (nC p) ||| 1 <<< nC q)) else g) := by
  obtain ⟨hok, hpo, hlaw, x1, hW, hPs, x4⟩ := id hX
  have h10 := hok.2.1
  have h6 := hpo.1
  have h14 := hok.1
  refine Cm.mk rfl (Nat.le_of_ble_eq_true rfl) (fun K hK hR hm hnn => ?_)
  refine r_aload_n (i := 0) hK dX9_learn_0 rfl rfl ?_
  refine r_getA hK flX9_26 to_0 rfl dX9_learn_1 ?_
  refine r_iload_n (i := 1) hK dX9_learn_4 rfl rfl ?_
  refine r_ci1 hK hnn (c_hasPerson lp_13 hPs.1) moX4_hasPerson mlX9_144 to_13 rfl rfl dX9_learn_5 (Nat.le_of_ble_eq_true rfl) (Nat.le_of_ble_eq_true rfl) (eqI ?_)
  refine r_if_eq (tgt := 22) hK dX9_learn_8 (by decide) (fun h8 => ?_) (fun h8 => ?_)
  · refine r_ldc hK ckX9_129 dX9_learn_22 ?_
    refine q_iret hK hR dX9_learn_24 ?_
    unfold aLrn
    first
      | (have hb0 : ¬ (isB p X.2.2.1.1 && isB q X.2.1.1) = true := (by rw [B1_0.mp h8]; simp); rw [if_neg hb0, if_neg hb0]; exact ⟨rfl, rfl⟩)
      | (have hb0 : ¬ (isB p X.2.2.1.1 && isB q X.2.1.1) = true := (by rw [B1_0.mp h19]; simp); rw [if_neg hb0, if_neg hb0]; exact ⟨rfl, rfl⟩)
      | (rw [if_pos hbb, if_pos hbb, if_pos h47]; exact ⟨rfl, rfl⟩)
      | (rw [if_pos hbb, if_pos hbb, if_neg h47]; exact ⟨rfl, rfl⟩)
  · refine r_aload_n (i := 0) hK dX9_learn_11 rfl rfl ?_
    refine r_getA hK flX9_26 to_0 rfl dX9_learn_12 ?_
    refine r_iload_n (i := 2) hK dX9_learn_15 rfl rfl ?_
    refine r_ci1 hK hnn (c_hasWay lp_13 hW.1) moX4_hasWay mlX9_125 to_13 rfl rfl dX9_learn_16 (Nat.le_of_ble_eq_true rfl) (Nat.le_of_ble_eq_true rfl) (eqI ?_)
    refine r_if_ne (tgt := 25) hK dX9_learn_19 (by decide) (fun h19 => ?_) (fun h19 => ?_)
    · refine r_aload_n (i := 0) hK dX9_learn_25 rfl rfl ?_
      have hb1 := B1_n.mp h8
      have hb2 := B1_n.mp h19
      have hbb : (isB p X.2.2.1.1 && isB q X.2.1.1) = true := by rw [hb1, hb2]; rfl
      obtain ⟨hj, hwn⟩ := isB_cl (by omega) hb1
      obtain ⟨hq, hqn⟩ := isB_cl (by omega) hb2
      obtain ⟨c1, c2, c3, c4, c5⟩ := hpo.2 _ hj
      refine r_getA hK flX9_26 to_0 rfl dX9_learn_26 ?_
      refine r_getA hK flX9_159 to_13 rfl dX9_learn_29 ?_
      refine r_iload_n (i := 1) hK dX9_learn_32 rfl rfl ?_
      refine r_si2 hK hnn (c_atE to_21 (by decide) hwn (by omega) (hPs.2 _ hj).2.2.2.2) moX9_at mlX9_134 dX9_learn_33 (Nat.le_of_ble_eq_true rfl) (Nat.le_of_ble_eq_true rfl) (eqI ?_)
      refine r_istore (i := 4) hK hm dX9_learn_36 (by decide) ?_
      refine r_aload_n (i := 0) hK dX9_learn_38 rfl rfl ?_
      refine r_getA hK flX9_26 to_0 rfl dX9_learn_39 ?_
      refine r_getA hK flX9_159 to_13 rfl dX9_learn_42 ?_
      refine r_iload_n (i := 1) hK dX9_learn_45 rfl rfl ?_
      refine r_iload_n (i := 3) hK dX9_learn_46 rfl rfl ?_
      refine r_if_eq (tgt := 59) hK dX9_learn_47 (by decide) (fun h47 => ?_) (fun h47 => ?_)
      · refine r_iload (i := 4) hK dX9_learn_59 rfl ?_
        refine r_iconst (v := 1) hK dX9_learn_61 (by decide) ?_
        refine r_iload_n (i := 2) hK dX9_learn_62 rfl rfl ?_
        refine r_ishl hK dX9_learn_63 ?_
        refine r_iconst (v := (-1)) hK dX9_learn_64 (by decide) ?_
        refine r_ixor hK dX9_learn_65 ?_
        refine r_iand hK dX9_learn_66 ?_
        refine r_top (y := nI (clrN (X.2.2.2.2.1 (nC p)) (nC q))) (by have e := clr_nI (q := q.toNatClampNeg) c5 (by omega); rw [← hqn] at e; exact e) ?_
        refine r_sv3 hK hnn (c_ptE to_21 (by decide) hwn (by omega) rfl) moX9_put mlX9_169 dX9_learn_67 (Nat.le_of_ble_eq_true rfl) (Nat.le_of_ble_eq_true rfl) (eqV ?_)
        refine r_iload (i := 4) hK dX9_learn_70 rfl ?_
        refine r_iload_n (i := 2) hK dX9_learn_72 rfl rfl ?_
        refine r_ishr hK dX9_learn_73 ?_
        refine r_iconst (v := 1) hK dX9_learn_74 (by decide) ?_
        refine r_iand hK dX9_learn_75 ?_
        refine r_top (y := if (X.2.2.2.2.1 (nC p)).testBit (nC q) = true then 1 else 0) (by have e := tb_if (k := X.2.2.2.2.1 (nC p)) (w := q.toNatClampNeg) (Nat.lt_trans c5 (by decide)) (by omega); rw [← hqn] at e; exact e) ?_
        refine q_iret hK hR dX9_learn_76 ?_
        unfold aLrn
        first
          | (have hb0 : ¬ (isB p X.2.2.1.1 && isB q X.2.1.1) = true := (by rw [B1_0.mp h8]; simp); rw [if_neg hb0, if_neg hb0]; exact ⟨rfl, rfl⟩)
          | (have hb0 : ¬ (isB p X.2.2.1.1 && isB q X.2.1.1) = true := (by rw [B1_0.mp h19]; simp); rw [if_neg hb0, if_neg hb0]; exact ⟨rfl, rfl⟩)
          | (rw [if_pos hbb, if_pos hbb, if_pos h47]; exact ⟨rfl, rfl⟩)
          | (rw [if_pos hbb, if_pos hbb, if_neg h47]; exact ⟨rfl, rfl⟩)
      · refine r_iload (i := 4) hK dX9_learn_50 rfl ?_
        refine r_iconst (v := 1) hK dX9_learn_52 (by decide) ?_
        refine r_iload_n (i := 2) hK dX9_learn_53 rfl rfl ?_
        refine r_ishl hK dX9_learn_54 ?_
        refine r_ior hK dX9_learn_55 ?_
        refine r_top (y := nI (X.2.2.2.2.1 (nC p) ||| 1 <<< nC q)) (by have e := setbit (s := X.2.2.2.2.1 (nC p)) (p := q.toNatClampNeg) (by omega); rw [← hqn] at e; exact e) ?_
        refine r_goto (tgt := 67) hK dX9_learn_56 (by decide) ?_
        refine r_sv3 hK hnn (c_ptE to_21 (by decide) hwn (by omega) rfl) moX9_put mlX9_169 dX9_learn_67 (Nat.le_of_ble_eq_true rfl) (Nat.le_of_ble_eq_true rfl) (eqV ?_)
        refine r_iload (i := 4) hK dX9_learn_70 rfl ?_
        refine r_iload_n (i := 2) hK dX9_learn_72 rfl rfl ?_
        refine r_ishr hK dX9_learn_73 ?_
        refine r_iconst (v := 1) hK dX9_learn_74 (by decide) ?_
        refine r_iand hK dX9_learn_75 ?_
        refine r_top (y := if (X.2.2.2.2.1 (nC p)).testBit (nC q) = true then 1 else 0) (by have e := tb_if (k := X.2.2.2.2.1 (nC p)) (w := q.toNatClampNeg) (Nat.lt_trans c5 (by decide)) (by omega); rw [← hqn] at e; exact e) ?_
        refine q_iret hK hR dX9_learn_76 ?_
        unfold aLrn
        first
          | (have hb0 : ¬ (isB p X.2.2.1.1 && isB q X.2.1.1) = true := (by rw [B1_0.mp h8]; simp); rw [if_neg hb0, if_neg hb0]; exact ⟨rfl, rfl⟩)
          | (have hb0 : ¬ (isB p X.2.2.1.1 && isB q X.2.1.1) = true := (by rw [B1_0.mp h19]; simp); rw [if_neg hb0, if_neg hb0]; exact ⟨rfl, rfl⟩)
          | (rw [if_pos hbb, if_pos hbb, if_pos h47]; exact ⟨rfl, rfl⟩)
          | (rw [if_pos hbb, if_pos hbb, if_neg h47]; exact ⟨rfl, rfl⟩)
    · refine r_ldc hK ckX9_129 dX9_learn_22 ?_
      refine q_iret hK hR dX9_learn_24 ?_
      unfold aLrn
      first
        | (have hb0 : ¬ (isB p X.2.2.1.1 && isB q X.2.1.1) = true := (by rw [B1_0.mp h8]; simp); rw [if_neg hb0, if_neg hb0]; exact ⟨rfl, rfl⟩)
        | (have hb0 : ¬ (isB p X.2.2.1.1 && isB q X.2.1.1) = true := (by rw [B1_0.mp h19]; simp); rw [if_neg hb0, if_neg hb0]; exact ⟨rfl, rfl⟩)
        | (rw [if_pos hbb, if_pos hbb, if_pos h47]; exact ⟨rfl, rfl⟩)
        | (rw [if_pos hbb, if_pos hbb, if_neg h47]; exact ⟨rfl, rfl⟩)
