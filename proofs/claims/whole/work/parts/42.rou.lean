/-! ANSWERS of routes -/
theorem kA_cl {X : LN} {p a t : Int32} (h10 : X.1 ≤ 10) (h6 : X.2.2.1.1 ≤ 6) (h : kA X p a t = true) : (p.toNatClampNeg < X.2.2.1.1 ∧ p = nI p.toNatClampNeg) ∧ (a.toNatClampNeg < X.1 ∧ a = nI a.toNatClampNeg) ∧ (t.toNatClampNeg < X.1 ∧ t = nI t.toNatClampNeg) := by
  unfold kA at h
  simp only [Bool.and_eq_true] at h
  exact ⟨isB_cl (by omega) h.1, isB_cl (by omega) h.2.1, isB_cl (by omega) h.2.2⟩
abbrev kN (X : LN) (p : Nat) : Nat → Bool := knb (X.2.2.2.2.1 p)
def aRou (X : LN) (p a t i : Int32) : Int32 := if kA X p a t = true then (if kW X.2.1 (kN X (nC p)) (nC t) (nC a) < FR then (if i = -1 then nI (rn0 X.2.1 (kN X (nC p)) (nC t) (nC a)) else if i = -2 then nI (rM X.2.1 (kN X (nC p)) (nC t) (nC a) (rn0 X.2.1 (kN X (nC p)) (nC t) (nC a))) else if ¬ i < 0 ∧ i < nI (rn0 X.2.1 (kN X (nC p)) (nC t) (nC a)) then nI (rP X.2.1 (kN X (nC p)) (nC t) (nC a) (nC i + 1)) else -1) else -1) else UNK
def saX (X : LN) (p a t : Nat) : Nat := sdF X.2.1 (kN X p) t a (X.2.2.2.1 p) (X.2.2.1.2.2.1 p)
def aSay (X : LN) (p a t x : Int32) : Int32 := if kA X p a t = true then (if x < 0 ∨ 4 < x then OUT else if x = 0 then nI (saX X (nC p) (nC a) (nC t)) else if x = 1 then nI (rP X.2.1 (kN X (nC p)) (nC t) (nC a) (saX X (nC p) (nC a) (nC t))) else if x = 2 then nI (rM X.2.1 (kN X (nC p)) (nC t) (nC a) (saX X (nC p) (nC a) (nC t))) else if x = 3 then nI (sL X.2.1 (kN X (nC p)) (nC t) (nC a) X.2.2.2.2.2 (saX X (nC p) (nC a) (nC t))) else nI (wL X.2.1 (kN X (nC p)) (nC t) (nC a) X.2.2.2.2.2 (saX X (nC p) (nC a) (nC t)))) else UNK
def owX (X : LN) (p a t : Nat) : Nat := ownF X.2.1 (kN X p) t a X.2.2.2.2.2 (X.2.2.1.2.2.1 p) (X.2.2.1.2.2.2 p)
def aOwn (X : LN) (p a t x : Int32) : Int32 := if kA X p a t = true then (if x < 0 ∨ 1 < x then OUT else if x = 0 then nI (owX X (nC p) (nC a) (nC t)) else nI (cmW X.2.1 (kN X (nC p)) (nC t) (nC a) X.2.2.2.2.2 (owX X (nC p) (nC a) (nC t)) (X.2.2.1.2.2.1 (nC p)) (X.2.2.1.2.2.2 (nC p))) - nI (wL X.2.1 (kN X (nC p)) (nC t) (nC a) X.2.2.2.2.2 (owX X (nC p) (nC a) (nC t)))) else UNK

set_option maxHeartbeats 4000000 in
set_option maxRecDepth 100000 in
theorem c_route {ad : Nat → Nat} {g : St} {X : LN} (hX : LC g X) {p a t i : Int32} : Ci 6 mX9_route [.ref 0, .int p, .int a, .int t, .int i] ad g (fun v g' => v = aRou X p a t i ∧ Fr g g') := by
  obtain ⟨hok, hpo, hlaw, x1, hW, hPs, x4⟩ := id hX
  have h10 := hok.2.1
  have h6 := hpo.1
  have h14 := hok.1
  refine Cm.mk rfl (Nat.le_of_ble_eq_true rfl) (fun K hK hR hm hnn => ?_)
  refine r_aload_n (i := 0) hK dX9_route_0 rfl rfl ?_
  refine r_iload_n (i := 1) hK dX9_route_1 rfl rfl ?_
  refine r_iload_n (i := 2) hK dX9_route_2 rfl rfl ?_
  refine r_iload_n (i := 3) hK dX9_route_3 rfl rfl ?_
  refine r_ci3 hK hnn (c_canAsk hX) moX9_canAsk mlX9_173 to_0 rfl rfl dX9_route_4 (Nat.le_of_ble_eq_true rfl) (Nat.le_of_ble_eq_true rfl) (eqI ?_)
  refine r_if_ne (tgt := 13) hK dX9_route_7 (by decide) (fun h7 => ?_) (fun h7 => ?_)
  · refine r_aload_n (i := 0) hK dX9_route_13 rfl rfl ?_
    have hk := B1_n.mp h7
    obtain ⟨⟨hp1, hp2⟩, ⟨ha1, ha2⟩, ht1, ht2⟩ := kA_cl h10 h6 hk
    have hpl := hpo.2 _ hp1
    have hPl := hPs.2 _ hp1
    refine r_iload_n (i := 1) hK dX9_route_14 rfl rfl ?_
    refine r_iload_n (i := 2) hK dX9_route_15 rfl rfl ?_
    refine r_iload_n (i := 3) hK dX9_route_16 rfl rfl ?_
    refine r_cv3 hK hnn (c_seekFor hX hp2 hp1 ha2 ha1 ht2 ht1) moX9_seekFor mlX9_177 to_0 rfl rfl dX9_route_17 (Nat.le_of_ble_eq_true rfl) (Nat.le_of_ble_eq_true rfl) (fun g17 q17 => ?_)
    obtain ⟨f1, f2, f3, v, rfl, hPth⟩ := q17
    have hPc : PthC (pG g f1 f2 f3 v) X.2.1 (knb (X.2.2.2.2.1 p.toNatClampNeg)) t.toNatClampNeg a.toNatClampNeg := hPth
    have hrb := (rt_b hok (knb (X.2.2.2.2.1 p.toNatClampNeg)) t.toNatClampNeg ha1).1
    have hv := pth_v hPc
    refine r_iload (i := 4) hK dX9_route_20 rfl ?_
    refine r_iconst (v := (-1)) hK dX9_route_22 (by decide) ?_
    refine r_icmp_eq (tgt := 37) hK dX9_route_23 (by decide) (fun h23 => ?_) (fun h23 => ?_)
    · refine r_aload_n (i := 0) hK dX9_route_37 rfl rfl ?_
      refine r_getA hK flX9_33 to_0 rfl dX9_route_38 ?_
      refine r_getI hK flX9_181 to_22 rfl dX9_route_41 ?_
      refine q_iret hK hR dX9_route_44 ?_
      refine ⟨?_, Fr_pG⟩
      unfold aRou
      rw [if_pos hk]
      rcases hv with ⟨q1, q2⟩ | ⟨q1, q2, q3⟩
      · rw [if_pos q1]
        first
          | (rw [if_pos h23]; exact q2)
          | (rw [q2] at h34; exact absurd h34 (nI_m1 (by omega)))
      · rw [if_neg q1]; exact q2
    · refine r_aload_n (i := 0) hK dX9_route_26 rfl rfl ?_
      refine r_getA hK flX9_33 to_0 rfl dX9_route_27 ?_
      refine r_getI hK flX9_181 to_22 rfl dX9_route_30 ?_
      refine r_iconst (v := (-1)) hK dX9_route_33 (by decide) ?_
      refine r_icmp_ne (tgt := 45) hK dX9_route_34 (by decide) (fun h34 => ?_) (fun h34 => ?_)
      · refine r_iload (i := 4) hK dX9_route_45 rfl ?_
        have hw : kW X.2.1 (kN X (nC p)) (nC t) (nC a) < FR := by rcases hv with q | q; exact q.1; exact absurd q.2.1 h34
        have hq2 : (pG g f1 f2 f3 v).1 22 3 = nI (rn0 X.2.1 (kN X (nC p)) (nC t) (nC a)) := by rcases hv with q | q; exact q.2; exact absurd q.2.1 h34
        refine r_bipush (v := (-2)) hK dX9_route_47 (by decide) ?_
        refine r_icmp_ne (tgt := 67) hK dX9_route_49 (by decide) (fun h49 => ?_) (fun h49 => ?_)
        · refine r_iload (i := 4) hK dX9_route_67 rfl ?_
          refine r_if_lt (tgt := 98) hK dX9_route_69 (by decide) (fun h69 => ?_) (fun h69 => ?_)
          · refine r_iconst (v := (-1)) hK dX9_route_98 (by decide) ?_
            refine q_iret hK hR dX9_route_99 ?_
            refine ⟨?_, Fr_pG⟩
            unfold aRou
            rw [if_pos hk, if_pos hw, if_neg h23, if_neg h49]
            first
              | (rw [if_neg (fun z => z.1 h69)]; done)
              | (rw [hq2] at h81; rw [if_neg (fun z => absurd h81 (Int32.not_le.mpr z.2))]; done)
              | (rw [hq2] at h81; rw [if_pos ⟨h69, Int32.not_le.mp h81⟩]; done)
          · refine r_iload (i := 4) hK dX9_route_72 rfl ?_
            refine r_aload_n (i := 0) hK dX9_route_74 rfl rfl ?_
            refine r_getA hK flX9_33 to_0 rfl dX9_route_75 ?_
            refine r_getI hK flX9_181 to_22 rfl dX9_route_78 ?_
            refine r_icmp_ge (tgt := 98) hK dX9_route_81 (by decide) (fun h81 => ?_) (fun h81 => ?_)
            · refine r_iconst (v := (-1)) hK dX9_route_98 (by decide) ?_
              refine q_iret hK hR dX9_route_99 ?_
              refine ⟨?_, Fr_pG⟩
              unfold aRou
              rw [if_pos hk, if_pos hw, if_neg h23, if_neg h49]
              first
                | (rw [if_neg (fun z => z.1 h69)]; done)
                | (rw [hq2] at h81; rw [if_neg (fun z => absurd h81 (Int32.not_le.mpr z.2))]; done)
                | (rw [hq2] at h81; rw [if_pos ⟨h69, Int32.not_le.mp h81⟩]; done)
            · refine r_aload_n (i := 0) hK dX9_route_84 rfl rfl ?_
              refine r_getA hK flX9_33 to_0 rfl dX9_route_85 ?_
              refine r_iload (i := 4) hK dX9_route_88 rfl ?_
              obtain ⟨hi1, hi2⟩ := isB_cl (x := i) (n := rn0 X.2.1 (knb (X.2.2.2.2.1 p.toNatClampNeg)) t.toNatClampNeg a.toNatClampNeg) (by omega) (by rw [hq2] at h81; rw [Int32.not_le] at h81; unfold isB; simp only [h69, decide_false, Bool.not_false, Bool.true_and, decide_eq_true_eq]; exact h81)
              refine r_iconst (v := 1) hK dX9_route_90 (by decide) ?_
              refine r_iadd hK dX9_route_91 ?_
              refine r_top (y := nI (i.toNatClampNeg + 1)) (by have e := nI_add i.toNatClampNeg 1; rw [← hi2] at e; exact e) ?_
              refine r_ci1 hK hnn (c_placeAfter hok ha1 hPc (j := i.toNatClampNeg + 1) rfl (by omega)) moX6_placeAfter mlX9_188 to_22 rfl rfl dX9_route_92 (Nat.le_of_ble_eq_true rfl) (Nat.le_of_ble_eq_true rfl) (eqI ?_)
              refine r_goto (tgt := 99) hK dX9_route_95 (by decide) ?_
              refine q_iret hK hR dX9_route_99 ?_
              refine ⟨?_, Fr_pG⟩
              unfold aRou
              rw [if_pos hk, if_pos hw, if_neg h23, if_neg h49]
              first
                | (rw [if_neg (fun z => z.1 h69)]; done)
                | (rw [hq2] at h81; rw [if_neg (fun z => absurd h81 (Int32.not_le.mpr z.2))]; done)
                | (rw [hq2] at h81; rw [if_pos ⟨h69, Int32.not_le.mp h81⟩]; done)
        · refine r_aload_n (i := 0) hK dX9_route_52 rfl rfl ?_
          refine r_getA hK flX9_33 to_0 rfl dX9_route_53 ?_
          refine r_aload_n (i := 0) hK dX9_route_56 rfl rfl ?_
          refine r_getA hK flX9_33 to_0 rfl dX9_route_57 ?_
          refine r_getI hK flX9_181 to_22 rfl dX9_route_60 ?_
          refine r_ci1 hK hnn (c_minutesTo hok ha1 hPc hq2 (Nat.le_refl _)) moX6_minutesTo mlX9_184 to_22 rfl rfl dX9_route_63 (Nat.le_of_ble_eq_true rfl) (Nat.le_of_ble_eq_true rfl) (eqI ?_)
          refine q_iret hK hR dX9_route_66 ?_
          refine ⟨?_, Fr_pG⟩
          unfold aRou
          rw [if_pos hk, if_pos hw, if_neg h23, if_pos h49]
      · refine r_aload_n (i := 0) hK dX9_route_37 rfl rfl ?_
        refine r_getA hK flX9_33 to_0 rfl dX9_route_38 ?_
        refine r_getI hK flX9_181 to_22 rfl dX9_route_41 ?_
        refine q_iret hK hR dX9_route_44 ?_
        refine ⟨?_, Fr_pG⟩
        unfold aRou
        rw [if_pos hk]
        rcases hv with ⟨q1, q2⟩ | ⟨q1, q2, q3⟩
        · rw [if_pos q1]
          first
            | (rw [if_pos h23]; exact q2)
            | (rw [q2] at h34; exact absurd h34 (nI_m1 (by omega)))
        · rw [if_neg q1]; exact q2
  · refine r_ldc hK ckX9_129 dX9_route_10 ?_
    refine q_iret hK hR dX9_route_12 ?_
    refine ⟨?_, Fr.rf⟩
    unfold aRou
    rw [if_neg (by rw [B1_0.mp h7]; decide)]
set_option maxHeartbeats 4000000 in
set_option maxRecDepth 100000 in
theorem c_says {ad : Nat → Nat} {g : St} {X : LN} (hX : LC g X) {p a t x : Int32} : Ci 6 mX9_says [.ref 0, .int p, .int a, .int t, .int x] ad g (fun v g' => v = aSay X p a t x ∧ Fr g g') := by
  obtain ⟨hok, hpo, hlaw, x1, hW, hPs, x4⟩ := id hX
  have h10 := hok.2.1
  have h6 := hpo.1
  have h14 := hok.1
  refine Cm.mk rfl (Nat.le_of_ble_eq_true rfl) (fun K hK hR hm hnn => ?_)
  refine r_aload_n (i := 0) hK dX9_says_0 rfl rfl ?_
  refine r_iload_n (i := 1) hK dX9_says_1 rfl rfl ?_
  refine r_iload_n (i := 2) hK dX9_says_2 rfl rfl ?_
  refine r_iload_n (i := 3) hK dX9_says_3 rfl rfl ?_
  refine r_ci3 hK hnn (c_canAsk hX) moX9_canAsk mlX9_173 to_0 rfl rfl dX9_says_4 (Nat.le_of_ble_eq_true rfl) (Nat.le_of_ble_eq_true rfl) (eqI ?_)
  refine r_if_ne (tgt := 13) hK dX9_says_7 (by decide) (fun h7 => ?_) (fun h7 => ?_)
  · refine r_iload (i := 4) hK dX9_says_13 rfl ?_
    refine r_if_lt (tgt := 24) hK dX9_says_15 (by decide) (fun h15 => ?_) (fun h15 => ?_)
    · refine r_ldc hK ckX9_76 dX9_says_24 ?_
      refine q_iret hK hR dX9_says_26 ?_
      refine ⟨?_, Fr.rf⟩
      unfold aSay
      first
        | (rw [if_neg (by rw [B1_0.mp h7]; decide)]; done)
        | (rw [if_pos (B1_n.mp h7), if_pos (Or.inl h15)]; done)
        | (rw [if_pos (B1_n.mp h7), if_pos (Or.inr (Int32.not_le.mp h21))]; done)
    · refine r_iload (i := 4) hK dX9_says_18 rfl ?_
      refine r_iconst (v := 4) hK dX9_says_20 (by decide) ?_
      refine r_icmp_le (tgt := 27) hK dX9_says_21 (by decide) (fun h21 => ?_) (fun h21 => ?_)
      · refine r_aload_n (i := 0) hK dX9_says_27 rfl rfl ?_
        have hk := B1_n.mp h7
        obtain ⟨⟨hp1, hp2⟩, ⟨ha1, ha2⟩, ht1, ht2⟩ := kA_cl h10 h6 hk
        have hpl := hpo.2 _ hp1
        have hPl := hPs.2 _ hp1
        have hor : ¬ (x < 0 ∨ 4 < x) := (fun z => z.elim h15 (fun y => absurd h21 (Int32.not_le.mpr y)))
        refine r_iload_n (i := 1) hK dX9_says_28 rfl rfl ?_
        refine r_iload_n (i := 2) hK dX9_says_29 rfl rfl ?_
        refine r_iload_n (i := 3) hK dX9_says_30 rfl rfl ?_
        refine r_cv3 hK hnn (c_seekFor hX hp2 hp1 ha2 ha1 ht2 ht1) moX9_seekFor mlX9_177 to_0 rfl rfl dX9_says_31 (Nat.le_of_ble_eq_true rfl) (Nat.le_of_ble_eq_true rfl) (fun g31 q31 => ?_)
        obtain ⟨f1, f2, f3, v, rfl, hPth⟩ := q31
        have hPc : PthC (pG g f1 f2 f3 v) X.2.1 (knb (X.2.2.2.2.1 p.toNatClampNeg)) t.toNatClampNeg a.toNatClampNeg := hPth
        have hrb := (rt_b hok (knb (X.2.2.2.2.1 p.toNatClampNeg)) t.toNatClampNeg ha1).1
        have hv := pth_v hPc
        refine r_aload_n (i := 0) hK dX9_says_34 rfl rfl ?_
        refine r_getA hK flX9_33 to_0 rfl dX9_says_35 ?_
        refine r_aload_n (i := 0) hK dX9_says_38 rfl rfl ?_
        refine r_getA hK flX9_26 to_0 rfl dX9_says_39 ?_
        refine r_getA hK flX9_156 to_13 rfl dX9_says_42 ?_
        refine r_iload_n (i := 1) hK dX9_says_45 rfl rfl ?_
        refine r_si2 hK hnn (c_atE to_20 (by decide) hp2 (by omega) ((congrFun (pG_n (by decide)) _).trans hPl.2.2.2.1)) moX9_at mlX9_134 dX9_says_46 (Nat.le_of_ble_eq_true rfl) (Nat.le_of_ble_eq_true rfl) (eqI ?_)
        refine r_aload_n (i := 0) hK dX9_says_49 rfl rfl ?_
        refine r_getA hK flX9_26 to_0 rfl dX9_says_50 ?_
        refine r_getA hK flX9_150 to_13 rfl dX9_says_53 ?_
        refine r_iload_n (i := 1) hK dX9_says_56 rfl rfl ?_
        refine r_si2 hK hnn (c_atE to_18 (by decide) hp2 (by omega) ((congrFun (pG_n (by decide)) _).trans hPl.2.1)) moX9_at mlX9_134 dX9_says_57 (Nat.le_of_ble_eq_true rfl) (Nat.le_of_ble_eq_true rfl) (eqI ?_)
        refine r_ci2 hK hnn (c_saidBy hok ha1 hPc rfl hpl.2.2.2.1 rfl (by have := hpl.2.1; omega)) moX6_saidBy mlX9_191 to_22 rfl rfl dX9_says_60 (Nat.le_of_ble_eq_true rfl) (Nat.le_of_ble_eq_true rfl) (eqI ?_)
        have hsl : saX X (nC p) (nC a) (nC t) ≤ rn0 X.2.1 (kN X (nC p)) (nC t) (nC a) := sdF_le
        refine r_istore (i := 5) hK hm dX9_says_63 (by decide) ?_
        refine r_iload (i := 4) hK dX9_says_65 rfl ?_
        refine r_sw (n := 4) (lo := 0) (tgt0 := 133) hK dX9_says_67 (by decide) (by decide) (by decide) (by decide) (fun h67 => ?_) (fun i67 hi67 h67 => ?_)
        · refine r_aload_n (i := 0) hK dX9_says_133 rfl rfl ?_
          refine r_getA hK flX9_33 to_0 rfl dX9_says_134 ?_
          refine r_aload_n (i := 0) hK dX9_says_137 rfl rfl ?_
          refine r_getI hK flX9_116 to_0 rfl dX9_says_138 ?_
          refine r_iload (i := 5) hK dX9_says_141 rfl ?_
          refine r_ci2 hK hnn (c_minutesByLaw hok ha1 hPc (law := X.2.2.2.2.2) (j := saX X (nC p) (nC a) (nC t)) ((congrFun (pG_n (by decide)) _).trans x4) hlaw rfl hsl) moX6_minutesByLaw mlX9_197 to_22 rfl rfl dX9_says_143 (Nat.le_of_ble_eq_true rfl) (Nat.le_of_ble_eq_true rfl) (eqI ?_)
          refine q_iret hK hR dX9_says_146 ?_
          refine ⟨?_, Fr_pG⟩
          unfold aSay
          first
            | (rw [if_pos hk, if_neg hor, (show x = 0 from h67)]; rw [if_pos rfl]; try rfl; done)
            | (rw [if_pos hk, if_neg hor, (show x = 1 from h67)]; rw [if_neg (by decide)]; rw [if_pos rfl]; try rfl; done)
            | (rw [if_pos hk, if_neg hor, (show x = 2 from h67)]; rw [if_neg (by decide)]; rw [if_neg (by decide)]; rw [if_pos rfl]; try rfl; done)
            | (rw [if_pos hk, if_neg hor, (show x = 3 from h67)]; rw [if_neg (by decide)]; rw [if_neg (by decide)]; rw [if_neg (by decide)]; rw [if_pos rfl]; try rfl; done)
            | (rw [if_pos hk, if_neg hor, if_neg (show ¬ x = 0 from swn 0 h67 (by decide) (by decide)), if_neg (show ¬ x = 1 from swn 1 h67 (by decide) (by decide)), if_neg (show ¬ x = 2 from swn 2 h67 (by decide) (by decide)), if_neg (show ¬ x = 3 from swn 3 h67 (by decide) (by decide))]; done)
        · obtain rfl | rfl | rfl | rfl : i67 = 0 ∨ i67 = 1 ∨ i67 = 2 ∨ i67 = 3 := by omega
          · refine ⟨_, 96, rfl, by decide, ?_⟩
            refine r_iload (i := 5) hK dX9_says_96 rfl ?_
            refine q_iret hK hR dX9_says_98 ?_
            refine ⟨?_, Fr_pG⟩
            unfold aSay
            first
              | (rw [if_pos hk, if_neg hor, (show x = 0 from h67)]; rw [if_pos rfl]; try rfl; done)
              | (rw [if_pos hk, if_neg hor, (show x = 1 from h67)]; rw [if_neg (by decide)]; rw [if_pos rfl]; try rfl; done)
              | (rw [if_pos hk, if_neg hor, (show x = 2 from h67)]; rw [if_neg (by decide)]; rw [if_neg (by decide)]; rw [if_pos rfl]; try rfl; done)
              | (rw [if_pos hk, if_neg hor, (show x = 3 from h67)]; rw [if_neg (by decide)]; rw [if_neg (by decide)]; rw [if_neg (by decide)]; rw [if_pos rfl]; try rfl; done)
              | (rw [if_pos hk, if_neg hor, if_neg (show ¬ x = 0 from swn 0 h67 (by decide) (by decide)), if_neg (show ¬ x = 1 from swn 1 h67 (by decide) (by decide)), if_neg (show ¬ x = 2 from swn 2 h67 (by decide) (by decide)), if_neg (show ¬ x = 3 from swn 3 h67 (by decide) (by decide))]; done)
          · refine ⟨_, 99, rfl, by decide, ?_⟩
            refine r_aload_n (i := 0) hK dX9_says_99 rfl rfl ?_
            refine r_getA hK flX9_33 to_0 rfl dX9_says_100 ?_
            refine r_iload (i := 5) hK dX9_says_103 rfl ?_
            refine r_ci1 hK hnn (c_placeAfter hok ha1 hPc (j := saX X (nC p) (nC a) (nC t)) rfl hsl) moX6_placeAfter mlX9_188 to_22 rfl rfl dX9_says_105 (Nat.le_of_ble_eq_true rfl) (Nat.le_of_ble_eq_true rfl) (eqI ?_)
            refine q_iret hK hR dX9_says_108 ?_
            refine ⟨?_, Fr_pG⟩
            unfold aSay
            first
              | (rw [if_pos hk, if_neg hor, (show x = 0 from h67)]; rw [if_pos rfl]; try rfl; done)
              | (rw [if_pos hk, if_neg hor, (show x = 1 from h67)]; rw [if_neg (by decide)]; rw [if_pos rfl]; try rfl; done)
              | (rw [if_pos hk, if_neg hor, (show x = 2 from h67)]; rw [if_neg (by decide)]; rw [if_neg (by decide)]; rw [if_pos rfl]; try rfl; done)
              | (rw [if_pos hk, if_neg hor, (show x = 3 from h67)]; rw [if_neg (by decide)]; rw [if_neg (by decide)]; rw [if_neg (by decide)]; rw [if_pos rfl]; try rfl; done)
              | (rw [if_pos hk, if_neg hor, if_neg (show ¬ x = 0 from swn 0 h67 (by decide) (by decide)), if_neg (show ¬ x = 1 from swn 1 h67 (by decide) (by decide)), if_neg (show ¬ x = 2 from swn 2 h67 (by decide) (by decide)), if_neg (show ¬ x = 3 from swn 3 h67 (by decide) (by decide))]; done)
          · refine ⟨_, 109, rfl, by decide, ?_⟩
            refine r_aload_n (i := 0) hK dX9_says_109 rfl rfl ?_
            refine r_getA hK flX9_33 to_0 rfl dX9_says_110 ?_
            refine r_iload (i := 5) hK dX9_says_113 rfl ?_
            refine r_ci1 hK hnn (c_minutesTo hok ha1 hPc (j := saX X (nC p) (nC a) (nC t)) rfl hsl) moX6_minutesTo mlX9_184 to_22 rfl rfl dX9_says_115 (Nat.le_of_ble_eq_true rfl) (Nat.le_of_ble_eq_true rfl) (eqI ?_)
            refine q_iret hK hR dX9_says_118 ?_
            refine ⟨?_, Fr_pG⟩
            unfold aSay
            first
              | (rw [if_pos hk, if_neg hor, (show x = 0 from h67)]; rw [if_pos rfl]; try rfl; done)
              | (rw [if_pos hk, if_neg hor, (show x = 1 from h67)]; rw [if_neg (by decide)]; rw [if_pos rfl]; try rfl; done)
              | (rw [if_pos hk, if_neg hor, (show x = 2 from h67)]; rw [if_neg (by decide)]; rw [if_neg (by decide)]; rw [if_pos rfl]; try rfl; done)
              | (rw [if_pos hk, if_neg hor, (show x = 3 from h67)]; rw [if_neg (by decide)]; rw [if_neg (by decide)]; rw [if_neg (by decide)]; rw [if_pos rfl]; try rfl; done)
              | (rw [if_pos hk, if_neg hor, if_neg (show ¬ x = 0 from swn 0 h67 (by decide) (by decide)), if_neg (show ¬ x = 1 from swn 1 h67 (by decide) (by decide)), if_neg (show ¬ x = 2 from swn 2 h67 (by decide) (by decide)), if_neg (show ¬ x = 3 from swn 3 h67 (by decide) (by decide))]; done)
          · refine ⟨_, 119, rfl, by decide, ?_⟩
            refine r_aload_n (i := 0) hK dX9_says_119 rfl rfl ?_
            refine r_getA hK flX9_33 to_0 rfl dX9_says_120 ?_
            refine r_aload_n (i := 0) hK dX9_says_123 rfl rfl ?_
            refine r_getI hK flX9_116 to_0 rfl dX9_says_124 ?_
            refine r_iload (i := 5) hK dX9_says_127 rfl ?_
            refine r_ci2 hK hnn (c_placeByLaw hok ha1 hPc (law := X.2.2.2.2.2) (j := saX X (nC p) (nC a) (nC t)) ((congrFun (pG_n (by decide)) _).trans x4) hlaw rfl hsl) moX6_placeByLaw mlX9_194 to_22 rfl rfl dX9_says_129 (Nat.le_of_ble_eq_true rfl) (Nat.le_of_ble_eq_true rfl) (eqI ?_)
            refine q_iret hK hR dX9_says_132 ?_
            refine ⟨?_, Fr_pG⟩
            unfold aSay
            first
              | (rw [if_pos hk, if_neg hor, (show x = 0 from h67)]; rw [if_pos rfl]; try rfl; done)
              | (rw [if_pos hk, if_neg hor, (show x = 1 from h67)]; rw [if_neg (by decide)]; rw [if_pos rfl]; try rfl; done)
              | (rw [if_pos hk, if_neg hor, (show x = 2 from h67)]; rw [if_neg (by decide)]; rw [if_neg (by decide)]; rw [if_pos rfl]; try rfl; done)
              | (rw [if_pos hk, if_neg hor, (show x = 3 from h67)]; rw [if_neg (by decide)]; rw [if_neg (by decide)]; rw [if_neg (by decide)]; rw [if_pos rfl]; try rfl; done)
              | (rw [if_pos hk, if_neg hor, if_neg (show ¬ x = 0 from swn 0 h67 (by decide) (by decide)), if_neg (show ¬ x = 1 from swn 1 h67 (by decide) (by decide)), if_neg (show ¬ x = 2 from swn 2 h67 (by decide) (by decide)), if_neg (show ¬ x = 3 from swn 3 h67 (by decide) (by decide))]; done)
      · refine r_ldc hK ckX9_76 dX9_says_24 ?_
        refine q_iret hK hR dX9_says_26 ?_
        refine ⟨?_, Fr.rf⟩
        unfold aSay
        first
          | (rw [if_neg (by rw [B1_0.mp h7]; decide)]; done)
          | (rw [if_pos (B1_n.mp h7), if_pos (Or.inl h15)]; done)
          | (rw [if_pos (B1_n.mp h7), if_pos (Or.inr (Int32.not_le.mp h21))]; done)
  · refine r_ldc hK ckX9_129 dX9_says_10 ?_
    refine q_iret hK hR dX9_says_12 ?_
    refine ⟨?_, Fr.rf⟩
    unfold aSay
    first
      | (rw [if_neg (by rw [B1_0.mp h7]; decide)]; done)
      | (rw [if_pos (B1_n.mp h7), if_pos (Or.inl h15)]; done)
      | (rw [if_pos (B1_n.mp h7), if_pos (Or.inr (Int32.not_le.mp h21))]; done)
set_option maxHeartbeats 4000000 in
set_option maxRecDepth 100000 in
theorem c_own {ad : Nat → Nat} {g : St} {X : LN} (hX : LC g X) {p a t x : Int32} : Ci 6 mX9_own [.ref 0, .int p, .int a, .int t, .int x] ad g (fun v g' => v = aOwn X p a t x ∧ Fr g g') := by
  obtain ⟨hok, hpo, hlaw, x1, hW, hPs, x4⟩ := id hX
  have h10 := hok.2.1
  have h6 := hpo.1
  have h14 := hok.1
  refine Cm.mk rfl (Nat.le_of_ble_eq_true rfl) (fun K hK hR hm hnn => ?_)
  refine r_aload_n (i := 0) hK dX9_own_0 rfl rfl ?_
  refine r_iload_n (i := 1) hK dX9_own_1 rfl rfl ?_
  refine r_iload_n (i := 2) hK dX9_own_2 rfl rfl ?_
  refine r_iload_n (i := 3) hK dX9_own_3 rfl rfl ?_
  refine r_ci3 hK hnn (c_canAsk hX) moX9_canAsk mlX9_173 to_0 rfl rfl dX9_own_4 (Nat.le_of_ble_eq_true rfl) (Nat.le_of_ble_eq_true rfl) (eqI ?_)
  refine r_if_ne (tgt := 13) hK dX9_own_7 (by decide) (fun h7 => ?_) (fun h7 => ?_)
  · refine r_iload (i := 4) hK dX9_own_13 rfl ?_
    refine r_if_lt (tgt := 24) hK dX9_own_15 (by decide) (fun h15 => ?_) (fun h15 => ?_)
    · refine r_ldc hK ckX9_76 dX9_own_24 ?_
      refine q_iret hK hR dX9_own_26 ?_
      refine ⟨?_, Fr.rf⟩
      unfold aOwn
      first
        | (rw [if_neg (by rw [B1_0.mp h7]; decide)]; done)
        | (rw [if_pos (B1_n.mp h7), if_pos (Or.inl h15)]; done)
        | (rw [if_pos (B1_n.mp h7), if_pos (Or.inr (Int32.not_le.mp h21))]; done)
    · refine r_iload (i := 4) hK dX9_own_18 rfl ?_
      refine r_iconst (v := 1) hK dX9_own_20 (by decide) ?_
      refine r_icmp_le (tgt := 27) hK dX9_own_21 (by decide) (fun h21 => ?_) (fun h21 => ?_)
      · refine r_aload_n (i := 0) hK dX9_own_27 rfl rfl ?_
        have hk := B1_n.mp h7
        obtain ⟨⟨hp1, hp2⟩, ⟨ha1, ha2⟩, ht1, ht2⟩ := kA_cl h10 h6 hk
        have hpl := hpo.2 _ hp1
        have hPl := hPs.2 _ hp1
        have hor : ¬ (x < 0 ∨ 1 < x) := (fun z => z.elim h15 (fun y => absurd h21 (Int32.not_le.mpr y)))
        refine r_iload_n (i := 1) hK dX9_own_28 rfl rfl ?_
        refine r_iload_n (i := 2) hK dX9_own_29 rfl rfl ?_
        refine r_iload_n (i := 3) hK dX9_own_30 rfl rfl ?_
        refine r_cv3 hK hnn (c_seekFor hX hp2 hp1 ha2 ha1 ht2 ht1) moX9_seekFor mlX9_177 to_0 rfl rfl dX9_own_31 (Nat.le_of_ble_eq_true rfl) (Nat.le_of_ble_eq_true rfl) (fun g31 q31 => ?_)
        obtain ⟨f1, f2, f3, v, rfl, hPth⟩ := q31
        have hPc : PthC (pG g f1 f2 f3 v) X.2.1 (knb (X.2.2.2.2.1 p.toNatClampNeg)) t.toNatClampNeg a.toNatClampNeg := hPth
        have hrb := (rt_b hok (knb (X.2.2.2.2.1 p.toNatClampNeg)) t.toNatClampNeg ha1).1
        have hv := pth_v hPc
        refine r_aload_n (i := 0) hK dX9_own_34 rfl rfl ?_
        refine r_getA hK flX9_26 to_0 rfl dX9_own_35 ?_
        refine r_getA hK flX9_150 to_13 rfl dX9_own_38 ?_
        refine r_iload_n (i := 1) hK dX9_own_41 rfl rfl ?_
        refine r_si2 hK hnn (c_atE to_18 (by decide) hp2 (by omega) ((congrFun (pG_n (by decide)) _).trans hPl.2.1)) moX9_at mlX9_134 dX9_own_42 (Nat.le_of_ble_eq_true rfl) (Nat.le_of_ble_eq_true rfl) (eqI ?_)
        refine r_istore (i := 5) hK hm dX9_own_45 (by decide) ?_
        refine r_aload_n (i := 0) hK dX9_own_47 rfl rfl ?_
        refine r_getA hK flX9_26 to_0 rfl dX9_own_48 ?_
        refine r_getA hK flX9_153 to_13 rfl dX9_own_51 ?_
        refine r_iload_n (i := 1) hK dX9_own_54 rfl rfl ?_
        refine r_si2 hK hnn (c_atE to_19 (by decide) hp2 (by omega) ((congrFun (pG_n (by decide)) _).trans hPl.2.2.1)) moX9_at mlX9_134 dX9_own_55 (Nat.le_of_ble_eq_true rfl) (Nat.le_of_ble_eq_true rfl) (eqI ?_)
        refine r_istore (i := 6) hK hm dX9_own_58 (by decide) ?_
        refine r_aload_n (i := 0) hK dX9_own_60 rfl rfl ?_
        refine r_getA hK flX9_33 to_0 rfl dX9_own_61 ?_
        refine r_aload_n (i := 0) hK dX9_own_64 rfl rfl ?_
        refine r_getI hK flX9_116 to_0 rfl dX9_own_65 ?_
        refine r_iload (i := 5) hK dX9_own_68 rfl ?_
        refine r_iload (i := 6) hK dX9_own_70 rfl ?_
        refine r_ci3 hK hnn (c_dearest hok ha1 hPc (law := X.2.2.2.2.2) ((congrFun (pG_n (by decide)) _).trans x4) hlaw rfl (by have := hpl.2.1; omega) rfl hpl.2.2.1) moX6_dearest mlX9_200 to_22 rfl rfl dX9_own_72 (Nat.le_of_ble_eq_true rfl) (Nat.le_of_ble_eq_true rfl) (eqI ?_)
        have hsl : owX X (nC p) (nC a) (nC t) ≤ rn0 X.2.1 (kN X (nC p)) (nC t) (nC a) := ownF_le
        refine r_istore (i := 7) hK hm dX9_own_75 (by decide) ?_
        refine r_iload (i := 4) hK dX9_own_77 rfl ?_
        refine r_if_ne (tgt := 87) hK dX9_own_79 (by decide) (fun h79 => ?_) (fun h79 => ?_)
        · refine r_aload_n (i := 0) hK dX9_own_87 rfl rfl ?_
          refine r_getA hK flX9_33 to_0 rfl dX9_own_88 ?_
          refine r_aload_n (i := 0) hK dX9_own_91 rfl rfl ?_
          refine r_getI hK flX9_116 to_0 rfl dX9_own_92 ?_
          refine r_iload (i := 7) hK dX9_own_95 rfl ?_
          refine r_iload (i := 5) hK dX9_own_97 rfl ?_
          refine r_iload (i := 6) hK dX9_own_99 rfl ?_
          refine r_ci4 hK hnn (c_gain hok ha1 hPc (law := X.2.2.2.2.2) (j := owX X (nC p) (nC a) (nC t)) ((congrFun (pG_n (by decide)) _).trans x4) hlaw rfl hsl rfl (by have := hpl.2.1; omega) rfl) moX6_gain mlX9_204 to_22 rfl rfl dX9_own_101 (Nat.le_of_ble_eq_true rfl) (Nat.le_of_ble_eq_true rfl) (eqI ?_)
          refine q_iret hK hR dX9_own_104 ?_
          refine ⟨?_, Fr_pG⟩
          unfold aOwn
          first
            | (rw [if_pos hk, if_neg hor, if_pos (Classical.not_not.mp h79)]; try rfl; done)
            | (rw [if_pos hk, if_neg hor, if_pos h79]; try rfl; done)
            | (rw [if_pos hk, if_neg hor, if_neg h79]; try rfl; done)
        · refine r_iload (i := 7) hK dX9_own_82 rfl ?_
          refine r_goto (tgt := 104) hK dX9_own_84 (by decide) ?_
          refine q_iret hK hR dX9_own_104 ?_
          refine ⟨?_, Fr_pG⟩
          unfold aOwn
          first
            | (rw [if_pos hk, if_neg hor, if_pos (Classical.not_not.mp h79)]; try rfl; done)
            | (rw [if_pos hk, if_neg hor, if_pos h79]; try rfl; done)
            | (rw [if_pos hk, if_neg hor, if_neg h79]; try rfl; done)
      · refine r_ldc hK ckX9_76 dX9_own_24 ?_
        refine q_iret hK hR dX9_own_26 ?_
        refine ⟨?_, Fr.rf⟩
        unfold aOwn
        first
          | (rw [if_neg (by rw [B1_0.mp h7]; decide)]; done)
          | (rw [if_pos (B1_n.mp h7), if_pos (Or.inl h15)]; done)
          | (rw [if_pos (B1_n.mp h7), if_pos (Or.inr (Int32.not_le.mp h21))]; done)
  · refine r_ldc hK ckX9_129 dX9_own_10 ?_
    refine q_iret hK hR dX9_own_12 ?_
    refine ⟨?_, Fr.rf⟩
    unfold aOwn
    first
      | (rw [if_neg (by rw [B1_0.mp h7]; decide)]; done)
      | (rw [if_pos (B1_n.mp h7), if_pos (Or.inl h15)]; done)
      | (rw [if_pos (B1_n.mp h7), if_pos (Or.inr (Int32.not_le.mp h21))]; done)
