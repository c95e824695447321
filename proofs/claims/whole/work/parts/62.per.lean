/-! THE READER'S CLAUSES: persons -/
def habF (c : CT) (s : Nat) : Nat := if isW c s 3 = true then 0 else if isW c s 4 = true then 1 else if isW c s 5 = true then 2 else if isW c s 6 = true then 3 else 4
def hvI (h : Nat) : Int32 := if h < 4 then nI h else -1
def habG (c : CT) (F : FP) (s : Nat) : FP := if habF c s < 4 then F else bl F 1 s
theorem hvI_m {h : Nat} : hvI h = -1 ↔ ¬ h < 4 := by
  unfold hvI
  split
  · rename_i q; exact ⟨fun z => absurd z (nI_m1 (by omega)), fun z => absurd q z⟩
  · rename_i q; exact ⟨fun _ => q, fun _ => rfl⟩
theorem habG_ok {c : CT} {F : FP} {s : Nat} (h : F.1 ≤ 4) : (habG c F s).1 ≤ 4 := by
  unfold habG
  split
  · exact h
  · exact bl_ok h (by decide)
theorem habG_0 {c : CT} {F : FP} {s : Nat} (h : (habG c F s).1 = 0) : habF c s < 4 ∧ F.1 = 0 := by
  unfold habG at h
  split at h
  · rename_i q; exact ⟨q, h⟩
  · exact absurd h (bl_n (by decide))

set_option maxHeartbeats 4000000 in
set_option maxRecDepth 100000 in
theorem c_takeHabit {ad : Nat → Nat} {g : St} {n s : Nat} {c : CT} {F : FP} (hT : TxC g n c) (hs : s ≤ n) (hF : F.1 ≤ 4) : Ci 7 mX7_takeHabit [.ref 3] ad (rs g c F s) (fun v g' => v = hvI (habF c s) ∧ g' = rs g c (habG c F s) (nx c s)) := by
  refine Cm.mk rfl (Nat.le_of_ble_eq_true rfl) (fun K hK hR hm hnn => ?_)
  have h53 : Wp K 0 0 TT ad (rs g c F s) 53 [(0, .ref 3)] [.int (hvI (habF c s))] := by
    refine r_istore_n (i := 1) hK hm dX7_takeHabit_53 rfl (by decide) ?_
    refine r_iload_n (i := 1) hK dX7_takeHabit_54 rfl rfl ?_
    refine r_iconst (v := (-1)) hK dX7_takeHabit_55 (by decide) ?_
    refine r_icmp_ne (tgt := 64) hK dX7_takeHabit_56 (by decide) (fun h56 => ?_) (fun h56 => ?_)
    · refine r_aload_n (i := 0) hK dX7_takeHabit_64 rfl rfl ?_
      refine r_cv0 hK hnn (c_stepR hT hs) moX7_step mlX7_38 to_3 rfl rfl dX7_takeHabit_65 (Nat.le_of_ble_eq_true rfl) (Nat.le_of_ble_eq_true rfl) (eqV ?_)
      refine r_iload_n (i := 1) hK dX7_takeHabit_68 rfl rfl ?_
      refine q_iret hK hR dX7_takeHabit_69 ?_
      refine ⟨rfl, ?_⟩
      unfold habG
      first
        | (rw [if_pos (Classical.byContradiction (fun z => h56 (hvI_m.mpr z)))]; done)
        | (rw [if_neg (hvI_m.mp h56)]; done)
    · refine r_aload_n (i := 0) hK dX7_takeHabit_59 rfl rfl ?_
      refine r_iconst (v := 1) hK dX7_takeHabit_60 (by decide) ?_
      refine r_cv1 hK hnn (c_blame hF rfl (by decide)) moX7_blame mlX7_62 to_3 rfl rfl dX7_takeHabit_61 (Nat.le_of_ble_eq_true rfl) (Nat.le_of_ble_eq_true rfl) (eqV ?_)
      refine r_aload_n (i := 0) hK dX7_takeHabit_64 rfl rfl ?_
      refine r_cv0 hK hnn (c_stepR hT hs) moX7_step mlX7_38 to_3 rfl rfl dX7_takeHabit_65 (Nat.le_of_ble_eq_true rfl) (Nat.le_of_ble_eq_true rfl) (eqV ?_)
      refine r_iload_n (i := 1) hK dX7_takeHabit_68 rfl rfl ?_
      refine q_iret hK hR dX7_takeHabit_69 ?_
      refine ⟨rfl, ?_⟩
      unfold habG
      first
        | (rw [if_pos (Classical.byContradiction (fun z => h56 (hvI_m.mpr z)))]; done)
        | (rw [if_neg (hvI_m.mp h56)]; done)
  refine r_aload_n (i := 0) hK dX7_takeHabit_0 rfl rfl ?_
  refine r_str125 hK hm dX7_takeHabit_1 ?_
  refine r_ci1 hK hnn (c_isWord (k := 3) hT hs (by decide)) moX7_isWord mlX7_43 to_3 rfl rfl dX7_takeHabit_3 (Nat.le_of_ble_eq_true rfl) (Nat.le_of_ble_eq_true rfl) (eqI ?_)
  refine r_if_eq (tgt := 13) hK dX7_takeHabit_6 (by decide) (fun h6 => ?_) (fun h6 => ?_)
  · refine r_aload_n (i := 0) hK dX7_takeHabit_13 rfl rfl ?_
    refine r_str127 hK hm dX7_takeHabit_14 ?_
    refine r_ci1 hK hnn (c_isWord (k := 4) hT hs (by decide)) moX7_isWord mlX7_43 to_3 rfl rfl dX7_takeHabit_16 (Nat.le_of_ble_eq_true rfl) (Nat.le_of_ble_eq_true rfl) (eqI ?_)
    refine r_if_eq (tgt := 26) hK dX7_takeHabit_19 (by decide) (fun h19 => ?_) (fun h19 => ?_)
    · refine r_aload_n (i := 0) hK dX7_takeHabit_26 rfl rfl ?_
      refine r_str129 hK hm dX7_takeHabit_27 ?_
      refine r_ci1 hK hnn (c_isWord (k := 5) hT hs (by decide)) moX7_isWord mlX7_43 to_3 rfl rfl dX7_takeHabit_29 (Nat.le_of_ble_eq_true rfl) (Nat.le_of_ble_eq_true rfl) (eqI ?_)
      refine r_if_eq (tgt := 39) hK dX7_takeHabit_32 (by decide) (fun h32 => ?_) (fun h32 => ?_)
      · refine r_aload_n (i := 0) hK dX7_takeHabit_39 rfl rfl ?_
        refine r_str131 hK hm dX7_takeHabit_40 ?_
        refine r_ci1 hK hnn (c_isWord (k := 6) hT hs (by decide)) moX7_isWord mlX7_43 to_3 rfl rfl dX7_takeHabit_42 (Nat.le_of_ble_eq_true rfl) (Nat.le_of_ble_eq_true rfl) (eqI ?_)
        refine r_if_eq (tgt := 52) hK dX7_takeHabit_45 (by decide) (fun h45 => ?_) (fun h45 => ?_)
        · refine r_iconst (v := (-1)) hK dX7_takeHabit_52 (by decide) ?_
          first
            | (refine r_top (y := hvI (habF c s)) (by unfold habF; rw [if_pos (B1_n.mp h6)]; rfl) ?_; refine r_loc ?_ h53; rfl)
            | (refine r_top (y := hvI (habF c s)) (by unfold habF; rw [if_neg (by rw [B1_0.mp h6]; decide), if_pos (B1_n.mp h19)]; rfl) ?_; refine r_loc ?_ h53; rfl)
            | (refine r_top (y := hvI (habF c s)) (by unfold habF; rw [if_neg (by rw [B1_0.mp h6]; decide), if_neg (by rw [B1_0.mp h19]; decide), if_pos (B1_n.mp h32)]; rfl) ?_; refine r_loc ?_ h53; rfl)
            | (refine r_top (y := hvI (habF c s)) (by unfold habF; rw [if_neg (by rw [B1_0.mp h6]; decide), if_neg (by rw [B1_0.mp h19]; decide), if_neg (by rw [B1_0.mp h32]; decide), if_pos (B1_n.mp h45)]; rfl) ?_; refine r_loc ?_ h53; rfl)
            | (refine r_top (y := hvI (habF c s)) (by unfold habF; rw [if_neg (by rw [B1_0.mp h6]; decide), if_neg (by rw [B1_0.mp h19]; decide), if_neg (by rw [B1_0.mp h32]; decide), if_neg (by rw [B1_0.mp h45]; decide)]; rfl) ?_; refine r_loc ?_ h53; rfl)
        · refine r_iconst (v := 3) hK dX7_takeHabit_48 (by decide) ?_
          refine r_goto (tgt := 53) hK dX7_takeHabit_49 (by decide) ?_
          first
            | (refine r_top (y := hvI (habF c s)) (by unfold habF; rw [if_pos (B1_n.mp h6)]; rfl) ?_; refine r_loc ?_ h53; rfl)
            | (refine r_top (y := hvI (habF c s)) (by unfold habF; rw [if_neg (by rw [B1_0.mp h6]; decide), if_pos (B1_n.mp h19)]; rfl) ?_; refine r_loc ?_ h53; rfl)
            | (refine r_top (y := hvI (habF c s)) (by unfold habF; rw [if_neg (by rw [B1_0.mp h6]; decide), if_neg (by rw [B1_0.mp h19]; decide), if_pos (B1_n.mp h32)]; rfl) ?_; refine r_loc ?_ h53; rfl)
            | (refine r_top (y := hvI (habF c s)) (by unfold habF; rw [if_neg (by rw [B1_0.mp h6]; decide), if_neg (by rw [B1_0.mp h19]; decide), if_neg (by rw [B1_0.mp h32]; decide), if_pos (B1_n.mp h45)]; rfl) ?_; refine r_loc ?_ h53; rfl)
            | (refine r_top (y := hvI (habF c s)) (by unfold habF; rw [if_neg (by rw [B1_0.mp h6]; decide), if_neg (by rw [B1_0.mp h19]; decide), if_neg (by rw [B1_0.mp h32]; decide), if_neg (by rw [B1_0.mp h45]; decide)]; rfl) ?_; refine r_loc ?_ h53; rfl)
      · refine r_iconst (v := 2) hK dX7_takeHabit_35 (by decide) ?_
        refine r_goto (tgt := 53) hK dX7_takeHabit_36 (by decide) ?_
        first
          | (refine r_top (y := hvI (habF c s)) (by unfold habF; rw [if_pos (B1_n.mp h6)]; rfl) ?_; refine r_loc ?_ h53; rfl)
          | (refine r_top (y := hvI (habF c s)) (by unfold habF; rw [if_neg (by rw [B1_0.mp h6]; decide), if_pos (B1_n.mp h19)]; rfl) ?_; refine r_loc ?_ h53; rfl)
          | (refine r_top (y := hvI (habF c s)) (by unfold habF; rw [if_neg (by rw [B1_0.mp h6]; decide), if_neg (by rw [B1_0.mp h19]; decide), if_pos (B1_n.mp h32)]; rfl) ?_; refine r_loc ?_ h53; rfl)
          | (refine r_top (y := hvI (habF c s)) (by unfold habF; rw [if_neg (by rw [B1_0.mp h6]; decide), if_neg (by rw [B1_0.mp h19]; decide), if_neg (by rw [B1_0.mp h32]; decide), if_pos (B1_n.mp h45)]; rfl) ?_; refine r_loc ?_ h53; rfl)
          | (refine r_top (y := hvI (habF c s)) (by unfold habF; rw [if_neg (by rw [B1_0.mp h6]; decide), if_neg (by rw [B1_0.mp h19]; decide), if_neg (by rw [B1_0.mp h32]; decide), if_neg (by rw [B1_0.mp h45]; decide)]; rfl) ?_; refine r_loc ?_ h53; rfl)
    · refine r_iconst (v := 1) hK dX7_takeHabit_22 (by decide) ?_
      refine r_goto (tgt := 53) hK dX7_takeHabit_23 (by decide) ?_
      first
        | (refine r_top (y := hvI (habF c s)) (by unfold habF; rw [if_pos (B1_n.mp h6)]; rfl) ?_; refine r_loc ?_ h53; rfl)
        | (refine r_top (y := hvI (habF c s)) (by unfold habF; rw [if_neg (by rw [B1_0.mp h6]; decide), if_pos (B1_n.mp h19)]; rfl) ?_; refine r_loc ?_ h53; rfl)
        | (refine r_top (y := hvI (habF c s)) (by unfold habF; rw [if_neg (by rw [B1_0.mp h6]; decide), if_neg (by rw [B1_0.mp h19]; decide), if_pos (B1_n.mp h32)]; rfl) ?_; refine r_loc ?_ h53; rfl)
        | (refine r_top (y := hvI (habF c s)) (by unfold habF; rw [if_neg (by rw [B1_0.mp h6]; decide), if_neg (by rw [B1_0.mp h19]; decide), if_neg (by rw [B1_0.mp h32]; decide), if_pos (B1_n.mp h45)]; rfl) ?_; refine r_loc ?_ h53; rfl)
        | (refine r_top (y := hvI (habF c s)) (by unfold habF; rw [if_neg (by rw [B1_0.mp h6]; decide), if_neg (by rw [B1_0.mp h19]; decide), if_neg (by rw [B1_0.mp h32]; decide), if_neg (by rw [B1_0.mp h45]; decide)]; rfl) ?_; refine r_loc ?_ h53; rfl)
  · refine r_iconst (v := 0) hK dX7_takeHabit_9 (by decide) ?_
    refine r_goto (tgt := 53) hK dX7_takeHabit_10 (by decide) ?_
    first
      | (refine r_top (y := hvI (habF c s)) (by unfold habF; rw [if_pos (B1_n.mp h6)]; rfl) ?_; refine r_loc ?_ h53; rfl)
      | (refine r_top (y := hvI (habF c s)) (by unfold habF; rw [if_neg (by rw [B1_0.mp h6]; decide), if_pos (B1_n.mp h19)]; rfl) ?_; refine r_loc ?_ h53; rfl)
      | (refine r_top (y := hvI (habF c s)) (by unfold habF; rw [if_neg (by rw [B1_0.mp h6]; decide), if_neg (by rw [B1_0.mp h19]; decide), if_pos (B1_n.mp h32)]; rfl) ?_; refine r_loc ?_ h53; rfl)
      | (refine r_top (y := hvI (habF c s)) (by unfold habF; rw [if_neg (by rw [B1_0.mp h6]; decide), if_neg (by rw [B1_0.mp h19]; decide), if_neg (by rw [B1_0.mp h32]; decide), if_pos (B1_n.mp h45)]; rfl) ?_; refine r_loc ?_ h53; rfl)
      | (refine r_top (y := hvI (habF c s)) (by unfold habF; rw [if_neg (by rw [B1_0.mp h6]; decide), if_neg (by rw [B1_0.mp h19]; decide), if_neg (by rw [B1_0.mp h32]; decide), if_neg (by rw [B1_0.mp h45]; decide)]; rfl) ?_; refine r_loc ?_ h53; rfl)
abbrev KR : Type := Nat × FP × Nat
def knS (c : CT) (wn : Nat) : Nat → Nat → FP → Nat → KR
  | 0, set, F, s => (set, F, s)
  | m + 1, set, F, s => if F.1 = 0 then
      (if sgn c (nx c (nx c s)) 44 = true then knS c wn m (if (seF c F (nx c s) (nI 0) (nI wn - 1)).1 = 0 then set ||| 1 <<< tV c (nx c s) else set) (if (seF c F (nx c s) (nI 0) (nI wn - 1)).1 = 0 ∧ set.testBit (tV c (nx c s)) = true then bl (seF c F (nx c s) (nI 0) (nI wn - 1)) 4 (nx c s) else seF c F (nx c s) (nI 0) (nI wn - 1)) (nx c (nx c s))
       else ((if (seF c F (nx c s) (nI 0) (nI wn - 1)).1 = 0 then set ||| 1 <<< tV c (nx c s) else set), (if (seF c F (nx c s) (nI 0) (nI wn - 1)).1 = 0 ∧ set.testBit (tV c (nx c s)) = true then bl (seF c F (nx c s) (nI 0) (nI wn - 1)) 4 (nx c s) else seF c F (nx c s) (nI 0) (nI wn - 1)), nx c (nx c s)))
    else (set, F, s)
theorem knS_n {c : CT} {wn m set s : Nat} {F : FP} (h : ¬ F.1 = 0) : knS c wn m set F s = (set, F, s) := by
  cases m with
  | zero => rfl
  | succ m => exact if_neg h
theorem knS_s {c : CT} {wn m set s s1 s2 set' : Nat} {F F1 F2 : FP} (h : F.1 = 0) (e1 : s1 = nx c s) (e2 : s2 = nx c s1) (q1 : F1 = seF c F s1 (nI 0) (nI wn - 1)) (q2 : F2 = if F1.1 = 0 ∧ set.testBit (tV c s1) = true then bl F1 4 s1 else F1) (q3 : set' = if F1.1 = 0 then set ||| 1 <<< tV c s1 else set) : knS c wn (m + 1) set F s = if sgn c s2 44 = true then knS c wn m set' F2 s2 else (set', F2, s2) := by
  subst e1 e2 q1 q2 q3
  exact if_pos h
theorem se_w {c : CT} {F : FP} {s wn : Nat} (hh : wn ≤ 14) (h : (seF c F s (nI 0) (nI wn - 1)).1 = 0) : seV c (seF c F s (nI 0) (nI wn - 1)) s = nI (tV c s) ∧ tV c s < wn := by
  rcases Nat.eq_zero_or_pos wn with z | z
  · subst z
    obtain ⟨-, -, -, -, h5, h6⟩ := seF_0 h
    exfalso
    have e : nI 0 - 1 = (-1 : Int32) := by decide
    rw [e] at h6
    rw [show nI 0 = (0 : Int32) from rfl, Int32.lt_iff_toInt_lt] at h5
    rw [Int32.lt_iff_toInt_lt] at h6
    have e1 : (0 : Int32).toInt = 0 := by decide
    have e2 : (-1 : Int32).toInt = -1 := by decide
    rw [e1] at h5
    rw [e2] at h6
    omega
  · have e : nI wn - 1 = nI (wn - 1) := pk_sub (a := wn) (b := 1) z
    rw [e] at h ⊢
    have := se_v (by omega) (by omega) h
    exact ⟨this.1, by omega⟩
theorem or0 {s : Nat} : nI s ||| (0 : Int32) = nI s := by simp

set_option maxHeartbeats 4000000 in
set_option maxRecDepth 100000 in
theorem l_kx {K : KT} {ad : Nat → Nat} {g : St} {c : CT} {R : KR} {i : Nat} (hK : Cx K RX7 cX7_takeKnown 4 ad) (hm : K.2.2.1.2.maxLocals = 5) (hnn : Nn K 0 0)
    (hR : Rt K 0 0 TT ad (some .int) (Qi ad (fun v g' => v = nI R.1 ∧ g' = rs g c R.2.1 R.2.2))) : Wp K 0 0 TT ad (rs g c R.2.1 R.2.2) 6 [(0, .ref 3), (1, .int (nI R.1)), (2, .int 0), (3, .int (nI i))] [] := by
  refine r_iload_n (i := 3) hK dX7_takeKnown_6 rfl rfl ?_
  refine r_sipush (v := 400) hK dX7_takeKnown_7 (by decide) ?_
  refine r_icmp_ge (tgt := 99) hK dX7_takeKnown_10 (by decide) (fun h10 => ?_) (fun h10 => ?_)
  · refine r_iload_n (i := 1) hK dX7_takeKnown_99 rfl rfl ?_
    refine q_iret hK hR dX7_takeKnown_100 ?_
    exact ⟨rfl, rfl⟩
  · refine r_iload_n (i := 2) hK dX7_takeKnown_13 rfl rfl ?_
    refine r_if_eq (tgt := 99) hK dX7_takeKnown_14 (by decide) (fun _ => ?_) (fun h => absurd rfl h)
    refine r_iload_n (i := 1) hK dX7_takeKnown_99 rfl rfl ?_
    refine q_iret hK hR dX7_takeKnown_100 ?_
    exact ⟨rfl, rfl⟩
set_option maxHeartbeats 4000000 in
set_option maxRecDepth 100000 in
theorem l_kn {K : KT} {ad : Nat → Nat} {g : St} {n wn : Nat} {c : CT} {R : KR} (hT : TxC g n c) (hwn : wn ≤ 14) (hwy : g.1 4 9 = nI wn) (hK : Cx K RX7 cX7_takeKnown 4 ad) (hm : K.2.2.1.2.maxLocals = 5) (hnn : Nn K 0 0)
    (hR : Rt K 0 0 TT ad (some .int) (Qi ad (fun v g' => v = nI R.1 ∧ g' = rs g c R.2.1 R.2.2))) :
    ∀ m i, i + m = 400 → ∀ (set : Nat) (F : FP) (s : Nat), s ≤ n → F.1 ≤ 4 → set < 2 ^ 14 → knS c wn m set F s = R → Wp K 0 0 TT ad (rs g c F s) 6 [(0, .ref 3), (1, .int (nI set)), (2, .int 1), (3, .int (nI i))] [] := by
  intro m
  induction m with
  | zero =>
    intro i hi set F s hs hF hset hw
    have e : i = 400 := by omega
    subst e
    subst hw
    refine r_iload_n (i := 3) hK dX7_takeKnown_6 rfl rfl ?_
    refine r_sipush (v := 400) hK dX7_takeKnown_7 (by decide) ?_
    refine r_icmp_ge (tgt := 99) hK dX7_takeKnown_10 (by decide) (fun _ => ?_) (fun h => absurd (by decide) h)
    refine r_iload_n (i := 1) hK dX7_takeKnown_99 rfl rfl ?_
    refine q_iret hK hR dX7_takeKnown_100 ?_
    exact ⟨rfl, rfl⟩
  | succ m ih =>
    intro i hi set F s hs hF hset hw9
    obtain ⟨s1, e1⟩ : ∃ x, x = nx c s := ⟨_, rfl⟩
    obtain ⟨s2, e2⟩ : ∃ x, x = nx c s1 := ⟨_, rfl⟩
    obtain ⟨F1, q1⟩ : ∃ x, x = seF c F s1 (nI 0) (nI wn - 1) := ⟨_, rfl⟩
    obtain ⟨F2, q2⟩ : ∃ x, x = (if F1.1 = 0 ∧ set.testBit (tV c s1) = true then bl F1 4 s1 else F1) := ⟨_, rfl⟩
    obtain ⟨set2, q3⟩ : ∃ x, x = (if F1.1 = 0 then set ||| 1 <<< tV c s1 else set) := ⟨_, rfl⟩
    have b1 : s1 ≤ n := by rw [e1]; exact (nx_le hT.1 hs).2
    have b2 : s2 ≤ n := by rw [e2]; exact (nx_le hT.1 b1).2
    have k1 : F1.1 ≤ 4 := by rw [q1]; exact seF_ok hF
    refine r_iload_n (i := 3) hK dX7_takeKnown_6 rfl rfl ?_
    refine r_sipush (v := 400) hK dX7_takeKnown_7 (by decide) ?_
    refine r_icmp_ge (tgt := 99) hK dX7_takeKnown_10 (by decide) (fun h => absurd h (nI_ge (show i < 400 by omega) (by decide))) (fun _ => ?_)
    refine r_iload_n (i := 2) hK dX7_takeKnown_13 rfl rfl ?_
    refine r_if_eq (tgt := 99) hK dX7_takeKnown_14 (by decide) (fun h => absurd h (by decide)) (fun _ => ?_)
    refine r_aload_n (i := 0) hK dX7_takeKnown_17 rfl rfl ?_
    refine r_getI hK flX7_29 to_3 rfl dX7_takeKnown_18 ?_
    refine r_top (y := nI F.1) rs_2 ?_
    refine r_if_ne (tgt := 99) hK dX7_takeKnown_21 (by decide) (fun h21 => ?_) (fun h21 => ?_)
    · refine r_iload_n (i := 1) hK dX7_takeKnown_99 rfl rfl ?_
      refine q_iret hK hR dX7_takeKnown_100 ?_
      rw [knS_n (fun z => h21 (by rw [z]; rfl))] at hw9
      subst hw9
      exact ⟨rfl, rfl⟩
    · refine r_aload_n (i := 0) hK dX7_takeKnown_24 rfl rfl ?_
      have hF0 : F.1 = 0 := nI_inj (by omega) (by decide) h21
      have hw := (knS_s hF0 e1 e2 q1 q2 q3).symm.trans hw9
      refine r_cv0 hK hnn (c_stp hT hs e1) moX7_step mlX7_38 to_3 rfl rfl dX7_takeKnown_25 (Nat.le_of_ble_eq_true rfl) (Nat.le_of_ble_eq_true rfl) (eqV ?_)
      refine r_aload_n (i := 0) hK dX7_takeKnown_28 rfl rfl ?_
      refine r_iconst (v := 0) hK dX7_takeKnown_29 (by decide) ?_
      refine r_aload_n (i := 0) hK dX7_takeKnown_30 rfl rfl ?_
      refine r_getA hK flX7_12 to_3 rfl dX7_takeKnown_31 ?_
      refine r_getI hK flX7_74 to_4 rfl dX7_takeKnown_34 ?_
      refine r_top (y := nI wn) ((congrFun (rs_n (by decide)) _).trans hwy) ?_
      refine r_iconst (v := 1) hK dX7_takeKnown_37 (by decide) ?_
      refine r_isub hK dX7_takeKnown_38 ?_
      refine r_ci2 hK hnn (c_seN hT b1 hF q1) moX7_seeNumber mlX7_77 to_3 rfl rfl dX7_takeKnown_39 (Nat.le_of_ble_eq_true rfl) (Nat.le_of_ble_eq_true rfl) (eqI ?_)
      by_cases hz : F1.1 = 0
      · have hv := se_w hwn (by rw [← q1]; exact hz)
        rw [← q1] at hv
        obtain ⟨v1, v2⟩ := hv
        refine r_top (y := nI (tV c s1)) v1 ?_
        have htb : (if set.testBit (tV c s1) = true then (1 : Int32) else 0) = 1 → set.testBit (tV c s1) = true := fun h => by
          split at h
          · assumption
          · exact absurd h (by decide)
        have hset2 : set2 < 2 ^ 14 := by rw [q3, if_pos hz]; exact Nat.or_lt_two_pow hset (by rw [Nat.one_shiftLeft]; exact Nat.pow_lt_pow_right (by decide) (by omega))
        have k2 : F2.1 ≤ 4 := by rw [q2]; split; exact bl_ok k1 (by decide); exact k1
        refine r_istore (i := 4) hK hm dX7_takeKnown_42 (by decide) ?_
        refine r_iload (i := 4) hK dX7_takeKnown_44 rfl ?_
        refine r_iconst (v := (-1)) hK dX7_takeKnown_46 (by decide) ?_
        refine r_icmp_eq (tgt := 65) hK dX7_takeKnown_47 (by decide) (fun h => absurd h (nI_m1 (by omega))) (fun _ => ?_)
        refine r_iload_n (i := 1) hK dX7_takeKnown_50 rfl rfl ?_
        refine r_iload (i := 4) hK dX7_takeKnown_51 rfl ?_
        refine r_ishr hK dX7_takeKnown_53 ?_
        refine r_iconst (v := 1) hK dX7_takeKnown_54 (by decide) ?_
        refine r_iand hK dX7_takeKnown_55 ?_
        refine r_top (y := if set.testBit (tV c s1) = true then 1 else 0) (tb_if (by omega) (by omega)) ?_
        refine r_iconst (v := 1) hK dX7_takeKnown_56 (by decide) ?_
        refine r_icmp_ne (tgt := 65) hK dX7_takeKnown_57 (by decide) (fun h57 => ?_) (fun h57 => ?_)
        · refine r_g (congrArg (fun z => rs g c z s1) (show F1 = F2 from by rw [q2, if_neg (fun z => h57 (by rw [if_pos z.2]))])) ?_
          refine r_iload_n (i := 1) hK dX7_takeKnown_65 rfl rfl ?_
          refine r_iload (i := 4) hK dX7_takeKnown_66 rfl ?_
          refine r_iconst (v := (-1)) hK dX7_takeKnown_68 (by decide) ?_
          refine r_icmp_ne (tgt := 76) hK dX7_takeKnown_69 (by decide) (fun _ => ?_) (fun h => absurd h (nI_m1 (by omega)))
          refine r_iconst (v := 1) hK dX7_takeKnown_76 (by decide) ?_
          refine r_iload (i := 4) hK dX7_takeKnown_77 rfl ?_
          refine r_ishl hK dX7_takeKnown_79 ?_
          refine r_ior hK dX7_takeKnown_80 ?_
          refine r_top (y := nI set2) ((setbit (by omega)).trans (by rw [q3, if_pos hz])) ?_
          refine r_istore_n (i := 1) hK hm dX7_takeKnown_81 rfl (by decide) ?_
          refine r_aload_n (i := 0) hK dX7_takeKnown_82 rfl rfl ?_
          refine r_cv0 hK hnn (c_stp hT b1 e2) moX7_step mlX7_38 to_3 rfl rfl dX7_takeKnown_83 (Nat.le_of_ble_eq_true rfl) (Nat.le_of_ble_eq_true rfl) (eqV ?_)
          refine r_aload_n (i := 0) hK dX7_takeKnown_86 rfl rfl ?_
          refine r_bipush (v := 44) hK dX7_takeKnown_87 (by decide) ?_
          refine r_ci1 hK hnn (c_isSign hT b2 rfl (by decide)) moX7_isSign mlX7_133 to_3 rfl rfl dX7_takeKnown_89 (Nat.le_of_ble_eq_true rfl) (Nat.le_of_ble_eq_true rfl) (eqI ?_)
          refine r_istore_n (i := 2) hK hm dX7_takeKnown_92 rfl (by decide) ?_
          refine r_iincN (i := 3) hK hm dX7_takeKnown_93 rfl (by decide) ?_
          refine r_goto (tgt := 6) hK dX7_takeKnown_96 (by decide) ?_
          by_cases hmr : sgn c s2 44 = true
          · rw [if_pos hmr] at hw
            rw [hmr]
            refine r_loc ?_ (ih (i + 1) (by omega) set2 F2 s2 b2 k2 hset2 hw)
            rfl
          · rw [if_neg hmr] at hw
            rw [Bool.not_eq_true] at hmr
            rw [hmr]
            subst hw
            refine r_loc ?_ (l_kx (R := (set2, F2, s2)) (i := i + 1) hK hm hnn hR)
            rfl
        · refine r_aload_n (i := 0) hK dX7_takeKnown_60 rfl rfl ?_
          refine r_iconst (v := 4) hK dX7_takeKnown_61 (by decide) ?_
          refine r_cv1 hK hnn (c_blame k1 rfl (by decide)) moX7_blame mlX7_62 to_3 rfl rfl dX7_takeKnown_62 (Nat.le_of_ble_eq_true rfl) (Nat.le_of_ble_eq_true rfl) (eqV ?_)
          refine r_g (congrArg (fun z => rs g c z s1) (show bl F1 4 s1 = F2 from by rw [q2, if_pos ⟨hz, htb h57⟩])) ?_
          refine r_iload_n (i := 1) hK dX7_takeKnown_65 rfl rfl ?_
          refine r_iload (i := 4) hK dX7_takeKnown_66 rfl ?_
          refine r_iconst (v := (-1)) hK dX7_takeKnown_68 (by decide) ?_
          refine r_icmp_ne (tgt := 76) hK dX7_takeKnown_69 (by decide) (fun _ => ?_) (fun h => absurd h (nI_m1 (by omega)))
          refine r_iconst (v := 1) hK dX7_takeKnown_76 (by decide) ?_
          refine r_iload (i := 4) hK dX7_takeKnown_77 rfl ?_
          refine r_ishl hK dX7_takeKnown_79 ?_
          refine r_ior hK dX7_takeKnown_80 ?_
          refine r_top (y := nI set2) ((setbit (by omega)).trans (by rw [q3, if_pos hz])) ?_
          refine r_istore_n (i := 1) hK hm dX7_takeKnown_81 rfl (by decide) ?_
          refine r_aload_n (i := 0) hK dX7_takeKnown_82 rfl rfl ?_
          refine r_cv0 hK hnn (c_stp hT b1 e2) moX7_step mlX7_38 to_3 rfl rfl dX7_takeKnown_83 (Nat.le_of_ble_eq_true rfl) (Nat.le_of_ble_eq_true rfl) (eqV ?_)
          refine r_aload_n (i := 0) hK dX7_takeKnown_86 rfl rfl ?_
          refine r_bipush (v := 44) hK dX7_takeKnown_87 (by decide) ?_
          refine r_ci1 hK hnn (c_isSign hT b2 rfl (by decide)) moX7_isSign mlX7_133 to_3 rfl rfl dX7_takeKnown_89 (Nat.le_of_ble_eq_true rfl) (Nat.le_of_ble_eq_true rfl) (eqI ?_)
          refine r_istore_n (i := 2) hK hm dX7_takeKnown_92 rfl (by decide) ?_
          refine r_iincN (i := 3) hK hm dX7_takeKnown_93 rfl (by decide) ?_
          refine r_goto (tgt := 6) hK dX7_takeKnown_96 (by decide) ?_
          by_cases hmr : sgn c s2 44 = true
          · rw [if_pos hmr] at hw
            rw [hmr]
            refine r_loc ?_ (ih (i + 1) (by omega) set2 F2 s2 b2 k2 hset2 hw)
            rfl
          · rw [if_neg hmr] at hw
            rw [Bool.not_eq_true] at hmr
            rw [hmr]
            subst hw
            refine r_loc ?_ (l_kx (R := (set2, F2, s2)) (i := i + 1) hK hm hnn hR)
            rfl
      · have e9 : F1 = F2 := by rw [q2, if_neg (fun z => hz z.1)]
        have hset2 : set2 < 2 ^ 14 := by rw [q3, if_neg hz]; exact hset
        have k2 : F2.1 ≤ 4 := by rw [← e9]; exact k1
        refine r_top (y := -1) (if_neg hz) ?_
        refine r_g (congrArg (fun z => rs g c z s1) e9) ?_
        refine r_istore (i := 4) hK hm dX7_takeKnown_42 (by decide) ?_
        refine r_iload (i := 4) hK dX7_takeKnown_44 rfl ?_
        refine r_iconst (v := (-1)) hK dX7_takeKnown_46 (by decide) ?_
        refine r_icmp_eq (tgt := 65) hK dX7_takeKnown_47 (by decide) (fun _ => ?_) (fun h => absurd rfl h)
        refine r_iload_n (i := 1) hK dX7_takeKnown_65 rfl rfl ?_
        refine r_iload (i := 4) hK dX7_takeKnown_66 rfl ?_
        refine r_iconst (v := (-1)) hK dX7_takeKnown_68 (by decide) ?_
        refine r_icmp_ne (tgt := 76) hK dX7_takeKnown_69 (by decide) (fun h => absurd rfl h) (fun _ => ?_)
        refine r_iconst (v := 0) hK dX7_takeKnown_72 (by decide) ?_
        refine r_goto (tgt := 80) hK dX7_takeKnown_73 (by decide) ?_
        refine r_ior hK dX7_takeKnown_80 ?_
        refine r_top (y := nI set2) (or0.trans (by rw [q3, if_neg hz])) ?_
        refine r_istore_n (i := 1) hK hm dX7_takeKnown_81 rfl (by decide) ?_
        refine r_aload_n (i := 0) hK dX7_takeKnown_82 rfl rfl ?_
        refine r_cv0 hK hnn (c_stp hT b1 e2) moX7_step mlX7_38 to_3 rfl rfl dX7_takeKnown_83 (Nat.le_of_ble_eq_true rfl) (Nat.le_of_ble_eq_true rfl) (eqV ?_)
        refine r_aload_n (i := 0) hK dX7_takeKnown_86 rfl rfl ?_
        refine r_bipush (v := 44) hK dX7_takeKnown_87 (by decide) ?_
        refine r_ci1 hK hnn (c_isSign hT b2 rfl (by decide)) moX7_isSign mlX7_133 to_3 rfl rfl dX7_takeKnown_89 (Nat.le_of_ble_eq_true rfl) (Nat.le_of_ble_eq_true rfl) (eqI ?_)
        refine r_istore_n (i := 2) hK hm dX7_takeKnown_92 rfl (by decide) ?_
        refine r_iincN (i := 3) hK hm dX7_takeKnown_93 rfl (by decide) ?_
        refine r_goto (tgt := 6) hK dX7_takeKnown_96 (by decide) ?_
        by_cases hmr : sgn c s2 44 = true
        · rw [if_pos hmr] at hw
          rw [hmr]
          refine r_loc ?_ (ih (i + 1) (by omega) set2 F2 s2 b2 k2 hset2 hw)
          rfl
        · rw [if_neg hmr] at hw
          rw [Bool.not_eq_true] at hmr
          rw [hmr]
          subst hw
          refine r_loc ?_ (l_kx (R := (set2, F2, s2)) (i := i + 1) hK hm hnn hR)
          rfl
set_option maxHeartbeats 4000000 in
set_option maxRecDepth 100000 in
theorem c_takeKnown {ad : Nat → Nat} {g : St} {n s wn : Nat} {c : CT} {F : FP} {R : KR} (hT : TxC g n c) (hs : s ≤ n) (hF : F.1 ≤ 4) (hwn : wn ≤ 14) (hwy : g.1 4 9 = nI wn) (hR9 : knS c wn 400 0 F s = R) : Ci 4 mX7_takeKnown [.ref 3] ad (rs g c F s) (fun v g' => v = nI R.1 ∧ g' = rs g c R.2.1 R.2.2) := by
  refine Cm.mk rfl (Nat.le_of_ble_eq_true rfl) (fun K hK hR hm hnn => ?_)
  refine r_iconst (v := 0) hK dX7_takeKnown_0 (by decide) ?_
  refine r_istore_n (i := 1) hK hm dX7_takeKnown_1 rfl (by decide) ?_
  refine r_iconst (v := 1) hK dX7_takeKnown_2 (by decide) ?_
  refine r_istore_n (i := 2) hK hm dX7_takeKnown_3 rfl (by decide) ?_
  refine r_iconst (v := 0) hK dX7_takeKnown_4 (by decide) ?_
  refine r_istore_n (i := 3) hK hm dX7_takeKnown_5 rfl (by decide) ?_
  refine r_loc ?_ (l_kn hT hwn hwy hK hm hnn hR 400 0 (by omega) 0 F s hs hF (by decide) hR9)
  rfl
