/-! THE JOURNAL, and small answers -/
def jL (g : St) (L : Nat) (a b c d : Int32) : St := upI (upI (upI (upI (upI g 78 L a) 79 L b) 80 L c) 81 L d) 77 6 (nI (L + 1))
def jM (g : St) (M : Nat) (a b : Int32) : St := upI (upI (upI g 82 M a) 83 M b) 77 7 (nI (M + 1))
theorem nh {g : St} {o k : Nat} {x : Int32} {i : Nat} {y : Int32} {j : Nat} (h : g.1 j i = y) (hj : j ≠ o) : (upI g o k x).1 j i = y := (congrFun (upI_n hj) i).trans h
def aTol (X : LN) (TL L M : Nat) (x : Int32) : Int32 := if x = 0 then nI X.1 else if x = 1 then nI X.2.1.1 else if x = 2 then nI X.2.2.1.1 else if x = 3 then nI TL else if x = 4 then nI X.2.2.2.2.2 else if x = 5 then nI L else if x = 6 then nI M else OUT
def aSee (s : Nat) (v : Int32) : Int32 := if v < 0 then OUT else nI s
def aMis (X : LN) (p m : Int32) : Int32 := if isB p X.2.2.1.1 = true then (if m < 0 ∨ 999 < m then OUT else nI (asS X (nC m) (nC p) X.1)) else UNK
def aLac (X : LN) (M : Nat) (p m : Int32) : Int32 := if isB p X.2.2.1.1 = true then (if m < 0 ∨ 999 < m then OUT else if M < 8 then nI (M + 1) else FUL) else UNK
def gLac (X : LN) (M : Nat) (p m : Int32) (g : St) : St := if isB p X.2.2.1.1 = true then (if m < 0 ∨ 999 < m then g else if M < 8 then jM g M p m else g) else g
def aLog (X : LN) (L : Nat) (p t k q : Int32) : Int32 := if (isB p X.2.2.1.1 && (isB t X.1 && isB q X.1)) = true then (if k < 0 ∨ 9 < k then OUT else if L < 30 then nI (L + 1) else FUL) else UNK
def gLog (X : LN) (L : Nat) (p t k q : Int32) (g : St) : St := if (isB p X.2.2.1.1 && (isB t X.1 && isB q X.1)) = true then (if k < 0 ∨ 9 < k then g else if L < 30 then jL g L p t k q else g) else g

set_option maxHeartbeats 4000000 in
set_option maxRecDepth 100000 in
theorem c_forget {ad : Nat → Nat} {g : St}  : Cv 1 mX3_forget [.ref 77] ad g (fun g' => g' = upI (upI g 77 6 0) 77 7 0) := by
  refine Cm.mk rfl (Nat.le_of_ble_eq_true rfl) (fun K hK hR hm hnn => ?_)
  refine r_aload_n (i := 0) hK dX3_forget_0 rfl rfl ?_
  refine r_iconst (v := 0) hK dX3_forget_1 (by decide) ?_
  refine r_putI hK flX3_30 ft3_6 to_77 rfl dX3_forget_2 ?_
  refine r_aload_n (i := 0) hK dX3_forget_5 rfl rfl ?_
  refine r_iconst (v := 0) hK dX3_forget_6 (by decide) ?_
  refine r_putI hK flX3_39 ft3_7 to_77 rfl dX3_forget_7 ?_
  refine q_vret hK hR dX3_forget_10 ?_
  rfl
set_option maxHeartbeats 4000000 in
set_option maxRecDepth 100000 in
theorem c_addLogged {ad : Nat → Nat} {g : St} {L : Nat} {a b c d : Int32} (hL : g.1 77 6 = nI L) (hLb : L ≤ 30) : Ci 2 mX3_addLogged [.ref 77, .int a, .int b, .int c, .int d] ad g (fun v g' => v = (if L < 30 then nI (L + 1) else FUL) ∧ g' = (if L < 30 then jL g L a b c d else g)) := by
  refine Cm.mk rfl (Nat.le_of_ble_eq_true rfl) (fun K hK hR hm hnn => ?_)
  refine r_aload_n (i := 0) hK dX3_addLogged_0 rfl rfl ?_
  refine r_getI hK flX3_30 to_77 rfl dX3_addLogged_1 ?_
  refine r_top (y := nI L) hL ?_
  refine r_bipush (v := 30) hK dX3_addLogged_4 (by decide) ?_
  refine r_icmp_lt (tgt := 12) hK dX3_addLogged_6 (by decide) (fun h6 => ?_) (fun h6 => ?_)
  · refine r_aload_n (i := 0) hK dX3_addLogged_12 rfl rfl ?_
    have hlt : L < 30 := (nI_ltI (by omega) (by decide)).mp h6
    refine r_getA hK flX3_9 to_77 rfl dX3_addLogged_13 ?_
    refine r_aload_n (i := 0) hK dX3_addLogged_16 rfl rfl ?_
    refine r_getI hK flX3_30 to_77 rfl dX3_addLogged_17 ?_
    refine r_top (y := nI L) (hL) ?_
    refine r_iload_n (i := 1) hK dX3_addLogged_20 rfl rfl ?_
    refine r_sv3 hK hnn (c_ptE to_78 (by decide) rfl (by omega) rfl) moX9_put mlX3_35 dX3_addLogged_21 (Nat.le_of_ble_eq_true rfl) (Nat.le_of_ble_eq_true rfl) (eqV ?_)
    refine r_aload_n (i := 0) hK dX3_addLogged_24 rfl rfl ?_
    refine r_getA hK flX3_15 to_77 rfl dX3_addLogged_25 ?_
    refine r_aload_n (i := 0) hK dX3_addLogged_28 rfl rfl ?_
    refine r_getI hK flX3_30 to_77 rfl dX3_addLogged_29 ?_
    refine r_top (y := nI L) (nh (hL) (by decide)) ?_
    refine r_iload_n (i := 2) hK dX3_addLogged_32 rfl rfl ?_
    refine r_sv3 hK hnn (c_ptE to_79 (by decide) rfl (by omega) rfl) moX9_put mlX3_35 dX3_addLogged_33 (Nat.le_of_ble_eq_true rfl) (Nat.le_of_ble_eq_true rfl) (eqV ?_)
    refine r_aload_n (i := 0) hK dX3_addLogged_36 rfl rfl ?_
    refine r_getA hK flX3_18 to_77 rfl dX3_addLogged_37 ?_
    refine r_aload_n (i := 0) hK dX3_addLogged_40 rfl rfl ?_
    refine r_getI hK flX3_30 to_77 rfl dX3_addLogged_41 ?_
    refine r_top (y := nI L) (nh (nh (hL) (by decide)) (by decide)) ?_
    refine r_iload_n (i := 3) hK dX3_addLogged_44 rfl rfl ?_
    refine r_sv3 hK hnn (c_ptE to_80 (by decide) rfl (by omega) rfl) moX9_put mlX3_35 dX3_addLogged_45 (Nat.le_of_ble_eq_true rfl) (Nat.le_of_ble_eq_true rfl) (eqV ?_)
    refine r_aload_n (i := 0) hK dX3_addLogged_48 rfl rfl ?_
    refine r_getA hK flX3_21 to_77 rfl dX3_addLogged_49 ?_
    refine r_aload_n (i := 0) hK dX3_addLogged_52 rfl rfl ?_
    refine r_getI hK flX3_30 to_77 rfl dX3_addLogged_53 ?_
    refine r_top (y := nI L) (nh (nh (nh (hL) (by decide)) (by decide)) (by decide)) ?_
    refine r_iload (i := 4) hK dX3_addLogged_56 rfl ?_
    refine r_sv3 hK hnn (c_ptE to_81 (by decide) rfl (by omega) rfl) moX9_put mlX3_35 dX3_addLogged_58 (Nat.le_of_ble_eq_true rfl) (Nat.le_of_ble_eq_true rfl) (eqV ?_)
    refine r_aload_n (i := 0) hK dX3_addLogged_61 rfl rfl ?_
    refine r_dup hK dX3_addLogged_62 rfl ?_
    refine r_getI hK flX3_30 to_77 rfl dX3_addLogged_63 ?_
    refine r_top (y := nI L) (nh (nh (nh (nh (hL) (by decide)) (by decide)) (by decide)) (by decide)) ?_
    refine r_iconst (v := 1) hK dX3_addLogged_66 (by decide) ?_
    refine r_iadd hK dX3_addLogged_67 ?_
    refine r_top (y := nI (L + 1)) (nI_add _ _) ?_
    refine r_putI hK flX3_30 ft3_6 to_77 rfl dX3_addLogged_68 ?_
    refine r_aload_n (i := 0) hK dX3_addLogged_71 rfl rfl ?_
    refine r_getI hK flX3_30 to_77 rfl dX3_addLogged_72 ?_
    refine r_top (y := nI (L + 1)) (by rw [upI_s, upd_s]) ?_
    refine q_iret hK hR dX3_addLogged_75 ?_
    first
      | (rw [if_pos hlt, if_pos hlt]; exact ⟨rfl, rfl⟩)
      | (have hnl : ¬ L < 30 := (fun z => h6 (nI_lt z (by decide))); rw [if_neg hnl, if_neg hnl]; exact ⟨rfl, rfl⟩)
  · refine r_ldc hK ckX3_34 dX3_addLogged_9 ?_
    refine q_iret hK hR dX3_addLogged_11 ?_
    first
      | (rw [if_pos hlt, if_pos hlt]; exact ⟨rfl, rfl⟩)
      | (have hnl : ¬ L < 30 := (fun z => h6 (nI_lt z (by decide))); rw [if_neg hnl, if_neg hnl]; exact ⟨rfl, rfl⟩)
set_option maxHeartbeats 4000000 in
set_option maxRecDepth 100000 in
theorem c_addMissed {ad : Nat → Nat} {g : St} {L : Nat} {a b : Int32} (hL : g.1 77 7 = nI L) (hLb : L ≤ 8) : Ci 2 mX3_addMissed [.ref 77, .int a, .int b] ad g (fun v g' => v = (if L < 8 then nI (L + 1) else FUL) ∧ g' = (if L < 8 then jM g L a b else g)) := by
  refine Cm.mk rfl (Nat.le_of_ble_eq_true rfl) (fun K hK hR hm hnn => ?_)
  refine r_aload_n (i := 0) hK dX3_addMissed_0 rfl rfl ?_
  refine r_getI hK flX3_39 to_77 rfl dX3_addMissed_1 ?_
  refine r_top (y := nI L) hL ?_
  refine r_bipush (v := 8) hK dX3_addMissed_4 (by decide) ?_
  refine r_icmp_lt (tgt := 12) hK dX3_addMissed_6 (by decide) (fun h6 => ?_) (fun h6 => ?_)
  · refine r_aload_n (i := 0) hK dX3_addMissed_12 rfl rfl ?_
    have hlt : L < 8 := (nI_ltI (by omega) (by decide)).mp h6
    refine r_getA hK flX3_24 to_77 rfl dX3_addMissed_13 ?_
    refine r_aload_n (i := 0) hK dX3_addMissed_16 rfl rfl ?_
    refine r_getI hK flX3_39 to_77 rfl dX3_addMissed_17 ?_
    refine r_top (y := nI L) (hL) ?_
    refine r_iload_n (i := 1) hK dX3_addMissed_20 rfl rfl ?_
    refine r_sv3 hK hnn (c_ptE to_82 (by decide) rfl (by omega) rfl) moX9_put mlX3_35 dX3_addMissed_21 (Nat.le_of_ble_eq_true rfl) (Nat.le_of_ble_eq_true rfl) (eqV ?_)
    refine r_aload_n (i := 0) hK dX3_addMissed_24 rfl rfl ?_
    refine r_getA hK flX3_27 to_77 rfl dX3_addMissed_25 ?_
    refine r_aload_n (i := 0) hK dX3_addMissed_28 rfl rfl ?_
    refine r_getI hK flX3_39 to_77 rfl dX3_addMissed_29 ?_
    refine r_top (y := nI L) (nh (hL) (by decide)) ?_
    refine r_iload_n (i := 2) hK dX3_addMissed_32 rfl rfl ?_
    refine r_sv3 hK hnn (c_ptE to_83 (by decide) rfl (by omega) rfl) moX9_put mlX3_35 dX3_addMissed_33 (Nat.le_of_ble_eq_true rfl) (Nat.le_of_ble_eq_true rfl) (eqV ?_)
    refine r_aload_n (i := 0) hK dX3_addMissed_36 rfl rfl ?_
    refine r_dup hK dX3_addMissed_37 rfl ?_
    refine r_getI hK flX3_39 to_77 rfl dX3_addMissed_38 ?_
    refine r_top (y := nI L) (nh (nh (hL) (by decide)) (by decide)) ?_
    refine r_iconst (v := 1) hK dX3_addMissed_41 (by decide) ?_
    refine r_iadd hK dX3_addMissed_42 ?_
    refine r_top (y := nI (L + 1)) (nI_add _ _) ?_
    refine r_putI hK flX3_39 ft3_7 to_77 rfl dX3_addMissed_43 ?_
    refine r_aload_n (i := 0) hK dX3_addMissed_46 rfl rfl ?_
    refine r_getI hK flX3_39 to_77 rfl dX3_addMissed_47 ?_
    refine r_top (y := nI (L + 1)) (by rw [upI_s, upd_s]) ?_
    refine q_iret hK hR dX3_addMissed_50 ?_
    first
      | (rw [if_pos hlt, if_pos hlt]; exact ⟨rfl, rfl⟩)
      | (have hnl : ¬ L < 8 := (fun z => h6 (nI_lt z (by decide))); rw [if_neg hnl, if_neg hnl]; exact ⟨rfl, rfl⟩)
  · refine r_ldc hK ckX3_34 dX3_addMissed_9 ?_
    refine q_iret hK hR dX3_addMissed_11 ?_
    first
      | (rw [if_pos hlt, if_pos hlt]; exact ⟨rfl, rfl⟩)
      | (have hnl : ¬ L < 8 := (fun z => h6 (nI_lt z (by decide))); rw [if_neg hnl, if_neg hnl]; exact ⟨rfl, rfl⟩)
set_option maxHeartbeats 4000000 in
set_option maxRecDepth 100000 in
theorem c_told {ad : Nat → Nat} {g : St} {X : LN} (hX : LC g X) {x : Int32} {TL L M : Nat} (hT : g.1 1 1 = nI TL) (hL : g.1 77 6 = nI L) (hM : g.1 77 7 = nI M) : Ci 1 mX9_told [.ref 0, .int x] ad g (fun v g' => v = aTol X TL L M x ∧ g' = g) := by
  obtain ⟨hok, hpo, hlaw, x1, hW, hPs, x4⟩ := id hX
  have h10 := hok.2.1
  have h6 := hpo.1
  have h14 := hok.1
  refine Cm.mk rfl (Nat.le_of_ble_eq_true rfl) (fun K hK hR hm hnn => ?_)
  refine r_iload_n (i := 1) hK dX9_told_0 rfl rfl ?_
  refine r_sw (n := 7) (lo := 0) (tgt0 := 97) hK dX9_told_1 (by decide) (by decide) (by decide) (by decide) (fun h1 => ?_) (fun i1 hi1 h1 => ?_)
  · refine r_ldc hK ckX9_76 dX9_told_97 ?_
    refine q_iret hK hR dX9_told_99 ?_
    refine ⟨?_, rfl⟩
    unfold aTol
    first
      | (rw [(show x = 0 from h1)]; rw [if_pos rfl]; exact x1)
      | (rw [(show x = 1 from h1)]; rw [if_neg (by decide)]; rw [if_pos rfl]; exact hW.1)
      | (rw [(show x = 2 from h1)]; rw [if_neg (by decide)]; rw [if_neg (by decide)]; rw [if_pos rfl]; exact hPs.1)
      | (rw [(show x = 3 from h1)]; rw [if_neg (by decide)]; rw [if_neg (by decide)]; rw [if_neg (by decide)]; rw [if_pos rfl]; exact hT)
      | (rw [(show x = 4 from h1)]; rw [if_neg (by decide)]; rw [if_neg (by decide)]; rw [if_neg (by decide)]; rw [if_neg (by decide)]; rw [if_pos rfl]; exact x4)
      | (rw [(show x = 5 from h1)]; rw [if_neg (by decide)]; rw [if_neg (by decide)]; rw [if_neg (by decide)]; rw [if_neg (by decide)]; rw [if_neg (by decide)]; rw [if_pos rfl]; exact hL)
      | (rw [(show x = 6 from h1)]; rw [if_neg (by decide)]; rw [if_neg (by decide)]; rw [if_neg (by decide)]; rw [if_neg (by decide)]; rw [if_neg (by decide)]; rw [if_neg (by decide)]; rw [if_pos rfl]; exact hM)
      | (rw [if_neg (show ¬ x = 0 from swn 0 h1 (by decide) (by decide)), if_neg (show ¬ x = 1 from swn 1 h1 (by decide) (by decide)), if_neg (show ¬ x = 2 from swn 2 h1 (by decide) (by decide)), if_neg (show ¬ x = 3 from swn 3 h1 (by decide) (by decide)), if_neg (show ¬ x = 4 from swn 4 h1 (by decide) (by decide)), if_neg (show ¬ x = 5 from swn 5 h1 (by decide) (by decide)), if_neg (show ¬ x = 6 from swn 6 h1 (by decide) (by decide))]; done)
  · obtain rfl | rfl | rfl | rfl | rfl | rfl | rfl : i1 = 0 ∨ i1 = 1 ∨ i1 = 2 ∨ i1 = 3 ∨ i1 = 4 ∨ i1 = 5 ∨ i1 = 6 := by omega
    · refine ⟨_, 44, rfl, by decide, ?_⟩
      refine r_aload_n (i := 0) hK dX9_told_44 rfl rfl ?_
      refine r_getA hK flX9_26 to_0 rfl dX9_told_45 ?_
      refine r_getI hK flX9_104 to_13 rfl dX9_told_48 ?_
      refine q_iret hK hR dX9_told_51 ?_
      refine ⟨?_, rfl⟩
      unfold aTol
      first
        | (rw [(show x = 0 from h1)]; rw [if_pos rfl]; exact x1)
        | (rw [(show x = 1 from h1)]; rw [if_neg (by decide)]; rw [if_pos rfl]; exact hW.1)
        | (rw [(show x = 2 from h1)]; rw [if_neg (by decide)]; rw [if_neg (by decide)]; rw [if_pos rfl]; exact hPs.1)
        | (rw [(show x = 3 from h1)]; rw [if_neg (by decide)]; rw [if_neg (by decide)]; rw [if_neg (by decide)]; rw [if_pos rfl]; exact hT)
        | (rw [(show x = 4 from h1)]; rw [if_neg (by decide)]; rw [if_neg (by decide)]; rw [if_neg (by decide)]; rw [if_neg (by decide)]; rw [if_pos rfl]; exact x4)
        | (rw [(show x = 5 from h1)]; rw [if_neg (by decide)]; rw [if_neg (by decide)]; rw [if_neg (by decide)]; rw [if_neg (by decide)]; rw [if_neg (by decide)]; rw [if_pos rfl]; exact hL)
        | (rw [(show x = 6 from h1)]; rw [if_neg (by decide)]; rw [if_neg (by decide)]; rw [if_neg (by decide)]; rw [if_neg (by decide)]; rw [if_neg (by decide)]; rw [if_neg (by decide)]; rw [if_pos rfl]; exact hM)
        | (rw [if_neg (show ¬ x = 0 from swn 0 h1 (by decide) (by decide)), if_neg (show ¬ x = 1 from swn 1 h1 (by decide) (by decide)), if_neg (show ¬ x = 2 from swn 2 h1 (by decide) (by decide)), if_neg (show ¬ x = 3 from swn 3 h1 (by decide) (by decide)), if_neg (show ¬ x = 4 from swn 4 h1 (by decide) (by decide)), if_neg (show ¬ x = 5 from swn 5 h1 (by decide) (by decide)), if_neg (show ¬ x = 6 from swn 6 h1 (by decide) (by decide))]; done)
    · refine ⟨_, 52, rfl, by decide, ?_⟩
      refine r_aload_n (i := 0) hK dX9_told_52 rfl rfl ?_
      refine r_getA hK flX9_26 to_0 rfl dX9_told_53 ?_
      refine r_getI hK flX9_110 to_13 rfl dX9_told_56 ?_
      refine q_iret hK hR dX9_told_59 ?_
      refine ⟨?_, rfl⟩
      unfold aTol
      first
        | (rw [(show x = 0 from h1)]; rw [if_pos rfl]; exact x1)
        | (rw [(show x = 1 from h1)]; rw [if_neg (by decide)]; rw [if_pos rfl]; exact hW.1)
        | (rw [(show x = 2 from h1)]; rw [if_neg (by decide)]; rw [if_neg (by decide)]; rw [if_pos rfl]; exact hPs.1)
        | (rw [(show x = 3 from h1)]; rw [if_neg (by decide)]; rw [if_neg (by decide)]; rw [if_neg (by decide)]; rw [if_pos rfl]; exact hT)
        | (rw [(show x = 4 from h1)]; rw [if_neg (by decide)]; rw [if_neg (by decide)]; rw [if_neg (by decide)]; rw [if_neg (by decide)]; rw [if_pos rfl]; exact x4)
        | (rw [(show x = 5 from h1)]; rw [if_neg (by decide)]; rw [if_neg (by decide)]; rw [if_neg (by decide)]; rw [if_neg (by decide)]; rw [if_neg (by decide)]; rw [if_pos rfl]; exact hL)
        | (rw [(show x = 6 from h1)]; rw [if_neg (by decide)]; rw [if_neg (by decide)]; rw [if_neg (by decide)]; rw [if_neg (by decide)]; rw [if_neg (by decide)]; rw [if_neg (by decide)]; rw [if_pos rfl]; exact hM)
        | (rw [if_neg (show ¬ x = 0 from swn 0 h1 (by decide) (by decide)), if_neg (show ¬ x = 1 from swn 1 h1 (by decide) (by decide)), if_neg (show ¬ x = 2 from swn 2 h1 (by decide) (by decide)), if_neg (show ¬ x = 3 from swn 3 h1 (by decide) (by decide)), if_neg (show ¬ x = 4 from swn 4 h1 (by decide) (by decide)), if_neg (show ¬ x = 5 from swn 5 h1 (by decide) (by decide)), if_neg (show ¬ x = 6 from swn 6 h1 (by decide) (by decide))]; done)
    · refine ⟨_, 60, rfl, by decide, ?_⟩
      refine r_aload_n (i := 0) hK dX9_told_60 rfl rfl ?_
      refine r_getA hK flX9_26 to_0 rfl dX9_told_61 ?_
      refine r_getI hK flX9_113 to_13 rfl dX9_told_64 ?_
      refine q_iret hK hR dX9_told_67 ?_
      refine ⟨?_, rfl⟩
      unfold aTol
      first
        | (rw [(show x = 0 from h1)]; rw [if_pos rfl]; exact x1)
        | (rw [(show x = 1 from h1)]; rw [if_neg (by decide)]; rw [if_pos rfl]; exact hW.1)
        | (rw [(show x = 2 from h1)]; rw [if_neg (by decide)]; rw [if_neg (by decide)]; rw [if_pos rfl]; exact hPs.1)
        | (rw [(show x = 3 from h1)]; rw [if_neg (by decide)]; rw [if_neg (by decide)]; rw [if_neg (by decide)]; rw [if_pos rfl]; exact hT)
        | (rw [(show x = 4 from h1)]; rw [if_neg (by decide)]; rw [if_neg (by decide)]; rw [if_neg (by decide)]; rw [if_neg (by decide)]; rw [if_pos rfl]; exact x4)
        | (rw [(show x = 5 from h1)]; rw [if_neg (by decide)]; rw [if_neg (by decide)]; rw [if_neg (by decide)]; rw [if_neg (by decide)]; rw [if_neg (by decide)]; rw [if_pos rfl]; exact hL)
        | (rw [(show x = 6 from h1)]; rw [if_neg (by decide)]; rw [if_neg (by decide)]; rw [if_neg (by decide)]; rw [if_neg (by decide)]; rw [if_neg (by decide)]; rw [if_neg (by decide)]; rw [if_pos rfl]; exact hM)
        | (rw [if_neg (show ¬ x = 0 from swn 0 h1 (by decide) (by decide)), if_neg (show ¬ x = 1 from swn 1 h1 (by decide) (by decide)), if_neg (show ¬ x = 2 from swn 2 h1 (by decide) (by decide)), if_neg (show ¬ x = 3 from swn 3 h1 (by decide) (by decide)), if_neg (show ¬ x = 4 from swn 4 h1 (by decide) (by decide)), if_neg (show ¬ x = 5 from swn 5 h1 (by decide) (by decide)), if_neg (show ¬ x = 6 from swn 6 h1 (by decide) (by decide))]; done)
    · refine ⟨_, 68, rfl, by decide, ?_⟩
      refine r_aload_n (i := 0) hK dX9_told_68 rfl rfl ?_
      refine r_getA hK flX9_12 to_0 rfl dX9_told_69 ?_
      refine r_getI hK flX9_77 to_1 rfl dX9_told_72 ?_
      refine q_iret hK hR dX9_told_75 ?_
      refine ⟨?_, rfl⟩
      unfold aTol
      first
        | (rw [(show x = 0 from h1)]; rw [if_pos rfl]; exact x1)
        | (rw [(show x = 1 from h1)]; rw [if_neg (by decide)]; rw [if_pos rfl]; exact hW.1)
        | (rw [(show x = 2 from h1)]; rw [if_neg (by decide)]; rw [if_neg (by decide)]; rw [if_pos rfl]; exact hPs.1)
        | (rw [(show x = 3 from h1)]; rw [if_neg (by decide)]; rw [if_neg (by decide)]; rw [if_neg (by decide)]; rw [if_pos rfl]; exact hT)
        | (rw [(show x = 4 from h1)]; rw [if_neg (by decide)]; rw [if_neg (by decide)]; rw [if_neg (by decide)]; rw [if_neg (by decide)]; rw [if_pos rfl]; exact x4)
        | (rw [(show x = 5 from h1)]; rw [if_neg (by decide)]; rw [if_neg (by decide)]; rw [if_neg (by decide)]; rw [if_neg (by decide)]; rw [if_neg (by decide)]; rw [if_pos rfl]; exact hL)
        | (rw [(show x = 6 from h1)]; rw [if_neg (by decide)]; rw [if_neg (by decide)]; rw [if_neg (by decide)]; rw [if_neg (by decide)]; rw [if_neg (by decide)]; rw [if_neg (by decide)]; rw [if_pos rfl]; exact hM)
        | (rw [if_neg (show ¬ x = 0 from swn 0 h1 (by decide) (by decide)), if_neg (show ¬ x = 1 from swn 1 h1 (by decide) (by decide)), if_neg (show ¬ x = 2 from swn 2 h1 (by decide) (by decide)), if_neg (show ¬ x = 3 from swn 3 h1 (by decide) (by decide)), if_neg (show ¬ x = 4 from swn 4 h1 (by decide) (by decide)), if_neg (show ¬ x = 5 from swn 5 h1 (by decide) (by decide)), if_neg (show ¬ x = 6 from swn 6 h1 (by decide) (by decide))]; done)
    · refine ⟨_, 76, rfl, by decide, ?_⟩
      refine r_aload_n (i := 0) hK dX9_told_76 rfl rfl ?_
      refine r_getI hK flX9_116 to_0 rfl dX9_told_77 ?_
      refine q_iret hK hR dX9_told_80 ?_
      refine ⟨?_, rfl⟩
      unfold aTol
      first
        | (rw [(show x = 0 from h1)]; rw [if_pos rfl]; exact x1)
        | (rw [(show x = 1 from h1)]; rw [if_neg (by decide)]; rw [if_pos rfl]; exact hW.1)
        | (rw [(show x = 2 from h1)]; rw [if_neg (by decide)]; rw [if_neg (by decide)]; rw [if_pos rfl]; exact hPs.1)
        | (rw [(show x = 3 from h1)]; rw [if_neg (by decide)]; rw [if_neg (by decide)]; rw [if_neg (by decide)]; rw [if_pos rfl]; exact hT)
        | (rw [(show x = 4 from h1)]; rw [if_neg (by decide)]; rw [if_neg (by decide)]; rw [if_neg (by decide)]; rw [if_neg (by decide)]; rw [if_pos rfl]; exact x4)
        | (rw [(show x = 5 from h1)]; rw [if_neg (by decide)]; rw [if_neg (by decide)]; rw [if_neg (by decide)]; rw [if_neg (by decide)]; rw [if_neg (by decide)]; rw [if_pos rfl]; exact hL)
        | (rw [(show x = 6 from h1)]; rw [if_neg (by decide)]; rw [if_neg (by decide)]; rw [if_neg (by decide)]; rw [if_neg (by decide)]; rw [if_neg (by decide)]; rw [if_neg (by decide)]; rw [if_pos rfl]; exact hM)
        | (rw [if_neg (show ¬ x = 0 from swn 0 h1 (by decide) (by decide)), if_neg (show ¬ x = 1 from swn 1 h1 (by decide) (by decide)), if_neg (show ¬ x = 2 from swn 2 h1 (by decide) (by decide)), if_neg (show ¬ x = 3 from swn 3 h1 (by decide) (by decide)), if_neg (show ¬ x = 4 from swn 4 h1 (by decide) (by decide)), if_neg (show ¬ x = 5 from swn 5 h1 (by decide) (by decide)), if_neg (show ¬ x = 6 from swn 6 h1 (by decide) (by decide))]; done)
    · refine ⟨_, 81, rfl, by decide, ?_⟩
      refine r_aload_n (i := 0) hK dX9_told_81 rfl rfl ?_
      refine r_getA hK flX9_65 to_0 rfl dX9_told_82 ?_
      refine r_getI hK flX9_119 to_77 rfl dX9_told_85 ?_
      refine q_iret hK hR dX9_told_88 ?_
      refine ⟨?_, rfl⟩
      unfold aTol
      first
        | (rw [(show x = 0 from h1)]; rw [if_pos rfl]; exact x1)
        | (rw [(show x = 1 from h1)]; rw [if_neg (by decide)]; rw [if_pos rfl]; exact hW.1)
        | (rw [(show x = 2 from h1)]; rw [if_neg (by decide)]; rw [if_neg (by decide)]; rw [if_pos rfl]; exact hPs.1)
        | (rw [(show x = 3 from h1)]; rw [if_neg (by decide)]; rw [if_neg (by decide)]; rw [if_neg (by decide)]; rw [if_pos rfl]; exact hT)
        | (rw [(show x = 4 from h1)]; rw [if_neg (by decide)]; rw [if_neg (by decide)]; rw [if_neg (by decide)]; rw [if_neg (by decide)]; rw [if_pos rfl]; exact x4)
        | (rw [(show x = 5 from h1)]; rw [if_neg (by decide)]; rw [if_neg (by decide)]; rw [if_neg (by decide)]; rw [if_neg (by decide)]; rw [if_neg (by decide)]; rw [if_pos rfl]; exact hL)
        | (rw [(show x = 6 from h1)]; rw [if_neg (by decide)]; rw [if_neg (by decide)]; rw [if_neg (by decide)]; rw [if_neg (by decide)]; rw [if_neg (by decide)]; rw [if_neg (by decide)]; rw [if_pos rfl]; exact hM)
        | (rw [if_neg (show ¬ x = 0 from swn 0 h1 (by decide) (by decide)), if_neg (show ¬ x = 1 from swn 1 h1 (by decide) (by decide)), if_neg (show ¬ x = 2 from swn 2 h1 (by decide) (by decide)), if_neg (show ¬ x = 3 from swn 3 h1 (by decide) (by decide)), if_neg (show ¬ x = 4 from swn 4 h1 (by decide) (by decide)), if_neg (show ¬ x = 5 from swn 5 h1 (by decide) (by decide)), if_neg (show ¬ x = 6 from swn 6 h1 (by decide) (by decide))]; done)
    · refine ⟨_, 89, rfl, by decide, ?_⟩
      refine r_aload_n (i := 0) hK dX9_told_89 rfl rfl ?_
      refine r_getA hK flX9_65 to_0 rfl dX9_told_90 ?_
      refine r_getI hK flX9_122 to_77 rfl dX9_told_93 ?_
      refine q_iret hK hR dX9_told_96 ?_
      refine ⟨?_, rfl⟩
      unfold aTol
      first
        | (rw [(show x = 0 from h1)]; rw [if_pos rfl]; exact x1)
        | (rw [(show x = 1 from h1)]; rw [if_neg (by decide)]; rw [if_pos rfl]; exact hW.1)
        | (rw [(show x = 2 from h1)]; rw [if_neg (by decide)]; rw [if_neg (by decide)]; rw [if_pos rfl]; exact hPs.1)
        | (rw [(show x = 3 from h1)]; rw [if_neg (by decide)]; rw [if_neg (by decide)]; rw [if_neg (by decide)]; rw [if_pos rfl]; exact hT)
        | (rw [(show x = 4 from h1)]; rw [if_neg (by decide)]; rw [if_neg (by decide)]; rw [if_neg (by decide)]; rw [if_neg (by decide)]; rw [if_pos rfl]; exact x4)
        | (rw [(show x = 5 from h1)]; rw [if_neg (by decide)]; rw [if_neg (by decide)]; rw [if_neg (by decide)]; rw [if_neg (by decide)]; rw [if_neg (by decide)]; rw [if_pos rfl]; exact hL)
        | (rw [(show x = 6 from h1)]; rw [if_neg (by decide)]; rw [if_neg (by decide)]; rw [if_neg (by decide)]; rw [if_neg (by decide)]; rw [if_neg (by decide)]; rw [if_neg (by decide)]; rw [if_pos rfl]; exact hM)
        | (rw [if_neg (show ¬ x = 0 from swn 0 h1 (by decide) (by decide)), if_neg (show ¬ x = 1 from swn 1 h1 (by decide) (by decide)), if_neg (show ¬ x = 2 from swn 2 h1 (by decide) (by decide)), if_neg (show ¬ x = 3 from swn 3 h1 (by decide) (by decide)), if_neg (show ¬ x = 4 from swn 4 h1 (by decide) (by decide)), if_neg (show ¬ x = 5 from swn 5 h1 (by decide) (by decide)), if_neg (show ¬ x = 6 from swn 6 h1 (by decide) (by decide))]; done)
set_option maxHeartbeats 4000000 in
set_option maxRecDepth 100000 in
theorem c_fault {ad : Nat → Nat} {g : St}  : Ci 1 mX9_fault [.ref 0] ad g (fun v g' => v = g.1 3 3 ∧ g' = g) := by
  refine Cm.mk rfl (Nat.le_of_ble_eq_true rfl) (fun K hK hR hm hnn => ?_)
  refine r_aload_n (i := 0) hK dX9_fault_0 rfl rfl ?_
  refine r_getA hK flX9_19 to_0 rfl dX9_fault_1 ?_
  refine r_getI hK flX9_107 to_3 rfl dX9_fault_4 ?_
  refine q_iret hK hR dX9_fault_7 ?_
  exact ⟨rfl, rfl⟩
set_option maxHeartbeats 4000000 in
set_option maxRecDepth 100000 in
theorem c_seed {ad : Nat → Nat} {g : St} {s : Nat} {v : Int32} (hsd : g.1 76 0 = nI s) : Ci 1 mX9_seed [.ref 0, .int v] ad g (fun r g' => r = aSee s v ∧ g' = (if v < 0 then g else upI g 76 0 v)) := by
  refine Cm.mk rfl (Nat.le_of_ble_eq_true rfl) (fun K hK hR hm hnn => ?_)
  refine r_iload_n (i := 1) hK dX9_seed_0 rfl rfl ?_
  refine r_if_ge (tgt := 7) hK dX9_seed_1 (by decide) (fun h1 => ?_) (fun h1 => ?_)
  · refine r_aload_n (i := 0) hK dX9_seed_7 rfl rfl ?_
    refine r_getA hK flX9_58 to_0 rfl dX9_seed_8 ?_
    refine r_getI hK flX9_306 to_76 rfl dX9_seed_11 ?_
    refine r_istore_n (i := 2) hK hm dX9_seed_14 rfl (by decide) ?_
    refine r_aload_n (i := 0) hK dX9_seed_15 rfl rfl ?_
    refine r_getA hK flX9_58 to_0 rfl dX9_seed_16 ?_
    refine r_iload_n (i := 1) hK dX9_seed_19 rfl rfl ?_
    refine r_putI hK flX9_306 ft0_0 to_76 rfl dX9_seed_20 ?_
    refine r_iload_n (i := 2) hK dX9_seed_23 rfl rfl ?_
    refine q_iret hK hR dX9_seed_24 ?_
    unfold aSee
    first
      | (rw [if_neg (Int32.not_lt.mpr h1), if_neg (Int32.not_lt.mpr h1)]; exact ⟨hsd, rfl⟩)
      | (rw [if_pos (Int32.not_le.mp h1), if_pos (Int32.not_le.mp h1)]; exact ⟨rfl, rfl⟩)
  · refine r_ldc hK ckX9_76 dX9_seed_4 ?_
    refine q_iret hK hR dX9_seed_6 ?_
    unfold aSee
    first
      | (rw [if_neg (Int32.not_lt.mpr h1), if_neg (Int32.not_lt.mpr h1)]; exact ⟨hsd, rfl⟩)
      | (rw [if_pos (Int32.not_le.mp h1), if_pos (Int32.not_le.mp h1)]; exact ⟨rfl, rfl⟩)
set_option maxHeartbeats 4000000 in
set_option maxRecDepth 100000 in
theorem c_clear {ad : Nat → Nat} {g : St} {L M : Nat} (hL : g.1 77 6 = nI L) (hM : g.1 77 7 = nI M) : Ci 2 mX9_clear [.ref 0] ad g (fun v g' => v = nI (L + M) ∧ g' = upI (upI g 77 6 0) 77 7 0) := by
  refine Cm.mk rfl (Nat.le_of_ble_eq_true rfl) (fun K hK hR hm hnn => ?_)
  refine r_aload_n (i := 0) hK dX9_clear_0 rfl rfl ?_
  refine r_getA hK flX9_65 to_0 rfl dX9_clear_1 ?_
  refine r_getI hK flX9_119 to_77 rfl dX9_clear_4 ?_
  refine r_aload_n (i := 0) hK dX9_clear_7 rfl rfl ?_
  refine r_getA hK flX9_65 to_0 rfl dX9_clear_8 ?_
  refine r_getI hK flX9_122 to_77 rfl dX9_clear_11 ?_
  refine r_iadd hK dX9_clear_14 ?_
  refine r_top (y := nI (L + M)) (by rw [hL, hM]; exact nI_add _ _) ?_
  refine r_istore_n (i := 1) hK hm dX9_clear_15 rfl (by decide) ?_
  refine r_aload_n (i := 0) hK dX9_clear_16 rfl rfl ?_
  refine r_getA hK flX9_65 to_0 rfl dX9_clear_17 ?_
  refine r_cv0 hK hnn c_forget moX3_forget mlX9_97 to_77 rfl rfl dX9_clear_20 (Nat.le_of_ble_eq_true rfl) (Nat.le_of_ble_eq_true rfl) (eqV ?_)
  refine r_iload_n (i := 1) hK dX9_clear_23 rfl rfl ?_
  refine q_iret hK hR dX9_clear_24 ?_
  exact ⟨rfl, rfl⟩
set_option maxHeartbeats 4000000 in
set_option maxRecDepth 100000 in
theorem c_missing {ad : Nat → Nat} {g : St} {X : LN} (hX : LC g X) {p m : Int32} : Ci 7 mX9_missing [.ref 0, .int p, .int m] ad g (fun v g' => v = aMis X p m ∧ Fr g g') := by
  obtain ⟨hok, hpo, hlaw, x1, hW, hPs, x4⟩ := id hX
  have h10 := hok.2.1
  have h6 := hpo.1
  have h14 := hok.1
  refine Cm.mk rfl (Nat.le_of_ble_eq_true rfl) (fun K hK hR hm hnn => ?_)
  refine r_aload_n (i := 0) hK dX9_missing_0 rfl rfl ?_
  refine r_getA hK flX9_26 to_0 rfl dX9_missing_1 ?_
  refine r_iload_n (i := 1) hK dX9_missing_4 rfl rfl ?_
  refine r_ci1 hK hnn (c_hasPerson lp_13 hPs.1) moX4_hasPerson mlX9_144 to_13 rfl rfl dX9_missing_5 (Nat.le_of_ble_eq_true rfl) (Nat.le_of_ble_eq_true rfl) (eqI ?_)
  refine r_if_ne (tgt := 14) hK dX9_missing_8 (by decide) (fun h8 => ?_) (fun h8 => ?_)
  · refine r_iload_n (i := 2) hK dX9_missing_14 rfl rfl ?_
    refine r_if_lt (tgt := 25) hK dX9_missing_15 (by decide) (fun h15 => ?_) (fun h15 => ?_)
    · refine r_ldc hK ckX9_76 dX9_missing_25 ?_
      refine r_goto (tgt := 36) hK dX9_missing_27 (by decide) ?_
      refine q_iret hK hR dX9_missing_36 ?_
      first
        | (refine ⟨?_, hfr⟩; unfold aMis; rw [if_pos hb, if_neg hor]; done)
        | (refine ⟨?_, Fr.rf⟩; unfold aMis; first | (rw [if_pos (B1_n.mp h8), if_pos (Or.inl h15)]; done) | (rw [if_pos (B1_n.mp h8), if_pos (Or.inr (Int32.not_le.mp h22))]; done))
    · refine r_iload_n (i := 2) hK dX9_missing_18 rfl rfl ?_
      refine r_sipush (v := 999) hK dX9_missing_19 (by decide) ?_
      refine r_icmp_le (tgt := 30) hK dX9_missing_22 (by decide) (fun h22 => ?_) (fun h22 => ?_)
      · refine r_aload_n (i := 0) hK dX9_missing_30 rfl rfl ?_
        have hb := B1_n.mp h8
        obtain ⟨hj, hwn⟩ := isB_cl (by omega) hb
        have hor : ¬ (m < 0 ∨ 999 < m) := (fun z => z.elim h15 (fun y => absurd h22 (Int32.not_le.mpr y)))
        have hm1 : isB m 1000 = true := by
          unfold isB
          have e : m < nI 1000 := by
            rw [Int32.lt_iff_toInt_lt, nI_toInt (by decide)]
            have := Int32.le_iff_toInt_le.mp h22
            rw [show (999 : Int32) = nI 999 from rfl, nI_toInt (by decide)] at this
            omega
          rw [decide_eq_false h15, decide_eq_true e]; rfl
        obtain ⟨hm2, hm3⟩ := isB_cl (by decide) hm1
        refine r_iload_n (i := 1) hK dX9_missing_31 rfl rfl ?_
        refine r_iload_n (i := 2) hK dX9_missing_32 rfl rfl ?_
        refine r_ci2 hK hnn (c_askedFor hX hwn hj hm3 (by omega)) moX9_askedFor mlX9_268 to_0 rfl rfl dX9_missing_33 (Nat.le_of_ble_eq_true rfl) (Nat.le_of_ble_eq_true rfl) (fun v33 g33 q33 => ?_)
        obtain ⟨rfl, hfr⟩ := q33
        refine q_iret hK hR dX9_missing_36 ?_
        first
          | (refine ⟨?_, hfr⟩; unfold aMis; rw [if_pos hb, if_neg hor]; done)
          | (refine ⟨?_, Fr.rf⟩; unfold aMis; first | (rw [if_pos (B1_n.mp h8), if_pos (Or.inl h15)]; done) | (rw [if_pos (B1_n.mp h8), if_pos (Or.inr (Int32.not_le.mp h22))]; done))
      · refine r_ldc hK ckX9_76 dX9_missing_25 ?_
        refine r_goto (tgt := 36) hK dX9_missing_27 (by decide) ?_
        refine q_iret hK hR dX9_missing_36 ?_
        first
          | (refine ⟨?_, hfr⟩; unfold aMis; rw [if_pos hb, if_neg hor]; done)
          | (refine ⟨?_, Fr.rf⟩; unfold aMis; first | (rw [if_pos (B1_n.mp h8), if_pos (Or.inl h15)]; done) | (rw [if_pos (B1_n.mp h8), if_pos (Or.inr (Int32.not_le.mp h22))]; done))
  · refine r_ldc hK ckX9_129 dX9_missing_11 ?_
    refine q_iret hK hR dX9_missing_13 ?_
    refine ⟨?_, Fr.rf⟩
    unfold aMis
    first
      | (rw [if_neg (by rw [B1_0.mp h8]; decide)]; done)
      | (rw [if_pos (B1_n.mp h8), if_pos (Or.inl h15)]; done)
      | (rw [if_pos (B1_n.mp h8), if_pos (Or.inr (Int32.not_le.mp h22))]; done)
set_option maxHeartbeats 4000000 in
set_option maxRecDepth 100000 in
theorem c_lack {ad : Nat → Nat} {g : St} {X : LN} (hX : LC g X) {p m : Int32} {M : Nat} (hM : g.1 77 7 = nI M) (hMb : M ≤ 8) : Ci 3 mX9_lack [.ref 0, .int p, .int m] ad g (fun v g' => v = aLac X M p m ∧ g' = gLac X M p m g) := by
  obtain ⟨hok, hpo, hlaw, x1, hW, hPs, x4⟩ := id hX
  have h10 := hok.2.1
  have h6 := hpo.1
  have h14 := hok.1
  refine Cm.mk rfl (Nat.le_of_ble_eq_true rfl) (fun K hK hR hm hnn => ?_)
  refine r_aload_n (i := 0) hK dX9_lack_0 rfl rfl ?_
  refine r_getA hK flX9_26 to_0 rfl dX9_lack_1 ?_
  refine r_iload_n (i := 1) hK dX9_lack_4 rfl rfl ?_
  refine r_ci1 hK hnn (c_hasPerson lp_13 hPs.1) moX4_hasPerson mlX9_144 to_13 rfl rfl dX9_lack_5 (Nat.le_of_ble_eq_true rfl) (Nat.le_of_ble_eq_true rfl) (eqI ?_)
  refine r_if_ne (tgt := 14) hK dX9_lack_8 (by decide) (fun h8 => ?_) (fun h8 => ?_)
  · refine r_iload_n (i := 2) hK dX9_lack_14 rfl rfl ?_
    refine r_if_lt (tgt := 25) hK dX9_lack_15 (by decide) (fun h15 => ?_) (fun h15 => ?_)
    · refine r_ldc hK ckX9_76 dX9_lack_25 ?_
      refine q_iret hK hR dX9_lack_27 ?_
      unfold aLac gLac
      first
        | (rw [if_neg (by rw [B1_0.mp h8]; decide), if_neg (by rw [B1_0.mp h8]; decide)]; exact ⟨rfl, rfl⟩)
        | (rw [if_pos (B1_n.mp h8), if_pos (Or.inl h15), if_pos (B1_n.mp h8), if_pos (Or.inl h15)]; exact ⟨rfl, rfl⟩)
        | (rw [if_pos (B1_n.mp h8), if_pos (Or.inr (Int32.not_le.mp h22)), if_pos (B1_n.mp h8), if_pos (Or.inr (Int32.not_le.mp h22))]; exact ⟨rfl, rfl⟩)
        | (rw [if_pos (B1_n.mp h8), if_pos (B1_n.mp h8), if_neg hor, if_neg hor]; exact ⟨rfl, rfl⟩)
    · refine r_iload_n (i := 2) hK dX9_lack_18 rfl rfl ?_
      refine r_sipush (v := 999) hK dX9_lack_19 (by decide) ?_
      refine r_icmp_le (tgt := 28) hK dX9_lack_22 (by decide) (fun h22 => ?_) (fun h22 => ?_)
      · refine r_aload_n (i := 0) hK dX9_lack_28 rfl rfl ?_
        have hor : ¬ (m < 0 ∨ 999 < m) := (fun z => z.elim h15 (fun y => absurd h22 (Int32.not_le.mpr y)))
        refine r_getA hK flX9_65 to_0 rfl dX9_lack_29 ?_
        refine r_iload_n (i := 1) hK dX9_lack_32 rfl rfl ?_
        refine r_iload_n (i := 2) hK dX9_lack_33 rfl rfl ?_
        refine r_ci2 hK hnn (c_addMissed hM hMb) moX3_addMissed mlX9_271 to_77 rfl rfl dX9_lack_34 (Nat.le_of_ble_eq_true rfl) (Nat.le_of_ble_eq_true rfl) (eqI ?_)
        refine q_iret hK hR dX9_lack_37 ?_
        unfold aLac gLac
        first
          | (rw [if_neg (by rw [B1_0.mp h8]; decide), if_neg (by rw [B1_0.mp h8]; decide)]; exact ⟨rfl, rfl⟩)
          | (rw [if_pos (B1_n.mp h8), if_pos (Or.inl h15), if_pos (B1_n.mp h8), if_pos (Or.inl h15)]; exact ⟨rfl, rfl⟩)
          | (rw [if_pos (B1_n.mp h8), if_pos (Or.inr (Int32.not_le.mp h22)), if_pos (B1_n.mp h8), if_pos (Or.inr (Int32.not_le.mp h22))]; exact ⟨rfl, rfl⟩)
          | (rw [if_pos (B1_n.mp h8), if_pos (B1_n.mp h8), if_neg hor, if_neg hor]; exact ⟨rfl, rfl⟩)
      · refine r_ldc hK ckX9_76 dX9_lack_25 ?_
        refine q_iret hK hR dX9_lack_27 ?_
        unfold aLac gLac
        first
          | (rw [if_neg (by rw [B1_0.mp h8]; decide), if_neg (by rw [B1_0.mp h8]; decide)]; exact ⟨rfl, rfl⟩)
          | (rw [if_pos (B1_n.mp h8), if_pos (Or.inl h15), if_pos (B1_n.mp h8), if_pos (Or.inl h15)]; exact ⟨rfl, rfl⟩)
          | (rw [if_pos (B1_n.mp h8), if_pos (Or.inr (Int32.not_le.mp h22)), if_pos (B1_n.mp h8), if_pos (Or.inr (Int32.not_le.mp h22))]; exact ⟨rfl, rfl⟩)
          | (rw [if_pos (B1_n.mp h8), if_pos (B1_n.mp h8), if_neg hor, if_neg hor]; exact ⟨rfl, rfl⟩)
  · refine r_ldc hK ckX9_129 dX9_lack_11 ?_
    refine q_iret hK hR dX9_lack_13 ?_
    unfold aLac gLac
    first
      | (rw [if_neg (by rw [B1_0.mp h8]; decide), if_neg (by rw [B1_0.mp h8]; decide)]; exact ⟨rfl, rfl⟩)
      | (rw [if_pos (B1_n.mp h8), if_pos (Or.inl h15), if_pos (B1_n.mp h8), if_pos (Or.inl h15)]; exact ⟨rfl, rfl⟩)
      | (rw [if_pos (B1_n.mp h8), if_pos (Or.inr (Int32.not_le.mp h22)), if_pos (B1_n.mp h8), if_pos (Or.inr (Int32.not_le.mp h22))]; exact ⟨rfl, rfl⟩)
      | (rw [if_pos (B1_n.mp h8), if_pos (B1_n.mp h8), if_neg hor, if_neg hor]; exact ⟨rfl, rfl⟩)
set_option maxHeartbeats 4000000 in
set_option maxRecDepth 100000 in
theorem c_log {ad : Nat → Nat} {g : St} {X : LN} (hX : LC g X) {p t k q : Int32} {L : Nat} (hL : g.1 77 6 = nI L) (hLb : L ≤ 30) : Ci 3 mX9_log [.ref 0, .int p, .int t, .int k, .int q] ad g (fun v g' => v = aLog X L p t k q ∧ g' = gLog X L p t k q g) := by
  obtain ⟨hok, hpo, hlaw, x1, hW, hPs, x4⟩ := id hX
  have h10 := hok.2.1
  have h6 := hpo.1
  have h14 := hok.1
  refine Cm.mk rfl (Nat.le_of_ble_eq_true rfl) (fun K hK hR hm hnn => ?_)
  refine r_aload_n (i := 0) hK dX9_log_0 rfl rfl ?_
  refine r_getA hK flX9_26 to_0 rfl dX9_log_1 ?_
  refine r_iload_n (i := 1) hK dX9_log_4 rfl rfl ?_
  refine r_ci1 hK hnn (c_hasPerson lp_13 hPs.1) moX4_hasPerson mlX9_144 to_13 rfl rfl dX9_log_5 (Nat.le_of_ble_eq_true rfl) (Nat.le_of_ble_eq_true rfl) (eqI ?_)
  refine r_if_eq (tgt := 34) hK dX9_log_8 (by decide) (fun h8 => ?_) (fun h8 => ?_)
  · refine r_ldc hK ckX9_129 dX9_log_34 ?_
    refine q_iret hK hR dX9_log_36 ?_
    unfold aLog gLog
    first
      | (have hb : ¬ (isB p X.2.2.1.1 && (isB t X.1 && isB q X.1)) = true := (by rw [B1_0.mp h8]; simp); rw [if_neg hb, if_neg hb]; exact ⟨rfl, rfl⟩)
      | (have hb : ¬ (isB p X.2.2.1.1 && (isB t X.1 && isB q X.1)) = true := (by rw [B1_0.mp h19]; simp); rw [if_neg hb, if_neg hb]; exact ⟨rfl, rfl⟩)
      | (have hb : ¬ (isB p X.2.2.1.1 && (isB t X.1 && isB q X.1)) = true := (by rw [B1_0.mp h31]; simp); rw [if_neg hb, if_neg hb]; exact ⟨rfl, rfl⟩)
      | (rw [if_pos hb, if_pos hb, if_pos (Or.inl h38), if_pos (Or.inl h38)]; exact ⟨rfl, rfl⟩)
      | (rw [if_pos hb, if_pos hb, if_pos (Or.inr (Int32.not_le.mp h44)), if_pos (Or.inr (Int32.not_le.mp h44))]; exact ⟨rfl, rfl⟩)
      | (have hor : ¬ (k < 0 ∨ 9 < k) := (fun z => z.elim h38 (fun y => absurd h44 (Int32.not_le.mpr y))); rw [if_pos hb, if_pos hb, if_neg hor, if_neg hor]; exact ⟨rfl, rfl⟩)
  · refine r_aload_n (i := 0) hK dX9_log_11 rfl rfl ?_
    refine r_getA hK flX9_26 to_0 rfl dX9_log_12 ?_
    refine r_iload_n (i := 2) hK dX9_log_15 rfl rfl ?_
    refine r_ci1 hK hnn (c_hasPlace lp_13 x1) moX4_hasPlace mlX9_162 to_13 rfl rfl dX9_log_16 (Nat.le_of_ble_eq_true rfl) (Nat.le_of_ble_eq_true rfl) (eqI ?_)
    refine r_if_eq (tgt := 34) hK dX9_log_19 (by decide) (fun h19 => ?_) (fun h19 => ?_)
    · refine r_ldc hK ckX9_129 dX9_log_34 ?_
      refine q_iret hK hR dX9_log_36 ?_
      unfold aLog gLog
      first
        | (have hb : ¬ (isB p X.2.2.1.1 && (isB t X.1 && isB q X.1)) = true := (by rw [B1_0.mp h8]; simp); rw [if_neg hb, if_neg hb]; exact ⟨rfl, rfl⟩)
        | (have hb : ¬ (isB p X.2.2.1.1 && (isB t X.1 && isB q X.1)) = true := (by rw [B1_0.mp h19]; simp); rw [if_neg hb, if_neg hb]; exact ⟨rfl, rfl⟩)
        | (have hb : ¬ (isB p X.2.2.1.1 && (isB t X.1 && isB q X.1)) = true := (by rw [B1_0.mp h31]; simp); rw [if_neg hb, if_neg hb]; exact ⟨rfl, rfl⟩)
        | (rw [if_pos hb, if_pos hb, if_pos (Or.inl h38), if_pos (Or.inl h38)]; exact ⟨rfl, rfl⟩)
        | (rw [if_pos hb, if_pos hb, if_pos (Or.inr (Int32.not_le.mp h44)), if_pos (Or.inr (Int32.not_le.mp h44))]; exact ⟨rfl, rfl⟩)
        | (have hor : ¬ (k < 0 ∨ 9 < k) := (fun z => z.elim h38 (fun y => absurd h44 (Int32.not_le.mpr y))); rw [if_pos hb, if_pos hb, if_neg hor, if_neg hor]; exact ⟨rfl, rfl⟩)
    · refine r_aload_n (i := 0) hK dX9_log_22 rfl rfl ?_
      refine r_getA hK flX9_26 to_0 rfl dX9_log_23 ?_
      refine r_iload (i := 4) hK dX9_log_26 rfl ?_
      refine r_ci1 hK hnn (c_hasPlace lp_13 x1) moX4_hasPlace mlX9_162 to_13 rfl rfl dX9_log_28 (Nat.le_of_ble_eq_true rfl) (Nat.le_of_ble_eq_true rfl) (eqI ?_)
      refine r_if_ne (tgt := 37) hK dX9_log_31 (by decide) (fun h31 => ?_) (fun h31 => ?_)
      · refine r_iload_n (i := 3) hK dX9_log_37 rfl rfl ?_
        have hb : (isB p X.2.2.1.1 && (isB t X.1 && isB q X.1)) = true := by rw [B1_n.mp h8, B1_n.mp h19, B1_n.mp h31]; rfl
        refine r_if_lt (tgt := 47) hK dX9_log_38 (by decide) (fun h38 => ?_) (fun h38 => ?_)
        · refine r_ldc hK ckX9_76 dX9_log_47 ?_
          refine q_iret hK hR dX9_log_49 ?_
          unfold aLog gLog
          first
            | (have hb : ¬ (isB p X.2.2.1.1 && (isB t X.1 && isB q X.1)) = true := (by rw [B1_0.mp h8]; simp); rw [if_neg hb, if_neg hb]; exact ⟨rfl, rfl⟩)
            | (have hb : ¬ (isB p X.2.2.1.1 && (isB t X.1 && isB q X.1)) = true := (by rw [B1_0.mp h19]; simp); rw [if_neg hb, if_neg hb]; exact ⟨rfl, rfl⟩)
            | (have hb : ¬ (isB p X.2.2.1.1 && (isB t X.1 && isB q X.1)) = true := (by rw [B1_0.mp h31]; simp); rw [if_neg hb, if_neg hb]; exact ⟨rfl, rfl⟩)
            | (rw [if_pos hb, if_pos hb, if_pos (Or.inl h38), if_pos (Or.inl h38)]; exact ⟨rfl, rfl⟩)
            | (rw [if_pos hb, if_pos hb, if_pos (Or.inr (Int32.not_le.mp h44)), if_pos (Or.inr (Int32.not_le.mp h44))]; exact ⟨rfl, rfl⟩)
            | (have hor : ¬ (k < 0 ∨ 9 < k) := (fun z => z.elim h38 (fun y => absurd h44 (Int32.not_le.mpr y))); rw [if_pos hb, if_pos hb, if_neg hor, if_neg hor]; exact ⟨rfl, rfl⟩)
        · refine r_iload_n (i := 3) hK dX9_log_41 rfl rfl ?_
          refine r_bipush (v := 9) hK dX9_log_42 (by decide) ?_
          refine r_icmp_le (tgt := 50) hK dX9_log_44 (by decide) (fun h44 => ?_) (fun h44 => ?_)
          · refine r_aload_n (i := 0) hK dX9_log_50 rfl rfl ?_
            refine r_getA hK flX9_65 to_0 rfl dX9_log_51 ?_
            refine r_iload_n (i := 1) hK dX9_log_54 rfl rfl ?_
            refine r_iload_n (i := 2) hK dX9_log_55 rfl rfl ?_
            refine r_iload_n (i := 3) hK dX9_log_56 rfl rfl ?_
            refine r_iload (i := 4) hK dX9_log_57 rfl ?_
            refine r_ci4 hK hnn (c_addLogged hL hLb) moX3_addLogged mlX9_280 to_77 rfl rfl dX9_log_59 (Nat.le_of_ble_eq_true rfl) (Nat.le_of_ble_eq_true rfl) (eqI ?_)
            refine q_iret hK hR dX9_log_62 ?_
            unfold aLog gLog
            first
              | (have hb : ¬ (isB p X.2.2.1.1 && (isB t X.1 && isB q X.1)) = true := (by rw [B1_0.mp h8]; simp); rw [if_neg hb, if_neg hb]; exact ⟨rfl, rfl⟩)
              | (have hb : ¬ (isB p X.2.2.1.1 && (isB t X.1 && isB q X.1)) = true := (by rw [B1_0.mp h19]; simp); rw [if_neg hb, if_neg hb]; exact ⟨rfl, rfl⟩)
              | (have hb : ¬ (isB p X.2.2.1.1 && (isB t X.1 && isB q X.1)) = true := (by rw [B1_0.mp h31]; simp); rw [if_neg hb, if_neg hb]; exact ⟨rfl, rfl⟩)
              | (rw [if_pos hb, if_pos hb, if_pos (Or.inl h38), if_pos (Or.inl h38)]; exact ⟨rfl, rfl⟩)
              | (rw [if_pos hb, if_pos hb, if_pos (Or.inr (Int32.not_le.mp h44)), if_pos (Or.inr (Int32.not_le.mp h44))]; exact ⟨rfl, rfl⟩)
              | (have hor : ¬ (k < 0 ∨ 9 < k) := (fun z => z.elim h38 (fun y => absurd h44 (Int32.not_le.mpr y))); rw [if_pos hb, if_pos hb, if_neg hor, if_neg hor]; exact ⟨rfl, rfl⟩)
          · refine r_ldc hK ckX9_76 dX9_log_47 ?_
            refine q_iret hK hR dX9_log_49 ?_
            unfold aLog gLog
            first
              | (have hb : ¬ (isB p X.2.2.1.1 && (isB t X.1 && isB q X.1)) = true := (by rw [B1_0.mp h8]; simp); rw [if_neg hb, if_neg hb]; exact ⟨rfl, rfl⟩)
              | (have hb : ¬ (isB p X.2.2.1.1 && (isB t X.1 && isB q X.1)) = true := (by rw [B1_0.mp h19]; simp); rw [if_neg hb, if_neg hb]; exact ⟨rfl, rfl⟩)
              | (have hb : ¬ (isB p X.2.2.1.1 && (isB t X.1 && isB q X.1)) = true := (by rw [B1_0.mp h31]; simp); rw [if_neg hb, if_neg hb]; exact ⟨rfl, rfl⟩)
              | (rw [if_pos hb, if_pos hb, if_pos (Or.inl h38), if_pos (Or.inl h38)]; exact ⟨rfl, rfl⟩)
              | (rw [if_pos hb, if_pos hb, if_pos (Or.inr (Int32.not_le.mp h44)), if_pos (Or.inr (Int32.not_le.mp h44))]; exact ⟨rfl, rfl⟩)
              | (have hor : ¬ (k < 0 ∨ 9 < k) := (fun z => z.elim h38 (fun y => absurd h44 (Int32.not_le.mpr y))); rw [if_pos hb, if_pos hb, if_neg hor, if_neg hor]; exact ⟨rfl, rfl⟩)
      · refine r_ldc hK ckX9_129 dX9_log_34 ?_
        refine q_iret hK hR dX9_log_36 ?_
        unfold aLog gLog
        first
          | (have hb : ¬ (isB p X.2.2.1.1 && (isB t X.1 && isB q X.1)) = true := (by rw [B1_0.mp h8]; simp); rw [if_neg hb, if_neg hb]; exact ⟨rfl, rfl⟩)
          | (have hb : ¬ (isB p X.2.2.1.1 && (isB t X.1 && isB q X.1)) = true := (by rw [B1_0.mp h19]; simp); rw [if_neg hb, if_neg hb]; exact ⟨rfl, rfl⟩)
          | (have hb : ¬ (isB p X.2.2.1.1 && (isB t X.1 && isB q X.1)) = true := (by rw [B1_0.mp h31]; simp); rw [if_neg hb, if_neg hb]; exact ⟨rfl, rfl⟩)
          | (rw [if_pos hb, if_pos hb, if_pos (Or.inl h38), if_pos (Or.inl h38)]; exact ⟨rfl, rfl⟩)
          | (rw [if_pos hb, if_pos hb, if_pos (Or.inr (Int32.not_le.mp h44)), if_pos (Or.inr (Int32.not_le.mp h44))]; exact ⟨rfl, rfl⟩)
          | (have hor : ¬ (k < 0 ∨ 9 < k) := (fun z => z.elim h38 (fun y => absurd h44 (Int32.not_le.mpr y))); rw [if_pos hb, if_pos hb, if_neg hor, if_neg hor]; exact ⟨rfl, rfl⟩)
