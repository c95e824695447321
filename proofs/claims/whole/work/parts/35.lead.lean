theorem fb_andL (a b : Nat) : lN a &&& lN b = lN (a &&& b) := by
  apply Int64.toBitVec_inj.1
  show BitVec.ofNat 64 a &&& BitVec.ofNat 64 b = BitVec.ofNat 64 (a &&& b)
  apply BitVec.eq_of_getLsbD_eq
  intro i hi
  simp [hi]
theorem fb_maskL (n k : Nat) : lN n &&& lN (2 ^ k - 1) = lN (n % 2 ^ k) := by rw [fb_andL, Nat.and_two_pow_sub_one_eq_mod]
theorem or_nI (a b : Nat) : nI a ||| nI b = nI (a ||| b) := by
  apply Int32.toBitVec_inj.1
  show BitVec.ofNat 32 a ||| BitVec.ofNat 32 b = BitVec.ofNat 32 (a ||| b)
  apply BitVec.eq_of_getLsbD_eq
  intro i hi
  simp [hi]
theorem setbit {s p : Nat} (hp : p < 31) : nI s ||| ((1 : Int32) <<< (nI p &&& 31)) = nI (s ||| 1 <<< p) := by
  have h := pk_shlN (n := 1) (nI p &&& 31) p (sh_l p (by omega)) (by
    have := Nat.pow_lt_pow_right (a := 2) (by decide) hp
    rw [Nat.one_mul]
    exact Nat.lt_of_lt_of_le this (by decide))
  rw [show (1 : Int32) = nI 1 from rfl, h, or_nI, Nat.one_mul, Nat.one_shiftLeft]
/-- the next seed -/
def sdN (s : Nat) : Nat := (s * 1103515245 + 12345) % 2147483648
theorem sdN_lt {s : Nat} : sdN s < 2147483648 := Nat.mod_lt _ (by decide)

set_option maxHeartbeats 4000000 in
set_option maxRecDepth 100000 in
theorem c_next {ad : Nat → Nat} {g : St} {s n : Nat} {x : Int32} (hsd : g.1 76 0 = nI s) (hs : s < 2147483648) (hx : x = nI n) (h1 : 1 ≤ n) (hn : n < 2 ^ 31) : Ci 1 mX0_next [.ref 76, .int x] ad g (fun v g' => v = nI (sdN s / 65536 % n) ∧ g' = upI g 76 0 (nI (sdN s))) := by
  subst hx
  have hlt := sdN_lt (s := s)
  refine Cm.mk rfl (Nat.le_of_ble_eq_true rfl) (fun K hK hR hm hnn => ?_)
  refine r_aload_n (i := 0) hK dX0_next_0 rfl rfl ?_
  refine r_aload_n (i := 0) hK dX0_next_1 rfl rfl ?_
  refine r_getI hK flX0_7 to_76 rfl dX0_next_2 ?_
  refine r_top (y := nI s) hsd ?_
  refine r_i2l hK dX0_next_5 ?_
  refine r_topL (y := lN s) (nI_l hs) ?_
  refine r_ldc2 hK ckX0_13 dX0_next_6 ?_
  refine r_lmul hK dX0_next_9 ?_
  refine r_topL (y := lN (s * 1103515245)) (lN_mul _ _) ?_
  refine r_ldc2 hK ckX0_15 dX0_next_10 ?_
  refine r_ladd hK dX0_next_13 ?_
  refine r_topL (y := lN (s * 1103515245 + 12345)) (lN_add _ _) ?_
  refine r_ldc2 hK ckX0_17 dX0_next_14 ?_
  refine r_land hK dX0_next_17 ?_
  refine r_topL (y := lN (sdN s)) (fb_maskL _ 31) ?_
  refine r_l2i hK dX0_next_18 ?_
  refine r_top (y := nI (sdN s)) (lN_i _) ?_
  refine r_putI hK flX0_7 ft0_0 to_76 rfl dX0_next_19 ?_
  refine r_iload_n (i := 1) hK dX0_next_22 rfl rfl ?_
  refine r_iconst (v := 1) hK dX0_next_23 (by decide) ?_
  refine r_icmp_ge (tgt := 31) hK dX0_next_24 (by decide) (fun _ => ?_) (fun h => absurd (nI_leI (a := 1) (by decide) hn |>.mpr h1) h)
  refine r_aload_n (i := 0) hK dX0_next_31 rfl rfl ?_
  refine r_getI hK flX0_7 to_76 rfl dX0_next_32 ?_
  refine r_top (y := nI (sdN s)) (by rw [upI_s, upd_s]) ?_
  refine r_ldc hK ckX0_19 dX0_next_35 ?_
  refine r_idiv hK dX0_next_37 (by decide) ?_
  refine r_top (y := nI (sdN s / 65536)) (by rw [show (65536 : Int32) = nI 65536 from rfl, pk_div hlt (by decide) (by decide)]) ?_
  refine r_iload_n (i := 1) hK dX0_next_38 rfl rfl ?_
  refine r_irem hK dX0_next_39 (nI_ne0 (by omega) hn) ?_
  refine q_iret hK hR dX0_next_40 ?_
  refine ⟨?_, rfl⟩
  rw [pk_rem (Nat.lt_of_le_of_lt (Nat.div_le_self _ _) sdN_lt) (by omega) hn]
/-- how a stranger goes: (who led, where, minutes, how many led, seed) -/
abbrev LSt : Type := Nat × Nat × Nat × Nat × Nat
def ldM (P : PD) (V : VT) (S : LSt) : Nat := sp_cn (ldB P V S.2.1 S.1) P.1
def ldP (P : PD) (V : VT) (dr : Bool) (S : LSt) : Nat := ldI (ldB P V S.2.1 S.1) P.1 (if dr = true then sdN S.2.2.2.2 / 65536 % ldM P V S else 0)
def ldS (P : PD) (V : VT) (dr : Bool) (S : LSt) : LSt := (S.1 ||| 1 <<< ldP P V dr S, V.1 (ldP P V dr S), S.2.2.1 + V.2 (ldP P V dr S), S.2.2.2.1 + 1, if dr = true then sdN S.2.2.2.2 else S.2.2.2.2)
def ldF (P : PD) (V : VT) (t : Nat) (dr : Bool) : Nat → LSt → LSt
  | 0, S => S
  | n + 1, S => if S.2.1 = t then S else if ldM P V S = 0 then S else ldF P V t dr n (ldS P V dr S)
theorem sp_cn_kth {b : Nat → Bool} {i : Nat} : ∀ n, i < sp_cn b n → ∃ p, p < n ∧ b p = true ∧ sp_cn b p = i
  | 0, h => absurd h (Nat.not_lt_zero _)
  | n + 1, h => by
    rw [sp_cn_succ] at h
    by_cases c : i < sp_cn b n
    · obtain ⟨p, h1, h2⟩ := sp_cn_kth n c
      exact ⟨p, by omega, h2⟩
    · by_cases e : b n = true
      · rw [if_pos e] at h
        exact ⟨n, by omega, e, by omega⟩
      · rw [if_neg e] at h
        omega
theorem ldI_is {b : Nat → Bool} {n i : Nat} (h : i < sp_cn b n) : ldI b n i < n ∧ b (ldI b n i) = true ∧ sp_cn b (ldI b n i) = i := by
  obtain ⟨p, h1, h2, h3⟩ := sp_cn_kth n h
  obtain ⟨g1, g2, -⟩ := fdF_hit (p := fun p => b p && decide (sp_cn b p = i)) n 0 ⟨p, Nat.zero_le _, by omega, by simp [h2, h3]⟩
  simp only [Bool.and_eq_true, decide_eq_true_eq] at g1
  unfold ldI
  exact ⟨by omega, g1.1, g1.2⟩
theorem ldP_is {P : PD} {V : VT} {dr : Bool} {S : LSt} (h : ldM P V S ≠ 0) : ldP P V dr S < P.1 ∧ P.2.1 (ldP P V dr S) = S.2.1 ∧ V.1 (ldP P V dr S) < 10 ∧ S.1.testBit (ldP P V dr S) = false := by
  have h1 : (if dr = true then sdN S.2.2.2.2 / 65536 % ldM P V S else 0) < ldM P V S := by
    split
    · exact Nat.mod_lt _ (by omega)
    · omega
  obtain ⟨a, b, c⟩ := ldI_is h1
  exact ⟨a, ldB_iff.mp b⟩
/-- what is so while a stranger goes -/
def lsOk (np : Nat) (S : LSt) : Prop := S.1 < 64 ∧ S.2.1 < np ∧ S.2.2.1 ≤ 891 * S.2.2.2.1 ∧ S.2.2.2.1 ≤ 6 ∧ S.2.2.2.2 < 2147483648
theorem bit6 {s p : Nat} (hs : s < 64) (hp : p < 6) : s ||| 1 <<< p < 64 := by
  refine Nat.or_lt_two_pow (n := 6) hs ?_
  rw [Nat.one_shiftLeft]
  exact Nat.pow_lt_pow_right (by decide) hp
/-- the cells of a walk led -/
def lG (g : St) (o : Nat) (x y z s : Int32) : St := (fun j => if j = o then (fun k => if k = 6 then x else if k = 7 then y else if k = 8 then z else g.1 o k) else if j = 76 then upd (g.1 76) 0 s else g.1 j, g.2)
theorem lG_id {g : St} {o : Nat} : lG g o (g.1 o 6) (g.1 o 7) (g.1 o 8) (g.1 76 0) = g := by
  refine St_ext (fun j => ?_) rfl
  unfold lG
  dsimp only
  split
  · rename_i h; rw [h]; funext k
    split
    · rename_i e; rw [e]
    · split
      · rename_i e; rw [e]
      · split
        · rename_i e; rw [e]
        · rfl
  · split
    · rename_i h; rw [h]; funext k; unfold upd; split
      · rename_i e; rw [e]
      · rfl
    · rfl
theorem lG_n {g : St} {o j : Nat} {x y z s : Int32} (h1 : j ≠ o) (h2 : j ≠ 76) : (lG g o x y z s).1 j = g.1 j := by unfold lG; dsimp only; rw [if_neg h1, if_neg h2]
theorem lG_o {g : St} {o : Nat} {x y z s : Int32} : (lG g o x y z s).1 o = fun k => if k = 6 then x else if k = 7 then y else if k = 8 then z else g.1 o k := by unfold lG; dsimp only; rw [if_pos rfl]
theorem lG_6 {g : St} {o : Nat} {x y z s : Int32} : (lG g o x y z s).1 o 6 = x := by rw [lG_o]; rfl
theorem lG_7 {g : St} {o : Nat} {x y z s : Int32} : (lG g o x y z s).1 o 7 = y := by rw [lG_o]; rfl
theorem lG_8 {g : St} {o : Nat} {x y z s : Int32} : (lG g o x y z s).1 o 8 = z := by rw [lG_o]; rfl
theorem lG_s {g : St} {o : Nat} {x y z s : Int32} (h : o ≠ 76) : (lG g o x y z s).1 76 0 = s := by unfold lG; dsimp only; rw [if_neg (Ne.symm h), if_pos rfl, upd_s]
theorem lG_p6 {g : St} {o : Nat} {x y z s v : Int32} : upI (lG g o x y z s) o 6 v = lG g o v y z s := by
  refine St_ext (fun j => ?_) rfl
  unfold upI
  dsimp only
  by_cases h : j = o
  · subst h
    rw [if_pos rfl, lG_o, lG_o]; funext k; unfold upd
    by_cases e : k = 6
    · subst e; rfl
    · simp only [if_neg e]
  · rw [if_neg h]
    unfold lG
    dsimp only
    rw [if_neg h, if_neg h]
theorem lG_p7 {g : St} {o : Nat} {x y z s v : Int32} : upI (lG g o x y z s) o 7 v = lG g o x v z s := by
  refine St_ext (fun j => ?_) rfl
  unfold upI
  dsimp only
  by_cases h : j = o
  · subst h
    rw [if_pos rfl, lG_o, lG_o]; funext k; unfold upd
    by_cases e : k = 7
    · subst e; rfl
    · simp only [if_neg e]
  · rw [if_neg h]
    unfold lG
    dsimp only
    rw [if_neg h, if_neg h]
theorem lG_p8 {g : St} {o : Nat} {x y z s v : Int32} : upI (lG g o x y z s) o 8 v = lG g o x y v s := by
  refine St_ext (fun j => ?_) rfl
  unfold upI
  dsimp only
  by_cases h : j = o
  · subst h
    rw [if_pos rfl, lG_o, lG_o]; funext k; unfold upd
    by_cases e : k = 8
    · subst e; rfl
    · simp only [if_neg e]
  · rw [if_neg h]
    unfold lG
    dsimp only
    rw [if_neg h, if_neg h]
theorem lG_ps {g : St} {o : Nat} {x y z s v : Int32} (h : o ≠ 76) : upI (lG g o x y z s) 76 0 v = lG g o x y z v := by
  refine St_ext (fun j => ?_) rfl
  unfold upI lG
  dsimp only
  by_cases e : j = 76
  · subst e
    rw [if_pos rfl, if_neg (Ne.symm h), if_pos rfl, if_neg (Ne.symm h), if_pos rfl]
    funext k; unfold upd; split <;> rfl
  · rw [if_neg e]
    by_cases e2 : j = o
    · rw [if_pos e2, if_pos e2]
    · rw [if_neg e2, if_neg e2, if_neg e, if_neg e]
abbrev lGS (g : St) (o : Nat) (S : LSt) : St := lG g o (nI S.2.1) (nI S.2.2.1) (nI S.2.2.2.1) (nI S.2.2.2.2)

theorem ldF_succ (P : PD) (V : VT) (t : Nat) (dr : Bool) (n : Nat) (S : LSt) : ldF P V t dr (n + 1) S = if S.2.1 = t then S else if ldM P V S = 0 then S else ldF P V t dr n (ldS P V dr S) := rfl
theorem ldP_D {P : PD} {V : VT} {S : LSt} : ldP P V true S = ldI (ldB P V S.2.1 S.1) P.1 (sdN S.2.2.2.2 / 65536 % ldM P V S) := by unfold ldP; rw [if_pos rfl]
theorem ldP_N {P : PD} {V : VT} {S : LSt} : ldP P V false S = ldI (ldB P V S.2.1 S.1) P.1 0 := by unfold ldP; rw [if_neg (by decide)]
theorem ldS_D {g : St} {o : Nat} {P : PD} {V : VT} {S : LSt} : lGS g o (ldS P V true S) = lG g o (nI (V.1 (ldP P V true S))) (nI (S.2.2.1 + V.2 (ldP P V true S))) (nI (S.2.2.2.1 + 1)) (nI (sdN S.2.2.2.2)) := by unfold lGS ldS; dsimp only; rw [if_pos rfl]
theorem ldS_N {g : St} {o : Nat} {P : PD} {V : VT} {S : LSt} : lGS g o (ldS P V false S) = lG g o (nI (V.1 (ldP P V false S))) (nI (S.2.2.1 + V.2 (ldP P V false S))) (nI (S.2.2.2.1 + 1)) (nI S.2.2.2.2) := by unfold lGS ldS; dsimp only; rw [if_neg (by decide)]
set_option maxHeartbeats 4000000 in
set_option maxRecDepth 100000 in
theorem l_ldN {K : KT} {ad : Nat → Nat} {g : St} {np : Nat} {P : PD} {V : VT} {o : Nat} (hG : GdP o) (hs : GsC g o np P V) {a t s : Nat} (ht : t < 10) (hK : Cx K RX1 cX1_lead 4 ad) (hm : K.2.2.1.2.maxLocals = 8) (hnn : Nn K 0 0)
    (hR : Rt K 0 0 TT ad none (Qv ad (fun g' => g' = lGS g o (ldF P V t false 6 (0, a, 0, 0, s))))) :
    ∀ m i, i + m = 6 → ∀ S : LSt, lsOk np S → S.2.2.2.1 = i → ldF P V t false m S = ldF P V t false 6 (0, a, 0, 0, s) → Wp K 0 0 TT ad (lGS g o S) 21 [(0, .ref o), (1, .int (nI a)), (2, .int (nI t)), (3, .null), (4, .int (nI S.1)), (5, .int (nI i))] [] := by
  have hG' := hG
  obtain ⟨o1, o2, o3, t0, t1, t2, t3⟩ := hG
  have h6 := hs.1.2.1
  have h10 := hs.1.1
  intro m
  induction m with
  | zero =>
    intro i him S hS hi hf
    refine r_iload (i := 5) hK dX1_lead_21 rfl ?_
    refine r_bipush (v := 6) hK dX1_lead_23 (by decide) ?_
    refine r_icmp_ge (tgt := 136) hK dX1_lead_25 (by decide) (fun _ => ?_) (fun h => absurd (nI_le (a := 6) (by omega) (by omega)) h)
    refine q_vret hK hR dX1_lead_136 ?_
    rw [← hf]
    rfl
  | succ m ih =>
    intro i him S hS hi hf
    obtain ⟨k1, k2, k3, k4, k5⟩ := id hS
    have hs' : GsC (lGS g o S) o np P V := GsC_of hs (lG_n (by omega) (by omega)) (lG_n (by omega) (by omega)) (lG_n (by omega) (by omega)) (lG_n (by omega) (by omega))
    have hM6 : ldM P V S ≤ 6 := Nat.le_trans (sp_cn_le _ _) h6
    by_cases c1 : S.2.1 = t
    · refine r_iload (i := 5) hK dX1_lead_21 rfl ?_
      refine r_bipush (v := 6) hK dX1_lead_23 (by decide) ?_
      refine r_icmp_ge (tgt := 136) hK dX1_lead_25 (by decide) (fun h => absurd h (nI_ge (b := 6) (by omega) (by decide))) (fun _ => ?_)
      refine r_aload_n (i := 0) hK dX1_lead_28 rfl rfl ?_
      refine r_getI hK flX1_91 t0 rfl dX1_lead_29 ?_
      refine r_top (y := nI S.2.1) lG_6 ?_
      refine r_iload_n (i := 2) hK dX1_lead_32 rfl rfl ?_
      refine r_icmp_eq (tgt := 136) hK dX1_lead_33 (by decide) (fun _ => ?_) (fun h => absurd (by rw [c1]) h)
      refine q_vret hK hR dX1_lead_136 ?_
      rw [← hf, ldF_succ, if_pos c1]
    · by_cases c2 : ldM P V S = 0
      · refine r_iload (i := 5) hK dX1_lead_21 rfl ?_
        refine r_bipush (v := 6) hK dX1_lead_23 (by decide) ?_
        refine r_icmp_ge (tgt := 136) hK dX1_lead_25 (by decide) (fun h => absurd h (nI_ge (b := 6) (by omega) (by decide))) (fun _ => ?_)
        refine r_aload_n (i := 0) hK dX1_lead_28 rfl rfl ?_
        refine r_getI hK flX1_91 t0 rfl dX1_lead_29 ?_
        refine r_top (y := nI S.2.1) lG_6 ?_
        refine r_iload_n (i := 2) hK dX1_lead_32 rfl rfl ?_
        refine r_icmp_eq (tgt := 136) hK dX1_lead_33 (by decide) (fun h => absurd h (fun z => c1 (nI_inj (by omega) (by omega) z))) (fun _ => ?_)
        refine r_aload_n (i := 0) hK dX1_lead_36 rfl rfl ?_
        refine r_aload_n (i := 0) hK dX1_lead_37 rfl rfl ?_
        refine r_getI hK flX1_91 t0 rfl dX1_lead_38 ?_
        refine r_top (y := nI S.2.1) lG_6 ?_
        refine r_iload (i := 4) hK dX1_lead_41 rfl ?_
        refine r_ci2 hK hnn (Ci.eq (c_howMany hG' hs' rfl (by omega) rfl (by omega)) (show _ = nI (ldM P V S) from rfl) rfl) moX1_howMany mlX1_100 t0 rfl rfl dX1_lead_43 (Nat.le_of_ble_eq_true rfl) (Nat.le_of_ble_eq_true rfl) (eqI ?_)
        refine r_istore (i := 6) hK hm dX1_lead_46 (by decide) ?_
        refine r_iload (i := 6) hK dX1_lead_48 rfl ?_
        refine r_if_ne (tgt := 54) hK dX1_lead_50 (by decide) (fun h => absurd (by rw [c2]; rfl) h) (fun _ => ?_)
        refine q_vret hK hR dX1_lead_53 ?_
        rw [← hf, ldF_succ, if_neg c1, if_pos c2]
      · obtain ⟨p1, p2, p3, p4⟩ := ldP_is (dr := false) c2
        have hidx : 0 < ldM P V S := by omega
        have hpv := hs.1.2.2 _ p1
        have eP : ldP P V false S = ldI (ldB P V S.2.1 S.1) P.1 (0) := ldP_N
        have eS : lGS g o (ldS P V false S) = lG g o (nI (V.1 (ldP P V false S))) (nI (S.2.2.1 + V.2 (ldP P V false S))) (nI (S.2.2.2.1 + 1)) (nI (S.2.2.2.2)) := ldS_N
        have hs2 : GsC (lGS g o S) o np P V := GsC_of hs (lG_n (by omega) (by omega)) (lG_n (by omega) (by omega)) (lG_n (by omega) (by omega)) (lG_n (by omega) (by omega))
        obtain ⟨hv, s1, s2, s3⟩ := id hs2
        have hS2 : lsOk np (ldS P V false S) := by
          refine ⟨bit6 k1 (by omega), hpv.2.1 p3, ?_, ?_, ?_⟩
          · show S.2.2.1 + V.2 (ldP P V false S) ≤ 891 * (S.2.2.2.1 + 1)
            omega
          · show S.2.2.2.1 + 1 ≤ 6
            omega
          · show (if false = true then sdN S.2.2.2.2 else S.2.2.2.2) < 2147483648
            split
            · exact sdN_lt
            · exact k5
        have s3' : GdC (lG g o (nI (V.1 (ldP P V false S))) (nI S.2.2.1) (nI S.2.2.2.1) (nI S.2.2.2.2)) o P V := GdC_of hs.2.2.2 (lG_n (by omega) (by omega)) (lG_n (by omega) (by omega))
        refine r_iload (i := 5) hK dX1_lead_21 rfl ?_
        refine r_bipush (v := 6) hK dX1_lead_23 (by decide) ?_
        refine r_icmp_ge (tgt := 136) hK dX1_lead_25 (by decide) (fun h => absurd h (nI_ge (b := 6) (by omega) (by decide))) (fun _ => ?_)
        refine r_aload_n (i := 0) hK dX1_lead_28 rfl rfl ?_
        refine r_getI hK flX1_91 t0 rfl dX1_lead_29 ?_
        refine r_top (y := nI S.2.1) lG_6 ?_
        refine r_iload_n (i := 2) hK dX1_lead_32 rfl rfl ?_
        refine r_icmp_eq (tgt := 136) hK dX1_lead_33 (by decide) (fun h => absurd h (fun z => c1 (nI_inj (by omega) (by omega) z))) (fun _ => ?_)
        refine r_aload_n (i := 0) hK dX1_lead_36 rfl rfl ?_
        refine r_aload_n (i := 0) hK dX1_lead_37 rfl rfl ?_
        refine r_getI hK flX1_91 t0 rfl dX1_lead_38 ?_
        refine r_top (y := nI S.2.1) lG_6 ?_
        refine r_iload (i := 4) hK dX1_lead_41 rfl ?_
        refine r_ci2 hK hnn (Ci.eq (c_howMany hG' hs' rfl (by omega) rfl (by omega)) (show _ = nI (ldM P V S) from rfl) rfl) moX1_howMany mlX1_100 t0 rfl rfl dX1_lead_43 (Nat.le_of_ble_eq_true rfl) (Nat.le_of_ble_eq_true rfl) (eqI ?_)
        refine r_istore (i := 6) hK hm dX1_lead_46 (by decide) ?_
        refine r_iload (i := 6) hK dX1_lead_48 rfl ?_
        refine r_if_ne (tgt := 54) hK dX1_lead_50 (by decide) (fun _ => ?_) (fun h => absurd h (nI_ne0 (by omega) (by omega)))
        refine r_aload_n (i := 0) hK dX1_lead_54 rfl rfl ?_
        refine r_aload_n (i := 0) hK dX1_lead_55 rfl rfl ?_
        refine r_getI hK flX1_91 t0 rfl dX1_lead_56 ?_
        refine r_top (y := nI S.2.1) lG_6 ?_
        refine r_iload (i := 4) hK dX1_lead_59 rfl ?_
        refine r_aload_nN (i := 3) hK dX1_lead_61 rfl rfl ?_
        refine r_ifnonnullN hK dX1_lead_62 ?_
        refine r_iconst (v := 0) hK dX1_lead_65 (by decide) ?_
        refine r_goto (tgt := 75) hK dX1_lead_66 (by decide) ?_
        refine r_ci3 hK hnn (Ci.eq (c_leader (i := 0) hG' hs2 rfl (by omega) rfl (by omega) rfl (Nat.lt_of_lt_of_le hidx (by omega))) (show _ = nI (ldP P V false S) from by rw [← eP, if_pos p1]) rfl) moX1_leader mlX1_108 t0 rfl rfl dX1_lead_75 (Nat.le_of_ble_eq_true rfl) (Nat.le_of_ble_eq_true rfl) (eqI ?_)
        refine r_istore (i := 7) hK hm dX1_lead_78 (by decide) ?_
        refine r_iload (i := 4) hK dX1_lead_80 rfl ?_
        refine r_iconst (v := 1) hK dX1_lead_82 (by decide) ?_
        refine r_iload (i := 7) hK dX1_lead_83 rfl ?_
        refine r_ishl hK dX1_lead_85 ?_
        refine r_ior hK dX1_lead_86 ?_
        refine r_top (y := nI (S.1 ||| 1 <<< ldP P V false S)) (setbit (by omega)) ?_
        refine r_istore (i := 4) hK hm dX1_lead_87 (by decide) ?_
        refine r_aload_n (i := 0) hK dX1_lead_89 rfl rfl ?_
        refine r_aload_n (i := 0) hK dX1_lead_90 rfl rfl ?_
        refine r_getA hK flX1_9 t0 rfl dX1_lead_91 ?_
        refine r_iload (i := 7) hK dX1_lead_94 rfl ?_
        refine r_si2 hK hnn (c_atE t1 (by decide) rfl (by omega) (by rw [(s3 _ p1).1, enI_in p3])) moX9_at mlX1_38 dX1_lead_96 (Nat.le_of_ble_eq_true rfl) (Nat.le_of_ble_eq_true rfl) (eqI ?_)
        refine r_putI hK flX1_91 ft1_6 t0 rfl dX1_lead_99 ?_
        refine r_g lG_p6 ?_
        refine r_aload_n (i := 0) hK dX1_lead_102 rfl rfl ?_
        refine r_dup hK dX1_lead_103 rfl ?_
        refine r_getI hK flX1_94 t0 rfl dX1_lead_104 ?_
        refine r_top (y := nI S.2.2.1) lG_7 ?_
        refine r_aload_n (i := 0) hK dX1_lead_107 rfl rfl ?_
        refine r_getA hK flX1_15 t0 rfl dX1_lead_108 ?_
        refine r_iload (i := 7) hK dX1_lead_111 rfl ?_
        refine r_si2 hK hnn (c_atE t2 (by decide) rfl (by omega) (s3' _ p1).2) moX9_at mlX1_38 dX1_lead_113 (Nat.le_of_ble_eq_true rfl) (Nat.le_of_ble_eq_true rfl) (eqI ?_)
        refine r_iadd hK dX1_lead_116 ?_
        refine r_top (nI_add _ _) ?_
        refine r_putI hK flX1_94 ft1_7 t0 rfl dX1_lead_117 ?_
        refine r_g lG_p7 ?_
        refine r_aload_n (i := 0) hK dX1_lead_120 rfl rfl ?_
        refine r_dup hK dX1_lead_121 rfl ?_
        refine r_getI hK flX1_97 t0 rfl dX1_lead_122 ?_
        refine r_top (y := nI S.2.2.2.1) lG_8 ?_
        refine r_iconst (v := 1) hK dX1_lead_125 (by decide) ?_
        refine r_iadd hK dX1_lead_126 ?_
        refine r_top (nI_1 _) ?_
        refine r_putI hK flX1_97 ft1_8 t0 rfl dX1_lead_127 ?_
        refine r_g lG_p8 ?_
        refine r_iincN (i := 5) hK hm dX1_lead_130 rfl (by decide) ?_
        refine r_goto (tgt := 21) hK dX1_lead_133 (by decide) ?_
        refine r_g eS.symm ?_
        refine r_loc ?_ (ih (i + 1) (by omega) (ldS P V false S) hS2 (by show S.2.2.2.1 + 1 = i + 1; omega) (by rw [← hf, ldF_succ, if_neg c1, if_neg c2]))
        rfl
set_option maxHeartbeats 4000000 in
set_option maxRecDepth 100000 in
theorem c_leadN {ad : Nat → Nat} {g : St} {np : Nat} {P : PD} {V : VT} {o : Nat} (hG : GdP o) (hs : GsC g o np P V) {a t s : Nat} (ha : a < np) (ht : t < 10) (hsd : g.1 76 0 = nI s) (hs0 : s < 2147483648) : Cv 4 mX1_lead [.ref o, .int (nI a), .int (nI t), .null] ad g (fun g' => g' = lGS g o (ldF P V t false 6 (0, a, 0, 0, s))) := by
  obtain ⟨o1, o2, o3, t0, t1, t2, t3⟩ := id hG
  refine Cm.mk rfl (Nat.le_of_ble_eq_true rfl) (fun K hK hR hm hnn => ?_)
  refine r_g (g' := lG g o (g.1 o 6) (g.1 o 7) (g.1 o 8) (g.1 76 0)) lG_id.symm ?_
  rw [hsd]
  refine r_iconst (v := 0) hK dX1_lead_0 (by decide) ?_
  refine r_istore (i := 4) hK hm dX1_lead_1 (by decide) ?_
  refine r_aload_n (i := 0) hK dX1_lead_3 rfl rfl ?_
  refine r_iload_n (i := 1) hK dX1_lead_4 rfl rfl ?_
  refine r_putI hK flX1_91 ft1_6 t0 rfl dX1_lead_5 ?_
  refine r_g lG_p6 ?_
  refine r_aload_n (i := 0) hK dX1_lead_8 rfl rfl ?_
  refine r_iconst (v := 0) hK dX1_lead_9 (by decide) ?_
  refine r_putI hK flX1_94 ft1_7 t0 rfl dX1_lead_10 ?_
  refine r_g lG_p7 ?_
  refine r_aload_n (i := 0) hK dX1_lead_13 rfl rfl ?_
  refine r_iconst (v := 0) hK dX1_lead_14 (by decide) ?_
  refine r_putI hK flX1_97 ft1_8 t0 rfl dX1_lead_15 ?_
  refine r_g lG_p8 ?_
  refine r_iconst (v := 0) hK dX1_lead_18 (by decide) ?_
  refine r_istore (i := 5) hK hm dX1_lead_19 (by decide) ?_
  refine r_loc ?_ (l_ldN hG hs ht hK hm hnn hR 6 0 (by omega) (0, a, 0, 0, s) ⟨by show 0 < 64; omega, ha, by show 0 ≤ 891 * 0; omega, by show 0 ≤ 6; omega, hs0⟩ rfl rfl)
  rfl
set_option maxHeartbeats 4000000 in
set_option maxRecDepth 100000 in
theorem l_ldD {K : KT} {ad : Nat → Nat} {g : St} {np : Nat} {P : PD} {V : VT} {o : Nat} (hG : GdP o) (hs : GsC g o np P V) {a t s : Nat} (ht : t < 10) (hK : Cx K RX1 cX1_lead 4 ad) (hm : K.2.2.1.2.maxLocals = 8) (hnn : Nn K 0 0)
    (hR : Rt K 0 0 TT ad none (Qv ad (fun g' => g' = lGS g o (ldF P V t true 6 (0, a, 0, 0, s))))) :
    ∀ m i, i + m = 6 → ∀ S : LSt, lsOk np S → S.2.2.2.1 = i → ldF P V t true m S = ldF P V t true 6 (0, a, 0, 0, s) → Wp K 0 0 TT ad (lGS g o S) 21 [(0, .ref o), (1, .int (nI a)), (2, .int (nI t)), (3, .ref 76), (4, .int (nI S.1)), (5, .int (nI i))] [] := by
  have hG' := hG
  obtain ⟨o1, o2, o3, t0, t1, t2, t3⟩ := hG
  have h6 := hs.1.2.1
  have h10 := hs.1.1
  intro m
  induction m with
  | zero =>
    intro i him S hS hi hf
    refine r_iload (i := 5) hK dX1_lead_21 rfl ?_
    refine r_bipush (v := 6) hK dX1_lead_23 (by decide) ?_
    refine r_icmp_ge (tgt := 136) hK dX1_lead_25 (by decide) (fun _ => ?_) (fun h => absurd (nI_le (a := 6) (by omega) (by omega)) h)
    refine q_vret hK hR dX1_lead_136 ?_
    rw [← hf]
    rfl
  | succ m ih =>
    intro i him S hS hi hf
    obtain ⟨k1, k2, k3, k4, k5⟩ := id hS
    have hs' : GsC (lGS g o S) o np P V := GsC_of hs (lG_n (by omega) (by omega)) (lG_n (by omega) (by omega)) (lG_n (by omega) (by omega)) (lG_n (by omega) (by omega))
    have hM6 : ldM P V S ≤ 6 := Nat.le_trans (sp_cn_le _ _) h6
    by_cases c1 : S.2.1 = t
    · refine r_iload (i := 5) hK dX1_lead_21 rfl ?_
      refine r_bipush (v := 6) hK dX1_lead_23 (by decide) ?_
      refine r_icmp_ge (tgt := 136) hK dX1_lead_25 (by decide) (fun h => absurd h (nI_ge (b := 6) (by omega) (by decide))) (fun _ => ?_)
      refine r_aload_n (i := 0) hK dX1_lead_28 rfl rfl ?_
      refine r_getI hK flX1_91 t0 rfl dX1_lead_29 ?_
      refine r_top (y := nI S.2.1) lG_6 ?_
      refine r_iload_n (i := 2) hK dX1_lead_32 rfl rfl ?_
      refine r_icmp_eq (tgt := 136) hK dX1_lead_33 (by decide) (fun _ => ?_) (fun h => absurd (by rw [c1]) h)
      refine q_vret hK hR dX1_lead_136 ?_
      rw [← hf, ldF_succ, if_pos c1]
    · by_cases c2 : ldM P V S = 0
      · refine r_iload (i := 5) hK dX1_lead_21 rfl ?_
        refine r_bipush (v := 6) hK dX1_lead_23 (by decide) ?_
        refine r_icmp_ge (tgt := 136) hK dX1_lead_25 (by decide) (fun h => absurd h (nI_ge (b := 6) (by omega) (by decide))) (fun _ => ?_)
        refine r_aload_n (i := 0) hK dX1_lead_28 rfl rfl ?_
        refine r_getI hK flX1_91 t0 rfl dX1_lead_29 ?_
        refine r_top (y := nI S.2.1) lG_6 ?_
        refine r_iload_n (i := 2) hK dX1_lead_32 rfl rfl ?_
        refine r_icmp_eq (tgt := 136) hK dX1_lead_33 (by decide) (fun h => absurd h (fun z => c1 (nI_inj (by omega) (by omega) z))) (fun _ => ?_)
        refine r_aload_n (i := 0) hK dX1_lead_36 rfl rfl ?_
        refine r_aload_n (i := 0) hK dX1_lead_37 rfl rfl ?_
        refine r_getI hK flX1_91 t0 rfl dX1_lead_38 ?_
        refine r_top (y := nI S.2.1) lG_6 ?_
        refine r_iload (i := 4) hK dX1_lead_41 rfl ?_
        refine r_ci2 hK hnn (Ci.eq (c_howMany hG' hs' rfl (by omega) rfl (by omega)) (show _ = nI (ldM P V S) from rfl) rfl) moX1_howMany mlX1_100 t0 rfl rfl dX1_lead_43 (Nat.le_of_ble_eq_true rfl) (Nat.le_of_ble_eq_true rfl) (eqI ?_)
        refine r_istore (i := 6) hK hm dX1_lead_46 (by decide) ?_
        refine r_iload (i := 6) hK dX1_lead_48 rfl ?_
        refine r_if_ne (tgt := 54) hK dX1_lead_50 (by decide) (fun h => absurd (by rw [c2]; rfl) h) (fun _ => ?_)
        refine q_vret hK hR dX1_lead_53 ?_
        rw [← hf, ldF_succ, if_neg c1, if_pos c2]
      · obtain ⟨p1, p2, p3, p4⟩ := ldP_is (dr := true) c2
        have hidx : (sdN S.2.2.2.2 / 65536 % ldM P V S) < ldM P V S := Nat.mod_lt _ (by omega)
        have hpv := hs.1.2.2 _ p1
        have eP : ldP P V true S = ldI (ldB P V S.2.1 S.1) P.1 ((sdN S.2.2.2.2 / 65536 % ldM P V S)) := ldP_D
        have eS : lGS g o (ldS P V true S) = lG g o (nI (V.1 (ldP P V true S))) (nI (S.2.2.1 + V.2 (ldP P V true S))) (nI (S.2.2.2.1 + 1)) (nI (sdN S.2.2.2.2)) := ldS_D
        have hs2 : GsC (lG g o (nI S.2.1) (nI S.2.2.1) (nI S.2.2.2.1) (nI (sdN S.2.2.2.2))) o np P V := GsC_of hs (lG_n (by omega) (by omega)) (lG_n (by omega) (by omega)) (lG_n (by omega) (by omega)) (lG_n (by omega) (by omega))
        obtain ⟨hv, s1, s2, s3⟩ := id hs2
        have hS2 : lsOk np (ldS P V true S) := by
          refine ⟨bit6 k1 (by omega), hpv.2.1 p3, ?_, ?_, ?_⟩
          · show S.2.2.1 + V.2 (ldP P V true S) ≤ 891 * (S.2.2.2.1 + 1)
            omega
          · show S.2.2.2.1 + 1 ≤ 6
            omega
          · show (if true = true then sdN S.2.2.2.2 else S.2.2.2.2) < 2147483648
            split
            · exact sdN_lt
            · exact k5
        have s3' : GdC (lG g o (nI (V.1 (ldP P V true S))) (nI S.2.2.1) (nI S.2.2.2.1) (nI (sdN S.2.2.2.2))) o P V := GdC_of hs.2.2.2 (lG_n (by omega) (by omega)) (lG_n (by omega) (by omega))
        refine r_iload (i := 5) hK dX1_lead_21 rfl ?_
        refine r_bipush (v := 6) hK dX1_lead_23 (by decide) ?_
        refine r_icmp_ge (tgt := 136) hK dX1_lead_25 (by decide) (fun h => absurd h (nI_ge (b := 6) (by omega) (by decide))) (fun _ => ?_)
        refine r_aload_n (i := 0) hK dX1_lead_28 rfl rfl ?_
        refine r_getI hK flX1_91 t0 rfl dX1_lead_29 ?_
        refine r_top (y := nI S.2.1) lG_6 ?_
        refine r_iload_n (i := 2) hK dX1_lead_32 rfl rfl ?_
        refine r_icmp_eq (tgt := 136) hK dX1_lead_33 (by decide) (fun h => absurd h (fun z => c1 (nI_inj (by omega) (by omega) z))) (fun _ => ?_)
        refine r_aload_n (i := 0) hK dX1_lead_36 rfl rfl ?_
        refine r_aload_n (i := 0) hK dX1_lead_37 rfl rfl ?_
        refine r_getI hK flX1_91 t0 rfl dX1_lead_38 ?_
        refine r_top (y := nI S.2.1) lG_6 ?_
        refine r_iload (i := 4) hK dX1_lead_41 rfl ?_
        refine r_ci2 hK hnn (Ci.eq (c_howMany hG' hs' rfl (by omega) rfl (by omega)) (show _ = nI (ldM P V S) from rfl) rfl) moX1_howMany mlX1_100 t0 rfl rfl dX1_lead_43 (Nat.le_of_ble_eq_true rfl) (Nat.le_of_ble_eq_true rfl) (eqI ?_)
        refine r_istore (i := 6) hK hm dX1_lead_46 (by decide) ?_
        refine r_iload (i := 6) hK dX1_lead_48 rfl ?_
        refine r_if_ne (tgt := 54) hK dX1_lead_50 (by decide) (fun _ => ?_) (fun h => absurd h (nI_ne0 (by omega) (by omega)))
        refine r_aload_n (i := 0) hK dX1_lead_54 rfl rfl ?_
        refine r_aload_n (i := 0) hK dX1_lead_55 rfl rfl ?_
        refine r_getI hK flX1_91 t0 rfl dX1_lead_56 ?_
        refine r_top (y := nI S.2.1) lG_6 ?_
        refine r_iload (i := 4) hK dX1_lead_59 rfl ?_
        refine r_aload_n (i := 3) hK dX1_lead_61 rfl rfl ?_
        refine r_ifnonnull (tgt := 69) hK dX1_lead_62 (by decide) ?_
        refine r_aload_n (i := 3) hK dX1_lead_69 rfl rfl ?_
        refine r_iload (i := 6) hK dX1_lead_70 rfl ?_
        refine r_ci1 hK hnn (c_next (lG_s (by omega)) k5 rfl (by omega) (by omega)) moX0_next mlX1_103 to_76 rfl rfl dX1_lead_72 (Nat.le_of_ble_eq_true rfl) (Nat.le_of_ble_eq_true rfl) (eqI ?_)
        rw [lG_ps (by omega)]
        refine r_ci3 hK hnn (Ci.eq (c_leader (i := (sdN S.2.2.2.2 / 65536 % ldM P V S)) hG' hs2 rfl (by omega) rfl (by omega) rfl (Nat.lt_of_lt_of_le hidx (by omega))) (show _ = nI (ldP P V true S) from by rw [← eP, if_pos p1]) rfl) moX1_leader mlX1_108 t0 rfl rfl dX1_lead_75 (Nat.le_of_ble_eq_true rfl) (Nat.le_of_ble_eq_true rfl) (eqI ?_)
        refine r_istore (i := 7) hK hm dX1_lead_78 (by decide) ?_
        refine r_iload (i := 4) hK dX1_lead_80 rfl ?_
        refine r_iconst (v := 1) hK dX1_lead_82 (by decide) ?_
        refine r_iload (i := 7) hK dX1_lead_83 rfl ?_
        refine r_ishl hK dX1_lead_85 ?_
        refine r_ior hK dX1_lead_86 ?_
        refine r_top (y := nI (S.1 ||| 1 <<< ldP P V true S)) (setbit (by omega)) ?_
        refine r_istore (i := 4) hK hm dX1_lead_87 (by decide) ?_
        refine r_aload_n (i := 0) hK dX1_lead_89 rfl rfl ?_
        refine r_aload_n (i := 0) hK dX1_lead_90 rfl rfl ?_
        refine r_getA hK flX1_9 t0 rfl dX1_lead_91 ?_
        refine r_iload (i := 7) hK dX1_lead_94 rfl ?_
        refine r_si2 hK hnn (c_atE t1 (by decide) rfl (by omega) (by rw [(s3 _ p1).1, enI_in p3])) moX9_at mlX1_38 dX1_lead_96 (Nat.le_of_ble_eq_true rfl) (Nat.le_of_ble_eq_true rfl) (eqI ?_)
        refine r_putI hK flX1_91 ft1_6 t0 rfl dX1_lead_99 ?_
        refine r_g lG_p6 ?_
        refine r_aload_n (i := 0) hK dX1_lead_102 rfl rfl ?_
        refine r_dup hK dX1_lead_103 rfl ?_
        refine r_getI hK flX1_94 t0 rfl dX1_lead_104 ?_
        refine r_top (y := nI S.2.2.1) lG_7 ?_
        refine r_aload_n (i := 0) hK dX1_lead_107 rfl rfl ?_
        refine r_getA hK flX1_15 t0 rfl dX1_lead_108 ?_
        refine r_iload (i := 7) hK dX1_lead_111 rfl ?_
        refine r_si2 hK hnn (c_atE t2 (by decide) rfl (by omega) (s3' _ p1).2) moX9_at mlX1_38 dX1_lead_113 (Nat.le_of_ble_eq_true rfl) (Nat.le_of_ble_eq_true rfl) (eqI ?_)
        refine r_iadd hK dX1_lead_116 ?_
        refine r_top (nI_add _ _) ?_
        refine r_putI hK flX1_94 ft1_7 t0 rfl dX1_lead_117 ?_
        refine r_g lG_p7 ?_
        refine r_aload_n (i := 0) hK dX1_lead_120 rfl rfl ?_
        refine r_dup hK dX1_lead_121 rfl ?_
        refine r_getI hK flX1_97 t0 rfl dX1_lead_122 ?_
        refine r_top (y := nI S.2.2.2.1) lG_8 ?_
        refine r_iconst (v := 1) hK dX1_lead_125 (by decide) ?_
        refine r_iadd hK dX1_lead_126 ?_
        refine r_top (nI_1 _) ?_
        refine r_putI hK flX1_97 ft1_8 t0 rfl dX1_lead_127 ?_
        refine r_g lG_p8 ?_
        refine r_iincN (i := 5) hK hm dX1_lead_130 rfl (by decide) ?_
        refine r_goto (tgt := 21) hK dX1_lead_133 (by decide) ?_
        refine r_g eS.symm ?_
        refine r_loc ?_ (ih (i + 1) (by omega) (ldS P V true S) hS2 (by show S.2.2.2.1 + 1 = i + 1; omega) (by rw [← hf, ldF_succ, if_neg c1, if_neg c2]))
        rfl
set_option maxHeartbeats 4000000 in
set_option maxRecDepth 100000 in
theorem c_leadD {ad : Nat → Nat} {g : St} {np : Nat} {P : PD} {V : VT} {o : Nat} (hG : GdP o) (hs : GsC g o np P V) {a t s : Nat} (ha : a < np) (ht : t < 10) (hsd : g.1 76 0 = nI s) (hs0 : s < 2147483648) : Cv 4 mX1_lead [.ref o, .int (nI a), .int (nI t), .ref 76] ad g (fun g' => g' = lGS g o (ldF P V t true 6 (0, a, 0, 0, s))) := by
  obtain ⟨o1, o2, o3, t0, t1, t2, t3⟩ := id hG
  refine Cm.mk rfl (Nat.le_of_ble_eq_true rfl) (fun K hK hR hm hnn => ?_)
  refine r_g (g' := lG g o (g.1 o 6) (g.1 o 7) (g.1 o 8) (g.1 76 0)) lG_id.symm ?_
  rw [hsd]
  refine r_iconst (v := 0) hK dX1_lead_0 (by decide) ?_
  refine r_istore (i := 4) hK hm dX1_lead_1 (by decide) ?_
  refine r_aload_n (i := 0) hK dX1_lead_3 rfl rfl ?_
  refine r_iload_n (i := 1) hK dX1_lead_4 rfl rfl ?_
  refine r_putI hK flX1_91 ft1_6 t0 rfl dX1_lead_5 ?_
  refine r_g lG_p6 ?_
  refine r_aload_n (i := 0) hK dX1_lead_8 rfl rfl ?_
  refine r_iconst (v := 0) hK dX1_lead_9 (by decide) ?_
  refine r_putI hK flX1_94 ft1_7 t0 rfl dX1_lead_10 ?_
  refine r_g lG_p7 ?_
  refine r_aload_n (i := 0) hK dX1_lead_13 rfl rfl ?_
  refine r_iconst (v := 0) hK dX1_lead_14 (by decide) ?_
  refine r_putI hK flX1_97 ft1_8 t0 rfl dX1_lead_15 ?_
  refine r_g lG_p8 ?_
  refine r_iconst (v := 0) hK dX1_lead_18 (by decide) ?_
  refine r_istore (i := 5) hK hm dX1_lead_19 (by decide) ?_
  refine r_loc ?_ (l_ldD hG hs ht hK hm hnn hR 6 0 (by omega) (0, a, 0, 0, s) ⟨by show 0 < 64; omega, ha, by show 0 ≤ 891 * 0; omega, by show 0 ≤ 6; omega, hs0⟩ rfl rfl)
  rfl
