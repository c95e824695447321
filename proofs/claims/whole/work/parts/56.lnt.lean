/-! LESSONS, seekTwo; LEARNT -/
def t2 (X : LN) (a t d j k : Nat) : Bool := cbL X j && (cbL X k && twoB X a t d j k)
def iN (X : LN) (a t d j : Nat) : Nat := fdF (t2 X a t d j) (83 - j) (j + 1)
def o2 (X : LN) (a t d j : Nat) : Bool := decide (iN X a t d j < 84)
def fo2 (X : LN) (a t d : Nat) : Nat := fdF (o2 X a t d) 84 0
def Q2 (g : St) (X : LN) (a t d : Nat) (g' : St) : Prop := Fr g g' ∧ ((fo2 X a t d < 84 ∧ iN X a t d (fo2 X a t d) < 84 ∧ g'.1 67 9 = 2 ∧ g'.1 67 10 = nI (fo2 X a t d) ∧ g'.1 67 11 = nI (iN X a t d (fo2 X a t d))) ∨ (¬ fo2 X a t d < 84 ∧ g'.1 67 9 = -1))
theorem fdF_all {f : Nat → Bool} : ∀ m k, fdF f m k = k + m → ∀ i, k ≤ i → i < k + m → f i = false
  | 0, k, _, i, h1, h2 => by omega
  | m + 1, k, h, i, h1, h2 => by
    unfold fdF at h
    split at h
    · omega
    · rename_i hn
      by_cases e : i = k
      · rw [e]; simpa using hn
      · exact fdF_all m (k + 1) (by omega) i (by omega) (by omega)
theorem l0I {n : Int32} (h : ¬ n < 0) (h2 : ¬ 999 < n) : n.toNatClampNeg ≤ 999 ∧ n = nI n.toNatClampNeg := by
  have h3 : isB n 1000 = true := by
    unfold isB
    have e1 : n < nI 1000 := by
      rw [Int32.lt_iff_toInt_lt] at h2 ⊢
      rw [show (999 : Int32) = nI 999 from rfl, nI_toInt (by decide)] at h2
      rw [nI_toInt (by decide)]
      omega
    rw [decide_eq_false h, decide_eq_true e1]; rfl
  obtain ⟨k1, k2⟩ := isB_cl (by decide) h3
  exact ⟨by omega, k2⟩
theorem fo1_none {X : LN} {a t d : Nat} (h : ¬ fo1 X a t d < 84) : ∀ i, i < 84 → oneB X a t d i = false := fun i hi => fdF_all 84 0 (by have := fdF_le (oneB X a t d) 84 0; unfold fo1 at h; omega) i (Nat.zero_le i) (by omega)
def lnC (X : LN) (a t d : Nat) : Int32 := if inT X.2.2.1 (vX X t false) a t d = true then 0 else if fo1 X a t d < 84 then 1 else if fo2 X a t d < 84 then 2 else -1
def lnF (X : LN) (a t d : Nat) : Nat := if fo1 X a t d < 84 then fo1 X a t d else fo2 X a t d
def lnS (X : LN) (a t d : Nat) : Nat := iN X a t d (fo2 X a t d)
def aLnt (X : LN) (a t d x : Int32) : Int32 := if (isB a X.1 && isB t X.1) = true then (if d < 0 ∨ 999 < d ∨ x < 0 ∨ 4 < x then OUT else if farV X (nC a) (nC t) = -1 ∨ d < farV X (nC a) (nC t) then -1 else lnA (lnC X (nC a) (nC t) (nC d)) (lnF X (nC a) (nC t) (nC d)) (lnS X (nC a) (nC t) (nC d)) x) else UNK

set_option maxHeartbeats 4000000 in
set_option maxRecDepth 100000 in
theorem c_answer2 {ad : Nat → Nat} {g : St} {c x : Int32} {f s : Nat} (hc : g.1 67 9 = c) (hf : 1 ≤ c → g.1 67 10 = nI f ∧ f < 84) (hs : 2 ≤ c → g.1 67 11 = nI s ∧ s < 84) : Ci 1 mX5_answer [.ref 67, .int x] ad g (fun v g' => v = lnA c f s x ∧ g' = g) := by
  refine Cm.mk rfl (Nat.le_of_ble_eq_true rfl) (fun K hK hR hm hnn => ?_)
  refine r_iload_n (i := 1) hK dX5_answer_0 rfl rfl ?_
  refine r_sw (n := 4) (lo := 0) (tgt0 := 97) hK dX5_answer_1 (by decide) (by decide) (by decide) (by decide) (fun h1 => ?_) (fun i1 hi1 h1 => ?_)
  · refine r_aload_n (i := 0) hK dX5_answer_97 rfl rfl ?_
    refine r_getI hK flX5_58 to_67 rfl dX5_answer_98 ?_
    refine r_top (y := c) hc ?_
    refine r_iconst (v := 2) hK dX5_answer_101 (by decide) ?_
    refine r_icmp_ge (tgt := 109) hK dX5_answer_102 (by decide) (fun h102 => ?_) (fun h102 => ?_)
    · refine r_aload_n (i := 0) hK dX5_answer_109 rfl rfl ?_
      refine r_getI hK flX5_93 to_67 rfl dX5_answer_110 ?_
      obtain ⟨e110, b110⟩ := hs h102
      refine r_top (y := nI s) e110 ?_
      refine r_bipush (v := 14) hK dX5_answer_113 (by decide) ?_
      refine r_irem hK dX5_answer_115 (by decide) ?_
      refine r_top (y := nI (s % 14)) (m14 b110) ?_
      refine q_iret hK hR dX5_answer_116 ?_
      refine ⟨?_, rfl⟩
      unfold lnA
      first
        | (rw [(show x = 0 from h1)]; rw [if_pos rfl]; exact hc)
        | (rw [(show x = 1 from h1)]; rw [if_neg (by decide)]; rw [if_pos rfl]; rw [if_pos h42]; done)
        | (rw [(show x = 1 from h1)]; rw [if_neg (by decide)]; rw [if_pos rfl]; rw [if_neg h42]; done)
        | (rw [(show x = 2 from h1)]; rw [if_neg (by decide)]; rw [if_neg (by decide)]; rw [if_pos rfl]; rw [if_pos h62]; done)
        | (rw [(show x = 2 from h1)]; rw [if_neg (by decide)]; rw [if_neg (by decide)]; rw [if_pos rfl]; rw [if_neg h62]; done)
        | (rw [(show x = 3 from h1)]; rw [if_neg (by decide)]; rw [if_neg (by decide)]; rw [if_neg (by decide)]; rw [if_pos rfl]; rw [if_pos h82]; done)
        | (rw [(show x = 3 from h1)]; rw [if_neg (by decide)]; rw [if_neg (by decide)]; rw [if_neg (by decide)]; rw [if_pos rfl]; rw [if_neg h82]; done)
        | (rw [if_neg (show ¬ x = 0 from swn 0 h1 (by decide) (by decide)), if_neg (show ¬ x = 1 from swn 1 h1 (by decide) (by decide)), if_neg (show ¬ x = 2 from swn 2 h1 (by decide) (by decide)), if_neg (show ¬ x = 3 from swn 3 h1 (by decide) (by decide)), if_pos h102]; done)
        | (rw [if_neg (show ¬ x = 0 from swn 0 h1 (by decide) (by decide)), if_neg (show ¬ x = 1 from swn 1 h1 (by decide) (by decide)), if_neg (show ¬ x = 2 from swn 2 h1 (by decide) (by decide)), if_neg (show ¬ x = 3 from swn 3 h1 (by decide) (by decide)), if_neg h102]; done)
    · refine r_iconst (v := (-1)) hK dX5_answer_105 (by decide) ?_
      refine r_goto (tgt := 116) hK dX5_answer_106 (by decide) ?_
      refine q_iret hK hR dX5_answer_116 ?_
      refine ⟨?_, rfl⟩
      unfold lnA
      first
        | (rw [(show x = 0 from h1)]; rw [if_pos rfl]; exact hc)
        | (rw [(show x = 1 from h1)]; rw [if_neg (by decide)]; rw [if_pos rfl]; rw [if_pos h42]; done)
        | (rw [(show x = 1 from h1)]; rw [if_neg (by decide)]; rw [if_pos rfl]; rw [if_neg h42]; done)
        | (rw [(show x = 2 from h1)]; rw [if_neg (by decide)]; rw [if_neg (by decide)]; rw [if_pos rfl]; rw [if_pos h62]; done)
        | (rw [(show x = 2 from h1)]; rw [if_neg (by decide)]; rw [if_neg (by decide)]; rw [if_pos rfl]; rw [if_neg h62]; done)
        | (rw [(show x = 3 from h1)]; rw [if_neg (by decide)]; rw [if_neg (by decide)]; rw [if_neg (by decide)]; rw [if_pos rfl]; rw [if_pos h82]; done)
        | (rw [(show x = 3 from h1)]; rw [if_neg (by decide)]; rw [if_neg (by decide)]; rw [if_neg (by decide)]; rw [if_pos rfl]; rw [if_neg h82]; done)
        | (rw [if_neg (show ¬ x = 0 from swn 0 h1 (by decide) (by decide)), if_neg (show ¬ x = 1 from swn 1 h1 (by decide) (by decide)), if_neg (show ¬ x = 2 from swn 2 h1 (by decide) (by decide)), if_neg (show ¬ x = 3 from swn 3 h1 (by decide) (by decide)), if_pos h102]; done)
        | (rw [if_neg (show ¬ x = 0 from swn 0 h1 (by decide) (by decide)), if_neg (show ¬ x = 1 from swn 1 h1 (by decide) (by decide)), if_neg (show ¬ x = 2 from swn 2 h1 (by decide) (by decide)), if_neg (show ¬ x = 3 from swn 3 h1 (by decide) (by decide)), if_neg h102]; done)
  · obtain rfl | rfl | rfl | rfl : i1 = 0 ∨ i1 = 1 ∨ i1 = 2 ∨ i1 = 3 := by omega
    · refine ⟨_, 32, rfl, by decide, ?_⟩
      refine r_aload_n (i := 0) hK dX5_answer_32 rfl rfl ?_
      refine r_getI hK flX5_58 to_67 rfl dX5_answer_33 ?_
      refine q_iret hK hR dX5_answer_36 ?_
      refine ⟨?_, rfl⟩
      unfold lnA
      first
        | (rw [(show x = 0 from h1)]; rw [if_pos rfl]; exact hc)
        | (rw [(show x = 1 from h1)]; rw [if_neg (by decide)]; rw [if_pos rfl]; rw [if_pos h42]; done)
        | (rw [(show x = 1 from h1)]; rw [if_neg (by decide)]; rw [if_pos rfl]; rw [if_neg h42]; done)
        | (rw [(show x = 2 from h1)]; rw [if_neg (by decide)]; rw [if_neg (by decide)]; rw [if_pos rfl]; rw [if_pos h62]; done)
        | (rw [(show x = 2 from h1)]; rw [if_neg (by decide)]; rw [if_neg (by decide)]; rw [if_pos rfl]; rw [if_neg h62]; done)
        | (rw [(show x = 3 from h1)]; rw [if_neg (by decide)]; rw [if_neg (by decide)]; rw [if_neg (by decide)]; rw [if_pos rfl]; rw [if_pos h82]; done)
        | (rw [(show x = 3 from h1)]; rw [if_neg (by decide)]; rw [if_neg (by decide)]; rw [if_neg (by decide)]; rw [if_pos rfl]; rw [if_neg h82]; done)
        | (rw [if_neg (show ¬ x = 0 from swn 0 h1 (by decide) (by decide)), if_neg (show ¬ x = 1 from swn 1 h1 (by decide) (by decide)), if_neg (show ¬ x = 2 from swn 2 h1 (by decide) (by decide)), if_neg (show ¬ x = 3 from swn 3 h1 (by decide) (by decide)), if_pos h102]; done)
        | (rw [if_neg (show ¬ x = 0 from swn 0 h1 (by decide) (by decide)), if_neg (show ¬ x = 1 from swn 1 h1 (by decide) (by decide)), if_neg (show ¬ x = 2 from swn 2 h1 (by decide) (by decide)), if_neg (show ¬ x = 3 from swn 3 h1 (by decide) (by decide)), if_neg h102]; done)
    · refine ⟨_, 37, rfl, by decide, ?_⟩
      refine r_aload_n (i := 0) hK dX5_answer_37 rfl rfl ?_
      refine r_getI hK flX5_58 to_67 rfl dX5_answer_38 ?_
      refine r_top (y := c) hc ?_
      refine r_iconst (v := 1) hK dX5_answer_41 (by decide) ?_
      refine r_icmp_ge (tgt := 49) hK dX5_answer_42 (by decide) (fun h42 => ?_) (fun h42 => ?_)
      · refine r_aload_n (i := 0) hK dX5_answer_49 rfl rfl ?_
        refine r_getI hK flX5_82 to_67 rfl dX5_answer_50 ?_
        obtain ⟨e50, b50⟩ := hf h42
        refine r_top (y := nI f) e50 ?_
        refine r_bipush (v := 14) hK dX5_answer_53 (by decide) ?_
        refine r_idiv hK dX5_answer_55 (by decide) ?_
        refine r_top (y := nI (f / 14)) (d14 b50) ?_
        refine q_iret hK hR dX5_answer_56 ?_
        refine ⟨?_, rfl⟩
        unfold lnA
        first
          | (rw [(show x = 0 from h1)]; rw [if_pos rfl]; exact hc)
          | (rw [(show x = 1 from h1)]; rw [if_neg (by decide)]; rw [if_pos rfl]; rw [if_pos h42]; done)
          | (rw [(show x = 1 from h1)]; rw [if_neg (by decide)]; rw [if_pos rfl]; rw [if_neg h42]; done)
          | (rw [(show x = 2 from h1)]; rw [if_neg (by decide)]; rw [if_neg (by decide)]; rw [if_pos rfl]; rw [if_pos h62]; done)
          | (rw [(show x = 2 from h1)]; rw [if_neg (by decide)]; rw [if_neg (by decide)]; rw [if_pos rfl]; rw [if_neg h62]; done)
          | (rw [(show x = 3 from h1)]; rw [if_neg (by decide)]; rw [if_neg (by decide)]; rw [if_neg (by decide)]; rw [if_pos rfl]; rw [if_pos h82]; done)
          | (rw [(show x = 3 from h1)]; rw [if_neg (by decide)]; rw [if_neg (by decide)]; rw [if_neg (by decide)]; rw [if_pos rfl]; rw [if_neg h82]; done)
          | (rw [if_neg (show ¬ x = 0 from swn 0 h1 (by decide) (by decide)), if_neg (show ¬ x = 1 from swn 1 h1 (by decide) (by decide)), if_neg (show ¬ x = 2 from swn 2 h1 (by decide) (by decide)), if_neg (show ¬ x = 3 from swn 3 h1 (by decide) (by decide)), if_pos h102]; done)
          | (rw [if_neg (show ¬ x = 0 from swn 0 h1 (by decide) (by decide)), if_neg (show ¬ x = 1 from swn 1 h1 (by decide) (by decide)), if_neg (show ¬ x = 2 from swn 2 h1 (by decide) (by decide)), if_neg (show ¬ x = 3 from swn 3 h1 (by decide) (by decide)), if_neg h102]; done)
      · refine r_iconst (v := (-1)) hK dX5_answer_45 (by decide) ?_
        refine r_goto (tgt := 56) hK dX5_answer_46 (by decide) ?_
        refine q_iret hK hR dX5_answer_56 ?_
        refine ⟨?_, rfl⟩
        unfold lnA
        first
          | (rw [(show x = 0 from h1)]; rw [if_pos rfl]; exact hc)
          | (rw [(show x = 1 from h1)]; rw [if_neg (by decide)]; rw [if_pos rfl]; rw [if_pos h42]; done)
          | (rw [(show x = 1 from h1)]; rw [if_neg (by decide)]; rw [if_pos rfl]; rw [if_neg h42]; done)
          | (rw [(show x = 2 from h1)]; rw [if_neg (by decide)]; rw [if_neg (by decide)]; rw [if_pos rfl]; rw [if_pos h62]; done)
          | (rw [(show x = 2 from h1)]; rw [if_neg (by decide)]; rw [if_neg (by decide)]; rw [if_pos rfl]; rw [if_neg h62]; done)
          | (rw [(show x = 3 from h1)]; rw [if_neg (by decide)]; rw [if_neg (by decide)]; rw [if_neg (by decide)]; rw [if_pos rfl]; rw [if_pos h82]; done)
          | (rw [(show x = 3 from h1)]; rw [if_neg (by decide)]; rw [if_neg (by decide)]; rw [if_neg (by decide)]; rw [if_pos rfl]; rw [if_neg h82]; done)
          | (rw [if_neg (show ¬ x = 0 from swn 0 h1 (by decide) (by decide)), if_neg (show ¬ x = 1 from swn 1 h1 (by decide) (by decide)), if_neg (show ¬ x = 2 from swn 2 h1 (by decide) (by decide)), if_neg (show ¬ x = 3 from swn 3 h1 (by decide) (by decide)), if_pos h102]; done)
          | (rw [if_neg (show ¬ x = 0 from swn 0 h1 (by decide) (by decide)), if_neg (show ¬ x = 1 from swn 1 h1 (by decide) (by decide)), if_neg (show ¬ x = 2 from swn 2 h1 (by decide) (by decide)), if_neg (show ¬ x = 3 from swn 3 h1 (by decide) (by decide)), if_neg h102]; done)
    · refine ⟨_, 57, rfl, by decide, ?_⟩
      refine r_aload_n (i := 0) hK dX5_answer_57 rfl rfl ?_
      refine r_getI hK flX5_58 to_67 rfl dX5_answer_58 ?_
      refine r_top (y := c) hc ?_
      refine r_iconst (v := 1) hK dX5_answer_61 (by decide) ?_
      refine r_icmp_ge (tgt := 69) hK dX5_answer_62 (by decide) (fun h62 => ?_) (fun h62 => ?_)
      · refine r_aload_n (i := 0) hK dX5_answer_69 rfl rfl ?_
        refine r_getI hK flX5_82 to_67 rfl dX5_answer_70 ?_
        obtain ⟨e70, b70⟩ := hf h62
        refine r_top (y := nI f) e70 ?_
        refine r_bipush (v := 14) hK dX5_answer_73 (by decide) ?_
        refine r_irem hK dX5_answer_75 (by decide) ?_
        refine r_top (y := nI (f % 14)) (m14 b70) ?_
        refine q_iret hK hR dX5_answer_76 ?_
        refine ⟨?_, rfl⟩
        unfold lnA
        first
          | (rw [(show x = 0 from h1)]; rw [if_pos rfl]; exact hc)
          | (rw [(show x = 1 from h1)]; rw [if_neg (by decide)]; rw [if_pos rfl]; rw [if_pos h42]; done)
          | (rw [(show x = 1 from h1)]; rw [if_neg (by decide)]; rw [if_pos rfl]; rw [if_neg h42]; done)
          | (rw [(show x = 2 from h1)]; rw [if_neg (by decide)]; rw [if_neg (by decide)]; rw [if_pos rfl]; rw [if_pos h62]; done)
          | (rw [(show x = 2 from h1)]; rw [if_neg (by decide)]; rw [if_neg (by decide)]; rw [if_pos rfl]; rw [if_neg h62]; done)
          | (rw [(show x = 3 from h1)]; rw [if_neg (by decide)]; rw [if_neg (by decide)]; rw [if_neg (by decide)]; rw [if_pos rfl]; rw [if_pos h82]; done)
          | (rw [(show x = 3 from h1)]; rw [if_neg (by decide)]; rw [if_neg (by decide)]; rw [if_neg (by decide)]; rw [if_pos rfl]; rw [if_neg h82]; done)
          | (rw [if_neg (show ¬ x = 0 from swn 0 h1 (by decide) (by decide)), if_neg (show ¬ x = 1 from swn 1 h1 (by decide) (by decide)), if_neg (show ¬ x = 2 from swn 2 h1 (by decide) (by decide)), if_neg (show ¬ x = 3 from swn 3 h1 (by decide) (by decide)), if_pos h102]; done)
          | (rw [if_neg (show ¬ x = 0 from swn 0 h1 (by decide) (by decide)), if_neg (show ¬ x = 1 from swn 1 h1 (by decide) (by decide)), if_neg (show ¬ x = 2 from swn 2 h1 (by decide) (by decide)), if_neg (show ¬ x = 3 from swn 3 h1 (by decide) (by decide)), if_neg h102]; done)
      · refine r_iconst (v := (-1)) hK dX5_answer_65 (by decide) ?_
        refine r_goto (tgt := 76) hK dX5_answer_66 (by decide) ?_
        refine q_iret hK hR dX5_answer_76 ?_
        refine ⟨?_, rfl⟩
        unfold lnA
        first
          | (rw [(show x = 0 from h1)]; rw [if_pos rfl]; exact hc)
          | (rw [(show x = 1 from h1)]; rw [if_neg (by decide)]; rw [if_pos rfl]; rw [if_pos h42]; done)
          | (rw [(show x = 1 from h1)]; rw [if_neg (by decide)]; rw [if_pos rfl]; rw [if_neg h42]; done)
          | (rw [(show x = 2 from h1)]; rw [if_neg (by decide)]; rw [if_neg (by decide)]; rw [if_pos rfl]; rw [if_pos h62]; done)
          | (rw [(show x = 2 from h1)]; rw [if_neg (by decide)]; rw [if_neg (by decide)]; rw [if_pos rfl]; rw [if_neg h62]; done)
          | (rw [(show x = 3 from h1)]; rw [if_neg (by decide)]; rw [if_neg (by decide)]; rw [if_neg (by decide)]; rw [if_pos rfl]; rw [if_pos h82]; done)
          | (rw [(show x = 3 from h1)]; rw [if_neg (by decide)]; rw [if_neg (by decide)]; rw [if_neg (by decide)]; rw [if_pos rfl]; rw [if_neg h82]; done)
          | (rw [if_neg (show ¬ x = 0 from swn 0 h1 (by decide) (by decide)), if_neg (show ¬ x = 1 from swn 1 h1 (by decide) (by decide)), if_neg (show ¬ x = 2 from swn 2 h1 (by decide) (by decide)), if_neg (show ¬ x = 3 from swn 3 h1 (by decide) (by decide)), if_pos h102]; done)
          | (rw [if_neg (show ¬ x = 0 from swn 0 h1 (by decide) (by decide)), if_neg (show ¬ x = 1 from swn 1 h1 (by decide) (by decide)), if_neg (show ¬ x = 2 from swn 2 h1 (by decide) (by decide)), if_neg (show ¬ x = 3 from swn 3 h1 (by decide) (by decide)), if_neg h102]; done)
    · refine ⟨_, 77, rfl, by decide, ?_⟩
      refine r_aload_n (i := 0) hK dX5_answer_77 rfl rfl ?_
      refine r_getI hK flX5_58 to_67 rfl dX5_answer_78 ?_
      refine r_top (y := c) hc ?_
      refine r_iconst (v := 2) hK dX5_answer_81 (by decide) ?_
      refine r_icmp_ge (tgt := 89) hK dX5_answer_82 (by decide) (fun h82 => ?_) (fun h82 => ?_)
      · refine r_aload_n (i := 0) hK dX5_answer_89 rfl rfl ?_
        refine r_getI hK flX5_93 to_67 rfl dX5_answer_90 ?_
        obtain ⟨e90, b90⟩ := hs h82
        refine r_top (y := nI s) e90 ?_
        refine r_bipush (v := 14) hK dX5_answer_93 (by decide) ?_
        refine r_idiv hK dX5_answer_95 (by decide) ?_
        refine r_top (y := nI (s / 14)) (d14 b90) ?_
        refine q_iret hK hR dX5_answer_96 ?_
        refine ⟨?_, rfl⟩
        unfold lnA
        first
          | (rw [(show x = 0 from h1)]; rw [if_pos rfl]; exact hc)
          | (rw [(show x = 1 from h1)]; rw [if_neg (by decide)]; rw [if_pos rfl]; rw [if_pos h42]; done)
          | (rw [(show x = 1 from h1)]; rw [if_neg (by decide)]; rw [if_pos rfl]; rw [if_neg h42]; done)
          | (rw [(show x = 2 from h1)]; rw [if_neg (by decide)]; rw [if_neg (by decide)]; rw [if_pos rfl]; rw [if_pos h62]; done)
          | (rw [(show x = 2 from h1)]; rw [if_neg (by decide)]; rw [if_neg (by decide)]; rw [if_pos rfl]; rw [if_neg h62]; done)
          | (rw [(show x = 3 from h1)]; rw [if_neg (by decide)]; rw [if_neg (by decide)]; rw [if_neg (by decide)]; rw [if_pos rfl]; rw [if_pos h82]; done)
          | (rw [(show x = 3 from h1)]; rw [if_neg (by decide)]; rw [if_neg (by decide)]; rw [if_neg (by decide)]; rw [if_pos rfl]; rw [if_neg h82]; done)
          | (rw [if_neg (show ¬ x = 0 from swn 0 h1 (by decide) (by decide)), if_neg (show ¬ x = 1 from swn 1 h1 (by decide) (by decide)), if_neg (show ¬ x = 2 from swn 2 h1 (by decide) (by decide)), if_neg (show ¬ x = 3 from swn 3 h1 (by decide) (by decide)), if_pos h102]; done)
          | (rw [if_neg (show ¬ x = 0 from swn 0 h1 (by decide) (by decide)), if_neg (show ¬ x = 1 from swn 1 h1 (by decide) (by decide)), if_neg (show ¬ x = 2 from swn 2 h1 (by decide) (by decide)), if_neg (show ¬ x = 3 from swn 3 h1 (by decide) (by decide)), if_neg h102]; done)
      · refine r_iconst (v := (-1)) hK dX5_answer_85 (by decide) ?_
        refine r_goto (tgt := 96) hK dX5_answer_86 (by decide) ?_
        refine q_iret hK hR dX5_answer_96 ?_
        refine ⟨?_, rfl⟩
        unfold lnA
        first
          | (rw [(show x = 0 from h1)]; rw [if_pos rfl]; exact hc)
          | (rw [(show x = 1 from h1)]; rw [if_neg (by decide)]; rw [if_pos rfl]; rw [if_pos h42]; done)
          | (rw [(show x = 1 from h1)]; rw [if_neg (by decide)]; rw [if_pos rfl]; rw [if_neg h42]; done)
          | (rw [(show x = 2 from h1)]; rw [if_neg (by decide)]; rw [if_neg (by decide)]; rw [if_pos rfl]; rw [if_pos h62]; done)
          | (rw [(show x = 2 from h1)]; rw [if_neg (by decide)]; rw [if_neg (by decide)]; rw [if_pos rfl]; rw [if_neg h62]; done)
          | (rw [(show x = 3 from h1)]; rw [if_neg (by decide)]; rw [if_neg (by decide)]; rw [if_neg (by decide)]; rw [if_pos rfl]; rw [if_pos h82]; done)
          | (rw [(show x = 3 from h1)]; rw [if_neg (by decide)]; rw [if_neg (by decide)]; rw [if_neg (by decide)]; rw [if_pos rfl]; rw [if_neg h82]; done)
          | (rw [if_neg (show ¬ x = 0 from swn 0 h1 (by decide) (by decide)), if_neg (show ¬ x = 1 from swn 1 h1 (by decide) (by decide)), if_neg (show ¬ x = 2 from swn 2 h1 (by decide) (by decide)), if_neg (show ¬ x = 3 from swn 3 h1 (by decide) (by decide)), if_pos h102]; done)
          | (rw [if_neg (show ¬ x = 0 from swn 0 h1 (by decide) (by decide)), if_neg (show ¬ x = 1 from swn 1 h1 (by decide) (by decide)), if_neg (show ¬ x = 2 from swn 2 h1 (by decide) (by decide)), if_neg (show ¬ x = 3 from swn 3 h1 (by decide) (by decide)), if_neg h102]; done)
set_option maxHeartbeats 4000000 in
set_option maxRecDepth 100000 in
theorem l_s2I {K : KT} {ad : Nat → Nat} {g : St} {X : LN} {a t d : Nat} (ha : a < X.1) (ht : t < X.1) (hd : d ≤ 999) (hn : ∀ i, i < 84 → oneB X a t d i = false) (hK : Cx K RX5 cX5_seekTwo 7 ad) (hm : K.2.2.1.2.maxLocals = 3) (hnn : Nn K 0 0)
    (hR : Rt K 0 0 TT ad none (Qv ad (fun g' => Q2 g X a t d g'))) {j : Nat} (hj : j < 84) (hF : iN X a t d j < 84 → fo2 X a t d = j)
    (h65 : ¬ iN X a t d j < 84 → ∀ g1 : St, Fr g g1 → LsC g1 X a t d → TbC g1 X t 84 → g1.1 67 9 = -1 → Wp K 0 0 TT ad g1 65 [(0, .ref 67), (1, .int (nI j))] []) :
    ∀ m k, k + m = 84 → fdF (t2 X a t d j) m k = iN X a t d j → ∀ g1 : St, Fr g g1 → LsC g1 X a t d → TbC g1 X t 84 → g1.1 67 9 = -1 → Wp K 0 0 TT ad g1 12 [(0, .ref 67), (1, .int (nI j)), (2, .int (nI k))] [] := by
  intro m
  induction m with
  | zero =>
    intro k hkm hfd g1 hfr hl hT hc9
    have ek : k = 84 := by omega
    subst ek
    refine r_iload_n (i := 2) hK dX5_seekTwo_12 rfl rfl ?_
    refine r_bipush (v := 84) hK dX5_seekTwo_13 (by decide) ?_
    refine r_icmp_ge (tgt := 65) hK dX5_seekTwo_15 (by decide) (fun _ => ?_) (fun h => absurd (by decide) h)
    refine r_loc ?_ (h65 (by rw [← hfd]; exact Nat.lt_irrefl 84) g1 hfr hl hT hc9)
    rfl
  | succ m ih =>
    intro k hkm hfd g1 hfr hl hT hc9
    have hk : k < 84 := by omega
    obtain ⟨hX1, -⟩ := id hl
    refine r_iload_n (i := 2) hK dX5_seekTwo_12 rfl rfl ?_
    refine r_bipush (v := 84) hK dX5_seekTwo_13 (by decide) ?_
    refine r_icmp_ge (tgt := 65) hK dX5_seekTwo_15 (by decide) (fun h => absurd h (nI_ge hk (by decide))) (fun _ => ?_)
    refine r_aload_n (i := 0) hK dX5_seekTwo_18 rfl rfl ?_
    refine r_iload_n (i := 1) hK dX5_seekTwo_19 rfl rfl ?_
    refine r_ci1 hK hnn (c_canBeLearnt hX1 rfl hj) moX5_canBeLearnt mlX5_61 to_67 rfl rfl dX5_seekTwo_20 (Nat.le_of_ble_eq_true rfl) (Nat.le_of_ble_eq_true rfl) (eqI ?_)
    refine r_if_eq (tgt := 59) hK dX5_seekTwo_23 (by decide) (fun h23 => ?_) (fun h23 => ?_)
    · refine r_iincN (i := 2) hK hm dX5_seekTwo_59 rfl (by decide) ?_
      refine r_goto (tgt := 12) hK dX5_seekTwo_62 (by decide) ?_
      first
        | (have hz : ¬ t2 X a t d j k = true := (by unfold t2; rw [B1_0.mp h23]; simp); refine r_loc ?_ (ih (k + 1) (by omega) (by rw [← hfd, fdF_succ, if_neg hz]) g1 hfr hl hT hc9); rfl)
        | (have hz : ¬ t2 X a t d j k = true := (by unfold t2; rw [B1_0.mp h31]; simp); refine r_loc ?_ (ih (k + 1) (by omega) (by rw [← hfd, fdF_succ, if_neg hz]) g1 hfr hl hT hc9); rfl)
        | (have hz : ¬ t2 X a t d j k = true := (by unfold t2; rw [B1_0.mp h40]; simp); refine r_loc ?_ (ih (k + 1) (by omega) (by rw [← hfd, fdF_succ, if_neg hz]) g37 (hfr.tr hf3) hl3 hT3 (hc3.trans hc9)); rfl)
    · refine r_aload_n (i := 0) hK dX5_seekTwo_26 rfl rfl ?_
      refine r_iload_n (i := 2) hK dX5_seekTwo_27 rfl rfl ?_
      refine r_ci1 hK hnn (c_canBeLearnt hX1 rfl hk) moX5_canBeLearnt mlX5_61 to_67 rfl rfl dX5_seekTwo_28 (Nat.le_of_ble_eq_true rfl) (Nat.le_of_ble_eq_true rfl) (eqI ?_)
      refine r_if_eq (tgt := 59) hK dX5_seekTwo_31 (by decide) (fun h31 => ?_) (fun h31 => ?_)
      · refine r_iincN (i := 2) hK hm dX5_seekTwo_59 rfl (by decide) ?_
        refine r_goto (tgt := 12) hK dX5_seekTwo_62 (by decide) ?_
        first
          | (have hz : ¬ t2 X a t d j k = true := (by unfold t2; rw [B1_0.mp h23]; simp); refine r_loc ?_ (ih (k + 1) (by omega) (by rw [← hfd, fdF_succ, if_neg hz]) g1 hfr hl hT hc9); rfl)
          | (have hz : ¬ t2 X a t d j k = true := (by unfold t2; rw [B1_0.mp h31]; simp); refine r_loc ?_ (ih (k + 1) (by omega) (by rw [← hfd, fdF_succ, if_neg hz]) g1 hfr hl hT hc9); rfl)
          | (have hz : ¬ t2 X a t d j k = true := (by unfold t2; rw [B1_0.mp h40]; simp); refine r_loc ?_ (ih (k + 1) (by omega) (by rw [← hfd, fdF_succ, if_neg hz]) g37 (hfr.tr hf3) hl3 hT3 (hc3.trans hc9)); rfl)
      · refine r_aload_n (i := 0) hK dX5_seekTwo_34 rfl rfl ?_
        refine r_iload_n (i := 1) hK dX5_seekTwo_35 rfl rfl ?_
        refine r_iload_n (i := 2) hK dX5_seekTwo_36 rfl rfl ?_
        refine r_ci2 hK hnn (c_areBothInTime hl hT ha ht hd hj hk (B1_n.mp h23) (B1_n.mp h31) hn rfl rfl) moX5_areBothInTime mlX5_89 to_67 rfl rfl dX5_seekTwo_37 (Nat.le_of_ble_eq_true rfl) (Nat.le_of_ble_eq_true rfl) (fun v37 g37 q37 => ?_)
        obtain ⟨rfl, hf3, hl3, hT3, hc3⟩ := q37
        refine r_if_eq (tgt := 59) hK dX5_seekTwo_40 (by decide) (fun h40 => ?_) (fun h40 => ?_)
        · refine r_iincN (i := 2) hK hm dX5_seekTwo_59 rfl (by decide) ?_
          refine r_goto (tgt := 12) hK dX5_seekTwo_62 (by decide) ?_
          first
            | (have hz : ¬ t2 X a t d j k = true := (by unfold t2; rw [B1_0.mp h23]; simp); refine r_loc ?_ (ih (k + 1) (by omega) (by rw [← hfd, fdF_succ, if_neg hz]) g1 hfr hl hT hc9); rfl)
            | (have hz : ¬ t2 X a t d j k = true := (by unfold t2; rw [B1_0.mp h31]; simp); refine r_loc ?_ (ih (k + 1) (by omega) (by rw [← hfd, fdF_succ, if_neg hz]) g1 hfr hl hT hc9); rfl)
            | (have hz : ¬ t2 X a t d j k = true := (by unfold t2; rw [B1_0.mp h40]; simp); refine r_loc ?_ (ih (k + 1) (by omega) (by rw [← hfd, fdF_succ, if_neg hz]) g37 (hfr.tr hf3) hl3 hT3 (hc3.trans hc9)); rfl)
        · refine r_aload_n (i := 0) hK dX5_seekTwo_43 rfl rfl ?_
          refine r_iconst (v := 2) hK dX5_seekTwo_44 (by decide) ?_
          refine r_putI hK flX5_58 ft5_9 to_67 rfl dX5_seekTwo_45 ?_
          refine r_aload_n (i := 0) hK dX5_seekTwo_48 rfl rfl ?_
          refine r_iload_n (i := 1) hK dX5_seekTwo_49 rfl rfl ?_
          refine r_putI hK flX5_82 ft5_10 to_67 rfl dX5_seekTwo_50 ?_
          refine r_aload_n (i := 0) hK dX5_seekTwo_53 rfl rfl ?_
          refine r_iload_n (i := 2) hK dX5_seekTwo_54 rfl rfl ?_
          refine r_putI hK flX5_93 ft5_11 to_67 rfl dX5_seekTwo_55 ?_
          refine q_vret hK hR dX5_seekTwo_58 ?_
          have hz : t2 X a t d j k = true := by unfold t2; rw [B1_n.mp h23, B1_n.mp h31, B1_n.mp h40]; rfl
          have hi : iN X a t d j = k := by rw [← hfd, fdF_succ, if_pos hz]
          have hfo := hF (by rw [hi]; exact hk)
          refine ⟨⟨fun i hi => ((upI_n (by omega)).trans ((upI_n (by omega)).trans (upI_n (by omega)))).trans ((hfr.tr hf3).1 i hi), fun i hi => (hfr.tr hf3).2 i hi⟩, Or.inl ⟨by rw [hfo]; exact hj, by rw [hfo, hi]; exact hk, ?_, ?_, ?_⟩⟩
          · rw [upd_n2 (by decide), upd_n2 (by decide), upI_s, upd_s]
          · rw [hfo, upd_n2 (by decide), upI_s, upd_s]
          · rw [hfo, hi, upI_s, upd_s]
set_option maxHeartbeats 4000000 in
set_option maxRecDepth 100000 in
theorem l_s2O {K : KT} {ad : Nat → Nat} {g : St} {X : LN} {a t d : Nat} (ha : a < X.1) (ht : t < X.1) (hd : d ≤ 999) (hn : ∀ i, i < 84 → oneB X a t d i = false) (hK : Cx K RX5 cX5_seekTwo 7 ad) (hm : K.2.2.1.2.maxLocals = 3) (hnn : Nn K 0 0)
    (hR : Rt K 0 0 TT ad none (Qv ad (fun g' => Q2 g X a t d g'))) :
    ∀ m j, j + m = 84 → fdF (o2 X a t d) m j = fo2 X a t d → ∀ g1 : St, Fr g g1 → LsC g1 X a t d → TbC g1 X t 84 → g1.1 67 9 = -1 → Wp K 0 0 TT ad g1 2 [(0, .ref 67), (1, .int (nI j))] [] := by
  intro m
  induction m with
  | zero =>
    intro j hkm hfd g1 hfr hl hT hc9
    have ek : j = 84 := by omega
    subst ek
    refine r_iload_n (i := 1) hK dX5_seekTwo_2 rfl rfl ?_
    refine r_bipush (v := 84) hK dX5_seekTwo_3 (by decide) ?_
    refine r_icmp_ge (tgt := 71) hK dX5_seekTwo_5 (by decide) (fun _ => ?_) (fun h => absurd (by decide) h)
    refine q_vret hK hR dX5_seekTwo_71 ?_
    exact ⟨hfr, Or.inr ⟨by rw [← hfd]; exact Nat.lt_irrefl 84, hc9⟩⟩
  | succ m ih =>
    intro j hkm hfd g1 hfr hl hT hc9
    have hj : j < 84 := by omega
    have hF : iN X a t d j < 84 → fo2 X a t d = j := fun h => by rw [← hfd, fdF_succ, if_pos (by unfold o2; rw [decide_eq_true_eq]; exact h)]
    have h65 : ¬ iN X a t d j < 84 → ∀ g1 : St, Fr g g1 → LsC g1 X a t d → TbC g1 X t 84 → g1.1 67 9 = -1 → Wp K 0 0 TT ad g1 65 [(0, .ref 67), (1, .int (nI j))] [] := by
      intro hno g2 hf2 hl2 hT2 hc2
      refine r_iincN (i := 1) hK hm dX5_seekTwo_65 rfl (by decide) ?_
      refine r_goto (tgt := 2) hK dX5_seekTwo_68 (by decide) ?_
      refine r_loc ?_ (ih (j + 1) (by omega) (by rw [← hfd, fdF_succ, if_neg (by unfold o2; rw [decide_eq_true_eq]; exact hno)]) g2 hf2 hl2 hT2 hc2)
      rfl
    refine r_iload_n (i := 1) hK dX5_seekTwo_2 rfl rfl ?_
    refine r_bipush (v := 84) hK dX5_seekTwo_3 (by decide) ?_
    refine r_icmp_ge (tgt := 71) hK dX5_seekTwo_5 (by decide) (fun h => absurd h (nI_ge hj (by decide))) (fun _ => ?_)
    refine r_iload_n (i := 1) hK dX5_seekTwo_8 rfl rfl ?_
    refine r_iconst (v := 1) hK dX5_seekTwo_9 (by decide) ?_
    refine r_iadd hK dX5_seekTwo_10 ?_
    refine r_top (y := nI (j + 1)) (by rw [nI_succ]) ?_
    refine r_istore_n (i := 2) hK hm dX5_seekTwo_11 rfl (by decide) ?_
    refine r_loc ?_ (l_s2I ha ht hd hn hK hm hnn hR hj hF h65 (83 - j) (j + 1) (by omega) rfl g1 hfr hl hT hc9)
    rfl
set_option maxHeartbeats 4000000 in
set_option maxRecDepth 100000 in
theorem c_seekTwo {ad : Nat → Nat} {g : St} {X : LN} {a t d : Nat} (hl : LsC g X a t d) (ha : a < X.1) (ht : t < X.1) (hd : d ≤ 999) (hn : ∀ i, i < 84 → oneB X a t d i = false) (hT : TbC g X t 84) (hc9 : g.1 67 9 = -1) : Cv 7 mX5_seekTwo [.ref 67] ad g (fun g' => Q2 g X a t d g') := by
  refine Cm.mk rfl (Nat.le_of_ble_eq_true rfl) (fun K hK hR hm hnn => ?_)
  refine r_iconst (v := 0) hK dX5_seekTwo_0 (by decide) ?_
  refine r_istore_n (i := 1) hK hm dX5_seekTwo_1 rfl (by decide) ?_
  refine r_loc ?_ (l_s2O ha ht hd hn hK hm hnn hR 84 0 (by omega) rfl g Fr.rf hl hT hc9)
  rfl
set_option maxHeartbeats 4000000 in
set_option maxRecDepth 100000 in
theorem c_learnt {ad : Nat → Nat} {g : St} {X : LN} (hX : LC g X) {a t d x : Int32} : Ci 8 mX9_learnt [.ref 0, .int a, .int t, .int d, .int x] ad g (fun v g' => v = aLnt X a t d x ∧ Fr g g') := by
  obtain ⟨hok, hpo, hlaw, x1, hW, hPs, x4⟩ := id hX
  have h10 := hok.2.1
  have h6 := hpo.1
  have h14 := hok.1
  refine Cm.mk rfl (Nat.le_of_ble_eq_true rfl) (fun K hK hR hm hnn => ?_)
  refine r_aload_n (i := 0) hK dX9_learnt_0 rfl rfl ?_
  refine r_getA hK flX9_26 to_0 rfl dX9_learnt_1 ?_
  refine r_iload_n (i := 1) hK dX9_learnt_4 rfl rfl ?_
  refine r_ci1 hK hnn (c_hasPlace lp_13 x1) moX4_hasPlace mlX9_162 to_13 rfl rfl dX9_learnt_5 (Nat.le_of_ble_eq_true rfl) (Nat.le_of_ble_eq_true rfl) (eqI ?_)
  refine r_if_eq (tgt := 22) hK dX9_learnt_8 (by decide) (fun h8 => ?_) (fun h8 => ?_)
  · refine r_ldc hK ckX9_129 dX9_learnt_22 ?_
    refine q_iret hK hR dX9_learnt_24 ?_
    refine ⟨?_, Fr.rf⟩
    have hbf : ¬ (isB a X.1 && isB t X.1) = true := by first | (rw [B1_0.mp h8]; simp; done) | (rw [B1_0.mp h19]; simp; done)
    unfold aLnt
    rw [if_neg hbf]
  · refine r_aload_n (i := 0) hK dX9_learnt_11 rfl rfl ?_
    refine r_getA hK flX9_26 to_0 rfl dX9_learnt_12 ?_
    refine r_iload_n (i := 2) hK dX9_learnt_15 rfl rfl ?_
    refine r_ci1 hK hnn (c_hasPlace lp_13 x1) moX4_hasPlace mlX9_162 to_13 rfl rfl dX9_learnt_16 (Nat.le_of_ble_eq_true rfl) (Nat.le_of_ble_eq_true rfl) (eqI ?_)
    refine r_if_ne (tgt := 25) hK dX9_learnt_19 (by decide) (fun h19 => ?_) (fun h19 => ?_)
    · refine r_iload_n (i := 3) hK dX9_learnt_25 rfl rfl ?_
      refine r_if_lt (tgt := 47) hK dX9_learnt_26 (by decide) (fun h26 => ?_) (fun h26 => ?_)
      · refine r_ldc hK ckX9_76 dX9_learnt_47 ?_
        refine q_iret hK hR dX9_learnt_49 ?_
        refine ⟨?_, Fr.rf⟩
        unfold aLnt
        rw [if_pos (by rw [B1_n.mp h8, B1_n.mp h19]; rfl), if_pos]
        first
          | exact Or.inl h26
          | exact Or.inr (Or.inl h33)
          | exact Or.inr (Or.inr (Or.inl h38))
          | exact Or.inr (Or.inr (Or.inr (Int32.not_le.mp h44)))
      · refine r_iload_n (i := 3) hK dX9_learnt_29 rfl rfl ?_
        refine r_sipush (v := 999) hK dX9_learnt_30 (by decide) ?_
        refine r_icmp_gt (tgt := 47) hK dX9_learnt_33 (by decide) (fun h33 => ?_) (fun h33 => ?_)
        · refine r_ldc hK ckX9_76 dX9_learnt_47 ?_
          refine q_iret hK hR dX9_learnt_49 ?_
          refine ⟨?_, Fr.rf⟩
          unfold aLnt
          rw [if_pos (by rw [B1_n.mp h8, B1_n.mp h19]; rfl), if_pos]
          first
            | exact Or.inl h26
            | exact Or.inr (Or.inl h33)
            | exact Or.inr (Or.inr (Or.inl h38))
            | exact Or.inr (Or.inr (Or.inr (Int32.not_le.mp h44)))
        · refine r_iload (i := 4) hK dX9_learnt_36 rfl ?_
          refine r_if_lt (tgt := 47) hK dX9_learnt_38 (by decide) (fun h38 => ?_) (fun h38 => ?_)
          · refine r_ldc hK ckX9_76 dX9_learnt_47 ?_
            refine q_iret hK hR dX9_learnt_49 ?_
            refine ⟨?_, Fr.rf⟩
            unfold aLnt
            rw [if_pos (by rw [B1_n.mp h8, B1_n.mp h19]; rfl), if_pos]
            first
              | exact Or.inl h26
              | exact Or.inr (Or.inl h33)
              | exact Or.inr (Or.inr (Or.inl h38))
              | exact Or.inr (Or.inr (Or.inr (Int32.not_le.mp h44)))
          · refine r_iload (i := 4) hK dX9_learnt_41 rfl ?_
            refine r_iconst (v := 4) hK dX9_learnt_43 (by decide) ?_
            refine r_icmp_le (tgt := 50) hK dX9_learnt_44 (by decide) (fun h44 => ?_) (fun h44 => ?_)
            · have hb1 := B1_n.mp h8
              have hb2 := B1_n.mp h19
              have hbb : (isB a X.1 && isB t X.1) = true := by rw [hb1, hb2]; rfl
              obtain ⟨ha1, ha2⟩ := isB_cl (by omega) hb1
              obtain ⟨ht1, ht2⟩ := isB_cl (by omega) hb2
              have hor : ¬ (d < 0 ∨ 999 < d ∨ x < 0 ∨ 4 < x) := (fun z => z.elim h26 (fun z => z.elim (fun y => h33 y) (fun z => z.elim h38 (fun y => absurd h44 (Int32.not_le.mpr y)))))
              obtain ⟨hd1, hd2⟩ := l0I h26 h33
              refine r_aload_n (i := 0) hK dX9_learnt_50 rfl rfl ?_
              refine r_iload_n (i := 1) hK dX9_learnt_51 rfl rfl ?_
              refine r_iload_n (i := 2) hK dX9_learnt_52 rfl rfl ?_
              refine r_ci2 hK hnn (c_farBetween hX ha2 ha1 ht2 ht1) moX9_farBetween mlX9_165 to_0 rfl rfl dX9_learnt_53 (Nat.le_of_ble_eq_true rfl) (Nat.le_of_ble_eq_true rfl) (fun v53 g53 q53 => ?_)
              obtain ⟨rfl, hfA⟩ := q53
              have hXA := LC_of hX hfA
              refine r_istore (i := 5) hK hm dX9_learnt_56 (by decide) ?_
              refine r_iload (i := 5) hK dX9_learnt_58 rfl ?_
              refine r_iconst (v := (-1)) hK dX9_learnt_60 (by decide) ?_
              refine r_icmp_eq (tgt := 70) hK dX9_learnt_61 (by decide) (fun h61 => ?_) (fun h61 => ?_)
              · refine r_iconst (v := (-1)) hK dX9_learnt_70 (by decide) ?_
                refine q_iret hK hR dX9_learnt_71 ?_
                refine ⟨?_, hfA⟩
                unfold aLnt
                rw [if_pos hbb, if_neg hor, if_pos]
                first
                  | exact Or.inl h61
                  | exact Or.inr (Int32.not_le.mp h67)
              · refine r_iload (i := 5) hK dX9_learnt_64 rfl ?_
                refine r_iload_n (i := 3) hK dX9_learnt_66 rfl rfl ?_
                refine r_icmp_le (tgt := 72) hK dX9_learnt_67 (by decide) (fun h67 => ?_) (fun h67 => ?_)
                · refine r_aload_n (i := 0) hK dX9_learnt_72 rfl rfl ?_
                  refine r_getA hK flX9_51 to_0 rfl dX9_learnt_73 ?_
                  refine r_iload_n (i := 1) hK dX9_learnt_76 rfl rfl ?_
                  refine r_iload_n (i := 2) hK dX9_learnt_77 rfl rfl ?_
                  refine r_iload_n (i := 3) hK dX9_learnt_78 rfl rfl ?_
                  refine r_cv3 hK hnn (c_begin hXA ha2 ha1 ht2 ht1 hd2 hd1) moX5_begin mlX9_253 to_67 rfl rfl dX9_learnt_79 (Nat.le_of_ble_eq_true rfl) (Nat.le_of_ble_eq_true rfl) (fun g79 q79 => ?_)
                  obtain ⟨hfB0, hlB, hcB⟩ := q79
                  have hfB := hfA.tr hfB0
                  have hfar : ¬ (farV X (nC a) (nC t) = -1 ∨ d < farV X (nC a) (nC t)) := fun z => z.elim h61 (fun y => absurd h67 (Int32.not_le.mpr y))
                  have hk : ∀ (g2 : St), Fr g g2 → g2.1 67 9 = lnC X (nC a) (nC t) (nC d) → (1 ≤ lnC X (nC a) (nC t) (nC d) → g2.1 67 10 = nI (lnF X (nC a) (nC t) (nC d)) ∧ lnF X (nC a) (nC t) (nC d) < 84) → (2 ≤ lnC X (nC a) (nC t) (nC d) → g2.1 67 11 = nI (lnS X (nC a) (nC t) (nC d)) ∧ lnS X (nC a) (nC t) (nC d) < 84) → Wp K 0 0 TT ad g2 118 [(0, .ref 0), (4, .int x)] [] := by
                    intro g2 hfA hc hf hs
                    refine r_aload_n (i := 0) hK dX9_learnt_118 rfl rfl ?_
                    refine r_getA hK flX9_51 to_0 rfl dX9_learnt_119 ?_
                    refine r_iload (i := 4) hK dX9_learnt_122 rfl ?_
                    refine r_ci1 hK hnn (c_answer2 hc hf hs) moX5_answer mlX9_265 to_67 rfl rfl dX9_learnt_124 (Nat.le_of_ble_eq_true rfl) (Nat.le_of_ble_eq_true rfl) (eqI ?_)
                    refine q_iret hK hR dX9_learnt_127 ?_
                    refine ⟨?_, hfA⟩
                    unfold aLnt
                    rw [if_pos hbb, if_neg hor, if_neg hfar]
                  refine r_aload_n (i := 0) hK dX9_learnt_82 rfl rfl ?_
                  refine r_getA hK flX9_51 to_0 rfl dX9_learnt_83 ?_
                  refine r_getI hK flX9_256 to_67 rfl dX9_learnt_86 ?_
                  refine r_iconst (v := (-1)) hK dX9_learnt_89 (by decide) ?_
                  refine r_icmp_ne (tgt := 100) hK dX9_learnt_90 (by decide) (fun h90 => ?_) (fun h90 => ?_)
                  · refine r_aload_n (i := 0) hK dX9_learnt_100 rfl rfl ?_
                    refine r_getA hK flX9_51 to_0 rfl dX9_learnt_101 ?_
                    refine r_getI hK flX9_256 to_67 rfl dX9_learnt_104 ?_
                    refine r_iconst (v := (-1)) hK dX9_learnt_107 (by decide) ?_
                    refine r_icmp_ne (tgt := 118) hK dX9_learnt_108 (by decide) (fun _ => ?_) (fun h => absurd h h90)
                    have hin : inT X.2.2.1 (vX X (nC t) false) (nC a) (nC t) (nC d) = true := by
                      by_cases z : inT X.2.2.1 (vX X (nC t) false) (nC a) (nC t) (nC d) = true
                      · exact z
                      · rw [if_neg z] at hcB; exact absurd hcB h90
                    have hcL : lnC X (nC a) (nC t) (nC d) = 0 := by unfold lnC; rw [if_pos hin]
                    refine r_loc ?_ (hk g79 hfB (by rw [hcL, hcB, if_pos hin]) (fun z => absurd z (by rw [hcL]; decide)) (fun z => absurd z (by rw [hcL]; decide)))
                    rfl
                  · refine r_aload_n (i := 0) hK dX9_learnt_93 rfl rfl ?_
                    refine r_getA hK flX9_51 to_0 rfl dX9_learnt_94 ?_
                    refine r_cv0 hK hnn (c_seekOne hlB ha1 ht1 hd1 h90) moX5_seekOne mlX9_259 to_67 rfl rfl dX9_learnt_97 (Nat.le_of_ble_eq_true rfl) (Nat.le_of_ble_eq_true rfl) (fun g97 q97 => ?_)
                    obtain ⟨hfC0, hQ1⟩ := q97
                    have hfC := hfB.tr hfC0
                    refine r_aload_n (i := 0) hK dX9_learnt_100 rfl rfl ?_
                    refine r_getA hK flX9_51 to_0 rfl dX9_learnt_101 ?_
                    refine r_getI hK flX9_256 to_67 rfl dX9_learnt_104 ?_
                    refine r_iconst (v := (-1)) hK dX9_learnt_107 (by decide) ?_
                    refine r_icmp_ne (tgt := 118) hK dX9_learnt_108 (by decide) (fun h108 => ?_) (fun h108 => ?_)
                    · have hni : ¬ inT X.2.2.1 (vX X (nC t) false) (nC a) (nC t) (nC d) = true := fun z => by
                        rw [if_pos z] at hcB; rw [hcB] at h90; exact absurd h90 (by decide)
                      obtain ⟨h1a, h1b, h1c⟩ | ⟨-, -, h1b, -⟩ := hQ1
                      · have hcL : lnC X (nC a) (nC t) (nC d) = 1 := by unfold lnC; rw [if_neg hni, if_pos h1a]
                        refine r_loc ?_ (hk g97 hfC (by rw [hcL, h1b]) (fun _ => ⟨by unfold lnF; rw [if_pos h1a]; exact h1c, by unfold lnF; rw [if_pos h1a]; exact h1a⟩) (fun z => absurd z (by rw [hcL]; decide)))
                        rfl
                      · exact absurd h1b h108
                    · have hni : ¬ inT X.2.2.1 (vX X (nC t) false) (nC a) (nC t) (nC d) = true := fun z => by
                        rw [if_pos z] at hcB; rw [hcB] at h90; exact absurd h90 (by decide)
                      obtain ⟨-, h1b, -⟩ | ⟨h1n, hlC, h1b, hTC⟩ := hQ1
                      · rw [h1b] at h108; exact absurd h108 (by decide)
                      have hnO : ∀ i, i < 84 → oneB X (nC a) (nC t) (nC d) i = false := fo1_none h1n
                      refine r_aload_n (i := 0) hK dX9_learnt_111 rfl rfl ?_
                      refine r_getA hK flX9_51 to_0 rfl dX9_learnt_112 ?_
                      refine r_cv0 hK hnn (c_seekTwo hlC ha1 ht1 hd1 hnO hTC h108) moX5_seekTwo mlX9_262 to_67 rfl rfl dX9_learnt_115 (Nat.le_of_ble_eq_true rfl) (Nat.le_of_ble_eq_true rfl) (fun g115 q115 => ?_)
                      obtain ⟨hfD0, hQ2⟩ := q115
                      have hfD := hfC.tr hfD0
                      obtain ⟨h2a, h2i, h2b, h2c, h2d⟩ | ⟨h2n, h2b⟩ := hQ2
                      · have hcL : lnC X (nC a) (nC t) (nC d) = 2 := by unfold lnC; rw [if_neg hni, if_neg h1n, if_pos h2a]
                        refine r_loc ?_ (hk g115 hfD (by rw [hcL, h2b]) (fun _ => ⟨by unfold lnF; rw [if_neg h1n]; exact h2c, by unfold lnF; rw [if_neg h1n]; exact h2a⟩) (fun _ => ⟨h2d, h2i⟩))
                        rfl
                      · have hcL : lnC X (nC a) (nC t) (nC d) = -1 := by unfold lnC; rw [if_neg hni, if_neg h1n, if_neg h2n]
                        refine r_loc ?_ (hk g115 hfD (by rw [hcL, h2b]) (fun z => absurd z (by rw [hcL]; decide)) (fun z => absurd z (by rw [hcL]; decide)))
                        rfl
                · refine r_iconst (v := (-1)) hK dX9_learnt_70 (by decide) ?_
                  refine q_iret hK hR dX9_learnt_71 ?_
                  refine ⟨?_, hfA⟩
                  unfold aLnt
                  rw [if_pos hbb, if_neg hor, if_pos]
                  first
                    | exact Or.inl h61
                    | exact Or.inr (Int32.not_le.mp h67)
            · refine r_ldc hK ckX9_76 dX9_learnt_47 ?_
              refine q_iret hK hR dX9_learnt_49 ?_
              refine ⟨?_, Fr.rf⟩
              unfold aLnt
              rw [if_pos (by rw [B1_n.mp h8, B1_n.mp h19]; rfl), if_pos]
              first
                | exact Or.inl h26
                | exact Or.inr (Or.inl h33)
                | exact Or.inr (Or.inr (Or.inl h38))
                | exact Or.inr (Or.inr (Or.inr (Int32.not_le.mp h44)))
    · refine r_ldc hK ckX9_129 dX9_learnt_22 ?_
      refine q_iret hK hR dX9_learnt_24 ?_
      refine ⟨?_, Fr.rf⟩
      have hbf : ¬ (isB a X.1 && isB t X.1) = true := by first | (rw [B1_0.mp h8]; simp; done) | (rw [B1_0.mp h19]; simp; done)
      unfold aLnt
      rw [if_neg hbf]
