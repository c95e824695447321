/-! LEAVES: at, put, and the small ones of the class -/
theorem eqI {K : KT} {n1 n2 : Nat} {ad : Nat → Nat} {s : St} {pc : Nat} {lv : List (Nat × Value)} {st : List Value} {e : Int32} (k : Wp K n1 n2 TT ad s pc lv (.int e :: st)) : ∀ (v : Int32) (g' : St), v = e ∧ g' = s → Wp K n1 n2 TT ad g' pc lv (.int v :: st) := fun v g' h => by rw [h.1, h.2]; exact k
theorem eqL {K : KT} {n1 n2 : Nat} {ad : Nat → Nat} {s : St} {pc : Nat} {lv : List (Nat × Value)} {st : List Value} {e : Int64} (k : Wp K n1 n2 TT ad s pc lv (.long e :: st)) : ∀ (v : Int64) (g' : St), v = e ∧ g' = s → Wp K n1 n2 TT ad g' pc lv (.long v :: st) := fun v g' h => by rw [h.1, h.2]; exact k
theorem eqA {K : KT} {n1 n2 : Nat} {ad : Nat → Nat} {s : St} {pc : Nat} {lv : List (Nat × Value)} {st : List Value} {e : Nat} (k : Wp K n1 n2 TT ad s pc lv (.ref e :: st)) : ∀ (v : Nat) (g' : St), v = e ∧ g' = s → Wp K n1 n2 TT ad g' pc lv (.ref v :: st) := fun v g' h => by rw [h.1, h.2]; exact k
theorem eqV {K : KT} {n1 n2 : Nat} {ad : Nat → Nat} {s : St} {pc : Nat} {lv : List (Nat × Value)} {st : List Value} (k : Wp K n1 n2 TT ad s pc lv st) : ∀ g' : St, g' = s → Wp K n1 n2 TT ad g' pc lv st := fun g' h => by rw [h]; exact k
def atF (f : Nat → Int32) (n : Nat) (i : Int32) : Int32 := if i < 0 then -1 else if nI n ≤ i then -1 else f i.toNatClampNeg
def ptF (g : St) (r n : Nat) (i x : Int32) : St := if i < 0 then g else if nI n ≤ i then g else upI g r i.toNatClampNeg x
theorem in_of {i : Int32} {n : Nat} (hn : n < 2 ^ 31) (h1 : ¬ i < 0) (h2 : ¬ nI n ≤ i) : vp_in i n := by
  obtain ⟨j, hj, rfl⟩ := nI_of h1
  refine vp_in_nI ?_ hn
  rcases Nat.lt_or_ge j n with q | q
  · exact q
  · exact absurd (nI_le q hj) h2
theorem atF_in {f : Nat → Int32} {n k : Nat} (hk : k < n) (hn : n < 2 ^ 31) : atF f n (nI k) = f k := by
  unfold atF
  rw [if_neg (nI_pos (by omega)), if_neg (nI_ge hk hn), nI_clamp (by omega)]
theorem atF_lo {f : Nat → Int32} {n : Nat} {i : Int32} (h : i < 0) : atF f n i = -1 := by unfold atF; rw [if_pos h]
theorem atF_hi {f : Nat → Int32} {n k : Nat} (hk : n ≤ k) (hk2 : k < 2 ^ 31) : atF f n (nI k) = -1 := by
  unfold atF
  rw [if_neg (nI_pos hk2), if_pos (nI_le hk hk2)]
theorem ptF_in {g : St} {r n k : Nat} {x : Int32} (hk : k < n) (hn : n < 2 ^ 31) : ptF g r n (nI k) x = upI g r k x := by
  unfold ptF
  rw [if_neg (nI_pos (by omega)), if_neg (nI_ge hk hn), nI_clamp (by omega)]

set_option maxHeartbeats 4000000 in
set_option maxRecDepth 100000 in
theorem c_at {ad : Nat → Nat} {g : St} {r n : Nat} {rs : List Nat} {i : Int32} (hr : TT[r]? = some (.inr (0, n, rs))) (hn : n < 2 ^ 31) : Ci 1 mX9_at [.ref r, .int i] ad g (fun v g' => v = atF (g.1 r) n i ∧ g' = g) := by
  refine Cm.mk rfl (Nat.le_of_ble_eq_true rfl) (fun K hK hR hm hnn => ?_)
  refine r_iload_n (i := 1) hK dX9_at_0 rfl rfl ?_
  refine r_if_lt (tgt := 16) hK dX9_at_1 (by decide) (fun h1 => ?_) (fun h1 => ?_)
  · refine r_iconst (v := (-1)) hK dX9_at_16 (by decide) ?_
    refine q_iret hK hR dX9_at_17 ?_
    exact ⟨by simp [atF, *], rfl⟩
  · refine r_iload_n (i := 1) hK dX9_at_4 rfl rfl ?_
    refine r_aload_n (i := 0) hK dX9_at_5 rfl rfl ?_
    refine r_alen (v := (nI n)) hK hr (by decide) (by first | rfl | decide) dX9_at_6 ?_
    refine r_icmp_ge (tgt := 16) hK dX9_at_7 (by decide) (fun h7 => ?_) (fun h7 => ?_)
    · refine r_iconst (v := (-1)) hK dX9_at_16 (by decide) ?_
      refine q_iret hK hR dX9_at_17 ?_
      exact ⟨by simp [atF, *], rfl⟩
    · refine r_aload_n (i := 0) hK dX9_at_10 rfl rfl ?_
      refine r_iload_n (i := 1) hK dX9_at_11 rfl rfl ?_
      refine r_iald hK hr (in_of hn (by assumption) (by assumption)) dX9_at_12 ?_
      refine r_goto (tgt := 17) hK dX9_at_13 (by decide) ?_
      refine q_iret hK hR dX9_at_17 ?_
      exact ⟨by simp [atF, *], rfl⟩
set_option maxHeartbeats 4000000 in
set_option maxRecDepth 100000 in
theorem c_put {ad : Nat → Nat} {g : St} {r n : Nat} {rs : List Nat} {i x : Int32} (hr : TT[r]? = some (.inr (0, n, rs))) (hn : n < 2 ^ 31) : Cv 1 mX9_put [.ref r, .int i, .int x] ad g (fun g' => g' = ptF g r n i x) := by
  refine Cm.mk rfl (Nat.le_of_ble_eq_true rfl) (fun K hK hR hm hnn => ?_)
  refine r_iload_n (i := 1) hK dX9_put_0 rfl rfl ?_
  refine r_if_lt (tgt := 14) hK dX9_put_1 (by decide) (fun h1 => ?_) (fun h1 => ?_)
  · refine q_vret hK hR dX9_put_14 ?_
    simp [ptF, *]
  · refine r_iload_n (i := 1) hK dX9_put_4 rfl rfl ?_
    refine r_aload_n (i := 0) hK dX9_put_5 rfl rfl ?_
    refine r_alen (v := (nI n)) hK hr (by decide) (by first | rfl | decide) dX9_put_6 ?_
    refine r_icmp_ge (tgt := 14) hK dX9_put_7 (by decide) (fun h7 => ?_) (fun h7 => ?_)
    · refine q_vret hK hR dX9_put_14 ?_
      simp [ptF, *]
    · refine r_aload_n (i := 0) hK dX9_put_10 rfl rfl ?_
      refine r_iload_n (i := 1) hK dX9_put_11 rfl rfl ?_
      refine r_iload_n (i := 2) hK dX9_put_12 rfl rfl ?_
      refine r_iast hK hr (in_of hn (by assumption) (by assumption)) dX9_put_13 ?_
      refine q_vret hK hR dX9_put_14 ?_
      simp [ptF, *]
