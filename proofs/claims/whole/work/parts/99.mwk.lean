/-! THE MODEL: the words by their numbers -/
def sxN : List (List Nat) := [[112, 108, 97, 99, 101, 115], [119, 97, 121], [112, 101, 114, 115, 111, 110], [115, 105, 108, 101, 110, 116], [102, 105, 114, 115, 116], [101, 114, 114, 97, 110, 100], [119, 104, 111, 108, 101], [107, 110, 111, 119, 115]]
def cN (k i : Nat) : Nat := (sxN.getD k []).getD i 0
theorem k8 {k : Nat} (h : k < 8) : k = 0 ∨ k = 1 ∨ k = 2 ∨ k = 3 ∨ k = 4 ∨ k = 5 ∨ k = 6 ∨ k = 7 := by omega
theorem cN_all : ∀ k, k < 8 → (∀ i, i < sxLen.getD k 0 → (97 ≤ cN k i ∧ cN k i ≤ 122) ∧ chS k i = nI (cN k i)) ∧ cw (cN k) (sxLen.getD k 0) ≤ 1000000000000 ∧ 1 ≤ sxLen.getD k 0 := by
  decide
theorem wdF_i {c : CT} {s k : Nat} : ∀ m i b, wdF c s k m i b = true ↔ b = true ∧ ∀ j, i ≤ j → j < i + m → wdE c s k j = true
  | 0, i, b => ⟨fun h => ⟨h, fun j h1 h2 => by omega⟩, fun h => h.1⟩
  | m + 1, i, b => by
    rw [wdF_s]
    by_cases e : b = true
    · rw [if_pos e, wdF_i m (i + 1)]
      constructor
      · rintro ⟨h1, h2⟩
        refine ⟨e, fun j a b => ?_⟩
        by_cases q : j = i
        · rw [q]; exact h1
        · exact h2 j (by omega) (by omega)
      · rintro ⟨_, h2⟩
        exact ⟨h2 i (Nat.le_refl i) (by omega), fun j a b => h2 j (by omega) (by omega)⟩
    · rw [if_neg e]
      exact ⟨fun z => (by cases z), fun z => absurd z.1 e⟩
theorem w_iff {n : Nat} {c : CT} (hT : tOk n c) {s k : Nat} (hk : k < 8) : isW c s k = true ↔ wc c s (wl c s) = cw (cN k) (sxLen.getD k 0) := by
  obtain ⟨h1, h2, h3⟩ := cN_all k hk
  rw [wc_cw (sxLen.getD k 0) (wl c s) (fun i hi => (h1 i hi).1) (fun i hi => wl_lt hi) h2]
  unfold isW
  rw [wdF_i]
  have hwe : ∀ i, i < sxLen.getD k 0 → (wdE c s k i = true ↔ c (s + i) = cN k i) := fun i hi => by
    obtain ⟨⟨a1, a2⟩, a3⟩ := h1 i hi
    unfold wdE
    rw [decide_eq_true_eq, a3]
    exact cI_eq (tOk_b hT _) (by omega)
  simp only [Bool.and_eq_true, decide_eq_true_eq]
  constructor
  · rintro ⟨⟨q1, q2⟩, q3⟩
    exact ⟨(tl_wl q1).symm.trans q2, fun i hi => (hwe i hi).mp (q3 i (Nat.zero_le i) (by omega))⟩
  · rintro ⟨q1, q2⟩
    have q3 : lt (c s) = true := wl_lt (c := c) (s := s) (i := 0) (by omega)
    exact ⟨⟨q3, (tl_wl q3).trans q1⟩, fun i _ hi => (hwe i (by omega)).mpr (q2 i (by omega))⟩

set_option maxHeartbeats 4000000 in
set_option maxRecDepth 100000 in
theorem c_mCode {ad : Nat → Nat} {g : St} {a b d : Nat} {x y z : Int32} (hx : x = nI a) (hy : y = nI b) (hz : z = nI d) (ha : 97 ≤ a ∧ a ≤ 122) (hb : 97 ≤ b ∧ b ≤ 122) (hd : 97 ≤ d ∧ d ≤ 122) : Cl 1 mX10_code [.int x, .int y, .int z] ad g (fun v g' => v = lN (27 * (27 * (a - 96) + b - 96) + d - 96) ∧ g' = g) := by
  subst hx
  subst hy
  subst hz
  refine Cm.mk rfl (Nat.le_of_ble_eq_true rfl) (fun K hK hR hm hnn => ?_)
  refine r_ldc2 hK ckX10_165 dX10_code_0 ?_
  refine r_ldc2 hK ckX10_165 dX10_code_3 ?_
  refine r_iload_n (i := 0) hK dX10_code_6 rfl rfl ?_
  refine r_i2l hK dX10_code_7 ?_
  refine r_topL (y := lN a) (nI_l (by omega)) ?_
  refine r_ldc2 hK ckX10_167 dX10_code_8 ?_
  refine r_lsub hK dX10_code_11 ?_
  refine r_topL (y := lN (a - 96)) (lN_sub (a := a) (b := 96) (by omega)) ?_
  refine r_lmul hK dX10_code_12 ?_
  refine r_topL (y := lN (27 * (a - 96))) (lN_mul 27 _) ?_
  refine r_iload_n (i := 1) hK dX10_code_13 rfl rfl ?_
  refine r_i2l hK dX10_code_14 ?_
  refine r_topL (y := lN b) (nI_l (by omega)) ?_
  refine r_ladd hK dX10_code_15 ?_
  refine r_topL (y := lN (27 * (a - 96) + b)) (lN_add _ _) ?_
  refine r_ldc2 hK ckX10_167 dX10_code_16 ?_
  refine r_lsub hK dX10_code_19 ?_
  refine r_topL (y := lN (27 * (a - 96) + b - 96)) (lN_sub (b := 96) (by omega)) ?_
  refine r_lmul hK dX10_code_20 ?_
  refine r_topL (y := lN (27 * (27 * (a - 96) + b - 96))) (lN_mul 27 _) ?_
  refine r_iload_n (i := 2) hK dX10_code_21 rfl rfl ?_
  refine r_i2l hK dX10_code_22 ?_
  refine r_topL (y := lN d) (nI_l (by omega)) ?_
  refine r_ladd hK dX10_code_23 ?_
  refine r_topL (y := lN (27 * (27 * (a - 96) + b - 96) + d)) (lN_add _ _) ?_
  refine r_ldc2 hK ckX10_167 dX10_code_24 ?_
  refine r_lsub hK dX10_code_27 ?_
  refine r_topL (y := lN (27 * (27 * (a - 96) + b - 96) + d - 96)) (lN_sub (b := 96) (by omega)) ?_
  refine q_lret hK hR dX10_code_28 ?_
  exact ⟨rfl, rfl⟩
set_option maxHeartbeats 4000000 in
set_option maxRecDepth 100000 in
theorem c_mLong1 {ad : Nat → Nat} {g : St} {v a : Nat} {l : Int64} {x y : Int32} (hl : l = lN v) (hx : x = nI a) (hy : y = 0) (ha : 97 ≤ a ∧ a ≤ 122) : Cl 1 mX10_longer [.long l, .int x, .int y] ad g (fun r g' => r = lN (27 * v + a - 96) ∧ g' = g) := by
  subst hl
  subst hx
  subst hy
  refine Cm.mk rfl (Nat.le_of_ble_eq_true rfl) (fun K hK hR hm hnn => ?_)
  refine r_iload_n (i := 3) hK dX10_longer_0 rfl rfl ?_
  refine r_if_ne (tgt := 19) hK dX10_longer_1 (by decide) (fun h => absurd rfl h) (fun _ => ?_)
  refine r_ldc2 hK ckX10_165 dX10_longer_4 ?_
  refine r_lload_n (i := 0) hK dX10_longer_7 rfl rfl ?_
  refine r_lmul hK dX10_longer_8 ?_
  refine r_topL (y := lN (27 * v)) (lN_mul 27 _) ?_
  refine r_iload_n (i := 2) hK dX10_longer_9 rfl rfl ?_
  refine r_i2l hK dX10_longer_10 ?_
  refine r_topL (y := lN a) (nI_l (by omega)) ?_
  refine r_ladd hK dX10_longer_11 ?_
  refine r_topL (y := lN (27 * v + a)) (lN_add _ _) ?_
  refine r_ldc2 hK ckX10_167 dX10_longer_12 ?_
  refine r_lsub hK dX10_longer_15 ?_
  refine r_topL (y := lN (27 * v + a - 96)) (lN_sub (b := 96) (by omega)) ?_
  refine r_goto (tgt := 42) hK dX10_longer_16 (by decide) ?_
  refine q_lret hK hR dX10_longer_42 ?_
  exact ⟨rfl, rfl⟩
set_option maxHeartbeats 4000000 in
set_option maxRecDepth 100000 in
theorem c_mLong2 {ad : Nat → Nat} {g : St} {v a b : Nat} {l : Int64} {x y : Int32} (hl : l = lN v) (hx : x = nI a) (hy : y = nI b) (ha : 97 ≤ a ∧ a ≤ 122) (hb : 97 ≤ b ∧ b ≤ 122) : Cl 1 mX10_longer [.long l, .int x, .int y] ad g (fun r g' => r = lN (27 * (27 * v + a - 96) + b - 96) ∧ g' = g) := by
  subst hl
  subst hx
  subst hy
  refine Cm.mk rfl (Nat.le_of_ble_eq_true rfl) (fun K hK hR hm hnn => ?_)
  refine r_iload_n (i := 3) hK dX10_longer_0 rfl rfl ?_
  refine r_if_ne (tgt := 19) hK dX10_longer_1 (by decide) (fun _ => ?_) (fun h => absurd h (nI_ne0 (by omega) (by omega)))
  refine r_ldc2 hK ckX10_165 dX10_longer_19 ?_
  refine r_ldc2 hK ckX10_165 dX10_longer_22 ?_
  refine r_lload_n (i := 0) hK dX10_longer_25 rfl rfl ?_
  refine r_lmul hK dX10_longer_26 ?_
  refine r_topL (y := lN (27 * v)) (lN_mul 27 _) ?_
  refine r_iload_n (i := 2) hK dX10_longer_27 rfl rfl ?_
  refine r_i2l hK dX10_longer_28 ?_
  refine r_topL (y := lN a) (nI_l (by omega)) ?_
  refine r_ladd hK dX10_longer_29 ?_
  refine r_topL (y := lN (27 * v + a)) (lN_add _ _) ?_
  refine r_ldc2 hK ckX10_167 dX10_longer_30 ?_
  refine r_lsub hK dX10_longer_33 ?_
  refine r_topL (y := lN (27 * v + a - 96)) (lN_sub (b := 96) (by omega)) ?_
  refine r_lmul hK dX10_longer_34 ?_
  refine r_topL (y := lN (27 * (27 * v + a - 96))) (lN_mul 27 _) ?_
  refine r_iload_n (i := 3) hK dX10_longer_35 rfl rfl ?_
  refine r_i2l hK dX10_longer_36 ?_
  refine r_topL (y := lN b) (nI_l (by omega)) ?_
  refine r_ladd hK dX10_longer_37 ?_
  refine r_topL (y := lN (27 * (27 * v + a - 96) + b)) (lN_add _ _) ?_
  refine r_ldc2 hK ckX10_167 dX10_longer_38 ?_
  refine r_lsub hK dX10_longer_41 ?_
  refine r_topL (y := lN (27 * (27 * v + a - 96) + b - 96)) (lN_sub (b := 96) (by omega)) ?_
  refine q_lret hK hR dX10_longer_42 ?_
  exact ⟨rfl, rfl⟩
