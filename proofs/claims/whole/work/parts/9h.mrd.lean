/-! THE MODEL: land -/
theorem isW_pos {c : CT} {s k : Nat} (hk : k < 8) (h : isW c s k = true) : 1 ≤ tL c s := by
  unfold isW at h
  have h2 := ((wdF_i _ _ _).mp h).1
  simp only [Bool.and_eq_true, decide_eq_true_eq] at h2
  rw [h2.2]
  obtain rfl | rfl | rfl | rfl | rfl | rfl | rfl | rfl : k = 0 ∨ k = 1 ∨ k = 2 ∨ k = 3 ∨ k = 4 ∨ k = 5 ∨ k = 6 ∨ k = 7 := by omega
  all_goals decide
theorem nx_t {c : CT} {s : Nat} : s + tL c s ≤ nx c s := sk_ge c _
theorem knS_ge {n wn : Nat} {c : CT} (hT : tOk n c) : ∀ m set (F : FP) s, s ≤ n → s ≤ (knS c wn m set F s).2.2
  | 0, set, F, s, _ => Nat.le_refl s
  | m + 1, set, F, s, hs => by
    have b1 := nx_le hT hs
    have b2 := nx_le hT b1.2
    unfold knS
    split
    · split
      · exact Nat.le_trans (Nat.le_trans b1.1 b2.1) (knS_ge hT m _ _ _ b2.2)
      · exact Nat.le_trans b1.1 b2.1
    · exact Nat.le_refl s
theorem pR_ge {n : Nat} {c : CT} (hT : tOk n c) (np wn : Nat) {s : Nat} (hs : s ≤ n) : nx c s ≤ (pR c np wn s).2.2 := by
  have n1 := nx_le hT hs
  have n2 := nx_le hT n1.2
  have n3 := nx_le hT n2.2
  have n4 := nx_le hT n3.2
  have n5 := nx_le hT n4.2
  unfold pR
  split
  · exact Nat.le_trans (by omega) (knS_ge hT 400 0 _ _ n5.2)
  · show nx c s ≤ nx c (nx c (nx c (nx c (nx c s)))); omega
theorem clS_lt {n : Nat} {c : CT} (hT : tOk n c) {A : DR} {s : Nat} (hs : s ≤ n) (h14 : A.2.1.1 ≤ 14) (h : (clS c A (0, 0) s).2.1.1 = 0) : s + 1 ≤ (clS c A (0, 0) s).2.2 ∧ (clS c A (0, 0) s).2.2 ≤ n := by
  have n1 := nx_le hT hs
  have n2 := nx_le hT n1.2
  have n3 := nx_le hT n2.2
  have n4 := nx_le hT n3.2
  have n5 := nx_le hT n4.2
  have ht := nx_t (c := c) (s := s)
  by_cases h0 : isW c s 0 = true
  · have hp := isW_pos (by decide) h0
    rw [clS_p h0] at h ⊢
    unfold clP at h ⊢
    split
    · rename_i z; rw [if_pos z] at h; exact absurd h (bl_n (by decide))
    · exact ⟨by show s + 1 ≤ nx c (nx c (nx c s)); omega, n3.2⟩
  · by_cases h1 : isW c s 1 = true ∧ 0 < A.1
    · have hp := isW_pos (by decide) h1.1
      rw [clS_w h0 h1.1 h1.2] at h ⊢
      by_cases z : 14 ≤ A.2.1.1
      · unfold clW at h; rw [if_pos z] at h; exact absurd h (bl_n (by decide))
      · rw [clW_w z]
        exact ⟨by show s + 1 ≤ nx c (nx c (nx c (nx c (nx c s)))); omega, n5.2⟩
    · by_cases h2 : isW c s 2 = true ∧ 0 < A.1
      · have hp := isW_pos (by decide) h2.1
        rw [clS_q h0 (fun z => h1 ⟨z, h2.2⟩) h2.1 h2.2] at h ⊢
        by_cases z : 6 ≤ A.2.2.1.1
        · unfold clQ at h; rw [if_pos z] at h; exact absurd h (bl_n (by decide))
        · have hpr := (pR_ok (c := c) hT (np := A.1) hs h14).2
          have hge := pR_ge (c := c) hT A.1 A.2.1.1 hs
          rw [clQ_p z]
          have n9 := nx_le hT hpr
          exact ⟨by show s + 1 ≤ nx c (pR c A.1 A.2.1.1 s).2.2; omega, n9.2⟩
      · rw [clS_n h0 (by
          rcases Nat.eq_zero_or_pos A.1 with z | z
          · exact Or.inl (by omega)
          · exact Or.inr ⟨fun q => h1 ⟨q, z⟩, fun q => h2 ⟨q, z⟩⟩)] at h
        exact absurd h (bl_n (by decide))
/-- a memory that holds a draft -/
def mG (A : DR) : St := (fun j k => if j = 91 then (if k = 21 then nI A.1 else if k = 22 then nI A.2.1.1 else if k = 26 then nI A.2.2.1.1 else 0) else if j = 101 then nI (A.2.1.2.1 k) else if j = 102 then nI (A.2.1.2.2.1 k) else if j = 103 then nI (A.2.1.2.2.2 k) else if j = 104 then nI (A.2.2.1.2.1 k) else if j = 105 then nI (A.2.2.1.2.2.1 k) else if j = 106 then nI (A.2.2.1.2.2.2 k) else if j = 107 then nI (A.2.2.2.1 k) else if j = 108 then nI (A.2.2.2.2 k) else 0, fun _ _ => 0)
theorem knS_00 {c : CT} {wn : Nat} : ∀ m set s, (knS c wn m set (0, 0) s).2.1.1 = 0 → (knS c wn m set (0, 0) s).2.1 = (0, 0)
  | 0, set, s, _ => rfl
  | m + 1, set, s, h => by
    obtain ⟨F1, q1⟩ : ∃ x, x = seF c (0, 0) (nx c s) (nI 0) (nI wn - 1) := ⟨_, rfl⟩
    obtain ⟨F2, q2⟩ : ∃ x, x = (if F1.1 = 0 ∧ set.testBit (tV c (nx c s)) = true then bl F1 4 (nx c s) else F1) := ⟨_, rfl⟩
    obtain ⟨set2, q3⟩ : ∃ x, x = (if F1.1 = 0 then set ||| 1 <<< tV c (nx c s) else set) := ⟨_, rfl⟩
    rw [knS_s rfl rfl rfl q1 q2 q3] at h ⊢
    have hF2 : F2.1 = 0 → F2 = (0, 0) := fun z => by
      rw [q2] at z ⊢
      split
      · rename_i y; rw [if_pos y] at z; exact absurd z (bl_n (by decide))
      · rename_i y; rw [if_neg y] at z; rw [q1] at z ⊢; exact (seF_0 z).1
    split
    · rename_i y
      rw [if_pos y] at h
      by_cases hz : F2.1 = 0
      · rw [hF2 hz] at h ⊢
        exact knS_00 m set2 _ h
      · rw [knS_n hz] at h; exact absurd h hz
    · rename_i y
      rw [if_neg y] at h
      exact hF2 h
theorem pR_00 {c : CT} {np wn s : Nat} (h : (pR c np wn s).2.1.1 = 0) : (pR c np wn s).2.1 = (0, 0) := by
  have hF : (pF c np s).1 = 0 := Decidable.byContradiction (fun z => z (by rw [pR_bad z] at h; exact h))
  have e : pF c np s = (0, 0) := by
    unfold pF at hF ⊢
    obtain ⟨a1, a2⟩ := habG_0 hF
    have e1 := (seF_0 a2)
    have e2 := (seF_0 e1.2.1)
    have e3 := (seF_0 e2.2.1)
    unfold habG
    rw [if_pos a1, e1.1, e2.1, e3.1]
  unfold pR at h ⊢
  rw [e] at h ⊢
  split
  · rename_i y; rw [if_pos y] at h; exact knS_00 400 0 _ h
  · rfl
theorem clS_00 {c : CT} {A : DR} {s : Nat} (h : (clS c A (0, 0) s).2.1.1 = 0) : (clS c A (0, 0) s).2.1 = (0, 0) := by
  have k1 : ∀ {F : FP} {k q : Nat}, (bl F k q).1 = 0 → k ≠ 0 → False := fun {F k q} z hk => by
    unfold bl at z
    split at z
    · exact hk z
    · rename_i y; exact y z
  have kse : ∀ {F : FP} {q : Nat} {lo hi : Int32}, (seF c F q lo hi).1 = 0 → seF c F q lo hi = F ∧ F.1 = 0 := fun z => ⟨(seF_0 z).1, (seF_0 z).2.1⟩
  by_cases h0 : isW c s 0 = true
  · rw [clS_p h0] at h ⊢
    unfold clP at h ⊢
    split
    · rename_i z; rw [if_pos z] at h; exact (k1 h (by decide)).elim
    · rename_i z
      rw [if_neg z] at h
      obtain ⟨e1, e2, -⟩ := sgF_0 h
      show sgF c _ _ _ = _
      rw [e1]
      exact (kse e2).1
  · by_cases h1 : isW c s 1 = true ∧ 0 < A.1
    · rw [clS_w h0 h1.1 h1.2] at h ⊢
      by_cases z : 14 ≤ A.2.1.1
      · unfold clW at h; rw [if_pos z] at h; exact (k1 h (by decide)).elim
      · rw [clW_w z] at h ⊢
        obtain ⟨e1, e2, -⟩ := sgF_0 h
        show sgF c _ _ _ = _
        rw [e1]
        unfold wF at e2 ⊢
        obtain ⟨e3, e4⟩ := kse e2
        rw [e3]
        unfold wF3 at e4 ⊢
        split
        · rename_i y; rw [if_pos y] at e4; exact (k1 e4 (by decide)).elim
        · rename_i y
          rw [if_neg y] at e4
          obtain ⟨e5, e6⟩ := kse e4
          rw [e5]
          exact (kse e6).1
    · by_cases h2 : isW c s 2 = true ∧ 0 < A.1
      · rw [clS_q h0 (fun z => h1 ⟨z, h2.2⟩) h2.1 h2.2] at h ⊢
        by_cases z : 6 ≤ A.2.2.1.1
        · unfold clQ at h; rw [if_pos z] at h; exact (k1 h (by decide)).elim
        · rw [clQ_p z] at h ⊢
          obtain ⟨e1, e2, -⟩ := sgF_0 h
          show sgF c _ _ _ = _
          rw [e1]
          exact pR_00 e2
      · rw [clS_n h0 (by
          rcases Nat.eq_zero_or_pos A.1 with z | z
          · exact Or.inl (by omega)
          · exact Or.inr ⟨fun q => h1 ⟨q, z⟩, fun q => h2 ⟨q, z⟩⟩)] at h
        exact (k1 h (by decide)).elim
theorem clS_wp {n : Nat} {c : CT} (hT : tOk n c) {A : DR} {s : Nat} (hs : s ≤ n) (hA : wOk A.1 A.2.1 ∧ pOk A.1 A.2.2.1 A.2.2.2.1 A.2.2.2.2) (h : (clS c A (0, 0) s).2.1.1 = 0) : wOk (clS c A (0, 0) s).1.1 (clS c A (0, 0) s).1.2.1 ∧ pOk (clS c A (0, 0) s).1.1 (clS c A (0, 0) s).1.2.2.1 (clS c A (0, 0) s).1.2.2.2.1 (clS c A (0, 0) s).1.2.2.2.2 := by
  have hg : MDr (mG A) A := ⟨hA.1, hA.2, rfl, ⟨rfl, fun w _ => ⟨rfl, rfl, rfl⟩⟩, rfl, fun w _ => ⟨rfl, rfl, rfl, rfl, rfl⟩⟩
  have hnp9 := hA.1.2.1
  have h14 := hA.1.1
  have key : ∀ {g' : St} {B : DR}, MDr g' B → wOk B.1 B.2.1 ∧ pOk B.1 B.2.2.1 B.2.2.2.1 B.2.2.2.2 := fun z => ⟨z.1, z.2.1⟩
  by_cases h0 : isW c s 0 = true
  · rw [clS_p h0] at h ⊢
    unfold clP at h ⊢
    split
    · rename_i z; rw [if_pos z] at h; exact absurd h (bl_n (by decide))
    · rename_i z
      rw [if_neg z] at h
      have e2 := (sgF_0 h).2.1
      have kk := se_v (c := c) (F := (0, 0)) (s := nx c s) (lo := 1) (hi := 10) (by decide) (by decide) e2
      exact key (MDr_pl (g' := upI (mG A) 91 21 (nI (tV c (nx c s)))) hg (by omega) kk.2.2 (by rw [upI_s, upd_s]) (upd_n2 (by decide)) (upd_n2 (by decide)) (fun j a b => upI_n (by omega)))
  · by_cases h1 : isW c s 1 = true ∧ 0 < A.1
    · rw [clS_w h0 h1.1 h1.2] at h ⊢
      by_cases z : 14 ≤ A.2.1.1
      · unfold clW at h; rw [if_pos z] at h; exact absurd h (bl_n (by decide))
      · rw [clW_w z] at h ⊢
        have e2 := (sgF_0 h).2.1
        obtain ⟨u1, u2, u3, u4, u5⟩ := wF_0 h1.2 hnp9 e2
        exact key (MDr_way (g' := upI (upI (upI (upI (mG A) 101 A.2.1.1 (nI (tV c (nx c s)))) 102 A.2.1.1 (nI (tV c (nx c (nx c s))))) 103 A.2.1.1 (nI (tV c (nx c (nx c (nx c s)))))) 91 22 (nI (A.2.1.1 + 1))) hg (by omega) u1 u2 u3 u4 u5 (by rw [upI_n (by decide), upI_n (by decide), upI_n (by decide), upI_s]) (by rw [upI_n (by decide), upI_n (by decide), upI_s, upI_n (by decide)]) (by rw [upI_n (by decide), upI_s, upI_n (by decide), upI_n (by decide)]) (by rw [upI_s, upd_s]) (by rw [upd_n2 (by decide), upI_n (by decide), upI_n (by decide), upI_n (by decide)]) (by rw [upd_n2 (by decide), upI_n (by decide), upI_n (by decide), upI_n (by decide)]) (fun j a b => by rw [upI_n (by omega), upI_n (by omega), upI_n (by omega), upI_n (by omega)]))
    · by_cases h2 : isW c s 2 = true ∧ 0 < A.1
      · rw [clS_q h0 (fun z => h1 ⟨z, h2.2⟩) h2.1 h2.2] at h ⊢
        by_cases z : 6 ≤ A.2.2.1.1
        · unfold clQ at h; rw [if_pos z] at h; exact absurd h (bl_n (by decide))
        · rw [clQ_p z] at h ⊢
          have e2 := (sgF_0 h).2.1
          obtain ⟨u1, u2, u3, u4, u5⟩ := pR_0 hT hs h14 h2.2 hnp9 e2
          have hp6 := hA.2.1
          refine ⟨hA.1, ⟨by show A.2.2.1.1 + 1 ≤ 6; omega, fun p hp => ?_⟩⟩
          show upN _ _ _ _ < A.1 ∧ upN _ _ _ _ < A.1 ∧ upN _ _ _ _ ≤ 99 ∧ upN _ _ _ _ ≤ 3 ∧ upN _ _ _ _ < 2 ^ 14
          by_cases e : p = A.2.2.1.1
          · subst e
            rw [up_s, up_s, up_s, up_s, up_s]
            exact ⟨u1, u2, u3, u4, u5⟩
          · rw [up_lt e, up_lt e, up_lt e, up_lt e, up_lt e]
            exact hA.2.2 p (by have : p < A.2.2.1.1 + 1 := hp; omega)
      · rw [clS_n h0 (by
          rcases Nat.eq_zero_or_pos A.1 with z | z
          · exact Or.inl (by omega)
          · exact Or.inr ⟨fun q => h1 ⟨q, z⟩, fun q => h2 ⟨q, z⟩⟩)] at h
        exact absurd h (bl_n (by decide))
/-- the class's reading comes to 4 at most -/
theorem rdS_4 {n : Nat} {c : CT} (hT : tOk n c) : ∀ m (A : DR) (F : FP) s, s ≤ n → wOk A.1 A.2.1 ∧ pOk A.1 A.2.2.1 A.2.2.2.1 A.2.2.2.2 → F = (0, 0) → (rdS c m A F s).2.1.1 ≤ 4
  | 0, A, F, s, _, _, hF => by subst hF; exact Nat.zero_le _
  | m + 1, A, F, s, hs, hA, hF => by
    subst hF
    have h14 := hA.1.1
    rw [rdS_s]
    split
    · by_cases hz : (clS c A (0, 0) s).2.1.1 = 0
      · have e : (clS c A (0, 0) s).2.1 = (0, 0) := clS_00 hz
        rw [e]
        exact rdS_4 hT m _ _ _ (clS_lt hT hs h14 hz).2 (clS_wp hT hs hA hz) rfl
      · rw [rdS_n hz]; exact clS_ok hT hs h14 (by decide)
    · exact Nat.zero_le _
theorem rdR_4 {n : Nat} {c : CT} (hT : tOk n c) : (rdR c).2.1.1 ≤ 4 := rdS_4 hT 400 A0 (0, 0) _ (sk_le hT (Nat.zero_le n)).2 ⟨⟨Nat.zero_le _, Nat.zero_le _, fun w hw => absurd hw (Nat.not_lt_zero _)⟩, ⟨Nat.zero_le _, fun w hw => absurd hw (Nat.not_lt_zero _)⟩⟩ rfl

