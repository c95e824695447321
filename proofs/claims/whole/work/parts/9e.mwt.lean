/-! THE MODEL: a way taken -/
def fwB (D : WD) (a b w : Nat) : Bool := (decide (D.2.1 w = a) && decide (D.2.2.1 w = b)) || (decide (D.2.1 w = b) && decide (D.2.2.1 w = a))
def fwF (D : WD) (a b : Nat) : Nat → Bool
  | 0 => decide (a = b)
  | w + 1 => fwF D a b w || fwB D a b w
theorem fwF_s {D : WD} {a b w : Nat} : fwF D a b (w + 1) = (fwF D a b w || fwB D a b w) := rfl
theorem fwF_i {D : WD} {a b : Nat} : ∀ n, fwF D a b n = true ↔ a = b ∨ ∃ w, w < n ∧ fwB D a b w = true
  | 0 => by
    show decide (a = b) = true ↔ _
    rw [decide_eq_true_eq]
    exact ⟨Or.inl, fun h => h.resolve_right (fun ⟨w, hw, _⟩ => Nat.not_lt_zero w hw)⟩
  | n + 1 => by
    rw [fwF_s, Bool.or_eq_true, fwF_i n]
    constructor
    · rintro ((h | ⟨w, hw, h⟩) | h)
      · exact Or.inl h
      · exact Or.inr ⟨w, by omega, h⟩
      · exact Or.inr ⟨n, Nat.lt_succ_self n, h⟩
    · rintro (h | ⟨w, hw, h⟩)
      · exact Or.inl (Or.inl h)
      · by_cases e : w = n
        · rw [e] at h; exact Or.inr h
        · exact Or.inl (Or.inr ⟨w, by omega, h⟩)
def wF3 (c : CT) (D : WD) (np s : Nat) : FP := if tV c (nx c s) = tV c (nx c (nx c s)) ∨ jn D (tV c (nx c s)) (tV c (nx c (nx c s))) = true then bl (seF c (seF c (0, 0) (nx c s) (nI 0) (nI (np - 1))) (nx c (nx c s)) (nI 0) (nI (np - 1))) 4 (nx c (nx c s)) else seF c (seF c (0, 0) (nx c s) (nI 0) (nI (np - 1))) (nx c (nx c s)) (nI 0) (nI (np - 1))
def wF (c : CT) (D : WD) (np s : Nat) : FP := seF c (wF3 c D np s) (nx c (nx c (nx c s))) (nI 1) (nI 99)
theorem clW_w {c : CT} {A : DR} {s : Nat} (h : ¬ 14 ≤ A.2.1.1) : clW c A (0, 0) s = ((A.1, (A.2.1.1 + 1, upN A.2.1.2.1 A.2.1.1 (tV c (nx c s)), upN A.2.1.2.2.1 A.2.1.1 (tV c (nx c (nx c s))), upN A.2.1.2.2.2 A.2.1.1 (tV c (nx c (nx c (nx c s))))), A.2.2), sgF c (wF c A.2.1 A.1 s) (nx c (nx c (nx c (nx c s)))) 59, nx c (nx c (nx c (nx c (nx c s))))) := by
  unfold clW
  rw [if_neg h]
  rfl
theorem jn_fw {D : WD} {a b : Nat} (h : ∀ w, w < D.1 → D.2.1 w < 10 ∧ D.2.2.1 w < 10) (hb : b < 10) : (a = b ∨ jn D a b = true) ↔ fwF D a b D.1 = true := by
  rw [fwF_i]
  have hj : jn D a b = true ↔ ∃ w, w < D.1 ∧ oE D w a = b := by
    unfold jn
    rw [decide_eq_true_eq]
    constructor
    · intro z
      have := fdF_at (p := fun w => decide (oE D w a = b)) D.1 0 (by omega)
      exact ⟨_, z, of_decide_eq_true this⟩
    · rintro ⟨w, hw, e⟩
      refine Nat.lt_of_not_le (fun z => ?_)
      have := fdF_all (f := fun w => decide (oE D w a = b)) D.1 0 (by have := fdF_le (fun w => decide (oE D w a = b)) D.1 0; omega) w (Nat.zero_le w) (by omega)
      exact of_decide_eq_false this e
  have key : ∀ w, w < D.1 → a ≠ b → (oE D w a = b ↔ fwB D a b w = true) := fun w hw hab => by
    obtain ⟨f1, f2⟩ := h w hw
    unfold oE fwB
    simp only [Bool.or_eq_true, Bool.and_eq_true, decide_eq_true_eq]
    by_cases e1 : D.2.1 w = a
    · rw [if_pos e1]
      constructor
      · intro z; exact Or.inl ⟨e1, z⟩
      · rintro (⟨-, z⟩ | ⟨z, -⟩)
        · exact z
        · exact absurd (e1.symm.trans z) hab
    · rw [if_neg e1]
      by_cases e2 : D.2.2.1 w = a
      · rw [if_pos e2]
        constructor
        · intro z; exact Or.inr ⟨z, e2⟩
        · rintro (⟨z, -⟩ | ⟨z, -⟩)
          · exact absurd z e1
          · exact z
      · rw [if_neg e2]
        constructor
        · intro z; omega
        · rintro (⟨z, -⟩ | ⟨-, z⟩)
          · exact absurd z e1
          · exact absurd z e2
  rw [hj]
  by_cases hab : a = b
  · exact ⟨fun _ => Or.inl hab, fun _ => Or.inl hab⟩
  · constructor
    · rintro (z | ⟨w, hw, z⟩)
      · exact absurd z hab
      · exact Or.inr ⟨w, hw, (key w hw hab).mp z⟩
    · rintro (z | ⟨w, hw, z⟩)
      · exact absurd z hab
      · exact Or.inr ⟨w, hw, (key w hw hab).mpr z⟩

theorem fw_1 {D : WD} {a b w : Nat} (h : fwF D a b w = true) : (1 : Int32) = B1 (fwF D a b (w + 1)) := by rw [fwF_s, h]; rfl
theorem fw_2 {D : WD} {a b w : Nat} (h1 : D.2.1 w = a) (h2 : D.2.2.1 w = b) : (1 : Int32) = B1 (fwF D a b (w + 1)) := by
  have : fwB D a b w = true := by unfold fwB; rw [decide_eq_true h1, decide_eq_true h2]; rfl
  rw [fwF_s, this, Bool.or_true]; rfl
theorem fw_3 {D : WD} {a b w : Nat} (h1 : D.2.1 w = b) (h2 : D.2.2.1 w = a) : (1 : Int32) = B1 (fwF D a b (w + 1)) := by
  have : fwB D a b w = true := by unfold fwB; rw [decide_eq_true h1, decide_eq_true h2, Bool.and_self, Bool.or_true]
  rw [fwF_s, this, Bool.or_true]; rfl
theorem fw_0 {D : WD} {a b w : Nat} (h : fwF D a b w = false) (h1 : ¬ (D.2.1 w = a ∧ D.2.2.1 w = b)) (h2 : ¬ (D.2.1 w = b ∧ D.2.2.1 w = a)) : (0 : Int32) = B1 (fwF D a b (w + 1)) := by
  have : fwB D a b w = false := by
    rw [← Bool.not_eq_true]
    unfold fwB
    simp only [Bool.or_eq_true, Bool.and_eq_true, decide_eq_true_eq]
    rintro (z | z)
    · exact h1 z
    · exact h2 z
  rw [fwF_s, h, this]; rfl
set_option maxHeartbeats 4000000 in
set_option maxRecDepth 100000 in
theorem lm_fw {K : KT} {ad : Nat → Nat} {g : St} {D : WD} {a b k : Nat} (hk14 : k < 14) (ha : a < 10) (hb : b < 10) (hD : ∀ w, w < k → D.2.1 w < 10 ∧ D.2.2.1 w < 10) (h101 : ∀ w, w < k → g.1 101 w = nI (D.2.1 w) ∧ g.1 102 w = nI (D.2.2.1 w)) (h101k : g.1 101 k = nI a) (h102k : g.1 102 k = nI b) (hK : Cx K RX10 cX10_takeWay 4 ad) (hm : K.2.2.1.2.maxLocals = 5) (hnn : Nn K 0 0)
    (h163 : Wp K 0 0 TT ad g 163 [(0, .ref 91), (1, .int (nI k)), (3, .int (B1 (fwF D a b k)))] []) :
    ∀ m w, w + m = k → Wp K 0 0 TT ad g 77 [(0, .ref 91), (1, .int (nI k)), (3, .int (B1 (fwF D a b w))), (4, .int (nI w))] [] := by
  intro m
  induction m with
  | zero =>
    intro w hwm
    have e : w = k := by omega
    subst e
    refine r_iload (i := 4) hK dX10_takeWay_77 rfl ?_
    refine r_iload_n (i := 1) hK dX10_takeWay_79 rfl rfl ?_
    refine r_icmp_ge (tgt := 163) hK dX10_takeWay_80 (by decide) (fun _ => ?_) (fun h => absurd (nI_le (Nat.le_refl _) (by omega)) h)
    refine r_loc ?_ h163
    rfl
  | succ m ih =>
    intro w hwm
    have hw : w < k := by omega
    obtain ⟨d1, d2⟩ := hD w hw
    refine r_iload (i := 4) hK dX10_takeWay_77 rfl ?_
    refine r_iload_n (i := 1) hK dX10_takeWay_79 rfl rfl ?_
    refine r_icmp_ge (tgt := 163) hK dX10_takeWay_80 (by decide) (fun h => absurd h (nI_ge hw (by omega))) (fun _ => ?_)
    refine r_iload_n (i := 3) hK dX10_takeWay_83 rfl rfl ?_
    refine r_if_ne (tgt := 151) hK dX10_takeWay_84 (by decide) (fun h84 => ?_) (fun h84 => ?_)
    · refine r_iconst (v := 1) hK dX10_takeWay_151 (by decide) ?_
      refine r_top (y := B1 (fwF D a b (w + 1))) ?_ ?_
      · first
          | exact fw_1 (B1_n.mp h84)
          | exact fw_2 (nI_inj (by omega) (by omega) h100) (nI_inj (by omega) (by omega) h116)
          | exact fw_3 (nI_inj (by omega) (by omega) h132) (nI_inj (by omega) (by omega) h148)
      refine r_goto (tgt := 156) hK dX10_takeWay_152 (by decide) ?_
      refine r_istore_n (i := 3) hK hm dX10_takeWay_156 rfl (by decide) ?_
      refine r_iincN (i := 4) hK hm dX10_takeWay_157 rfl (by decide) ?_
      refine r_goto (tgt := 77) hK dX10_takeWay_160 (by decide) ?_
      refine r_loc ?_ (ih (w + 1) (by omega))
      rfl
    · refine r_aload_n (i := 0) hK dX10_takeWay_87 rfl rfl ?_
      refine r_getA hK flX10_41 to_91 rfl dX10_takeWay_88 ?_
      refine r_iload (i := 4) hK dX10_takeWay_91 rfl ?_
      refine r_ialN hK to_101 rfl (by omega) (by decide) (h101 w hw).1 dX10_takeWay_93 ?_
      refine r_aload_n (i := 0) hK dX10_takeWay_94 rfl rfl ?_
      refine r_getA hK flX10_41 to_91 rfl dX10_takeWay_95 ?_
      refine r_iload_n (i := 1) hK dX10_takeWay_98 rfl rfl ?_
      refine r_ialN hK to_101 rfl (by omega) (by decide) h101k dX10_takeWay_99 ?_
      refine r_icmp_ne (tgt := 119) hK dX10_takeWay_100 (by decide) (fun h100 => ?_) (fun h100 => ?_)
      · refine r_aload_n (i := 0) hK dX10_takeWay_119 rfl rfl ?_
        refine r_getA hK flX10_41 to_91 rfl dX10_takeWay_120 ?_
        refine r_iload (i := 4) hK dX10_takeWay_123 rfl ?_
        refine r_ialN hK to_101 rfl (by omega) (by decide) (h101 w hw).1 dX10_takeWay_125 ?_
        refine r_aload_n (i := 0) hK dX10_takeWay_126 rfl rfl ?_
        refine r_getA hK flX10_44 to_91 rfl dX10_takeWay_127 ?_
        refine r_iload_n (i := 1) hK dX10_takeWay_130 rfl rfl ?_
        refine r_ialN hK to_102 rfl (by omega) (by decide) h102k dX10_takeWay_131 ?_
        refine r_icmp_ne (tgt := 155) hK dX10_takeWay_132 (by decide) (fun h132 => ?_) (fun h132 => ?_)
        · refine r_iconst (v := 0) hK dX10_takeWay_155 (by decide) ?_
          refine r_top (y := B1 (fwF D a b (w + 1))) ?_ ?_
          · first
              | exact fw_0 (B1_0.mp h84) (fun z => h100 (congrArg nI z.1)) (fun z => h132 (congrArg nI z.1))
              | exact fw_0 (B1_0.mp h84) (fun z => h100 (congrArg nI z.1)) (fun z => h148 (congrArg nI z.2))
              | exact fw_0 (B1_0.mp h84) (fun z => h116 (congrArg nI z.2)) (fun z => h132 (congrArg nI z.1))
              | exact fw_0 (B1_0.mp h84) (fun z => h116 (congrArg nI z.2)) (fun z => h148 (congrArg nI z.2))
          refine r_istore_n (i := 3) hK hm dX10_takeWay_156 rfl (by decide) ?_
          refine r_iincN (i := 4) hK hm dX10_takeWay_157 rfl (by decide) ?_
          refine r_goto (tgt := 77) hK dX10_takeWay_160 (by decide) ?_
          refine r_loc ?_ (ih (w + 1) (by omega))
          rfl
        · refine r_aload_n (i := 0) hK dX10_takeWay_135 rfl rfl ?_
          refine r_getA hK flX10_44 to_91 rfl dX10_takeWay_136 ?_
          refine r_iload (i := 4) hK dX10_takeWay_139 rfl ?_
          refine r_ialN hK to_102 rfl (by omega) (by decide) (h101 w hw).2 dX10_takeWay_141 ?_
          refine r_aload_n (i := 0) hK dX10_takeWay_142 rfl rfl ?_
          refine r_getA hK flX10_41 to_91 rfl dX10_takeWay_143 ?_
          refine r_iload_n (i := 1) hK dX10_takeWay_146 rfl rfl ?_
          refine r_ialN hK to_101 rfl (by omega) (by decide) h101k dX10_takeWay_147 ?_
          refine r_icmp_ne (tgt := 155) hK dX10_takeWay_148 (by decide) (fun h148 => ?_) (fun h148 => ?_)
          · refine r_iconst (v := 0) hK dX10_takeWay_155 (by decide) ?_
            refine r_top (y := B1 (fwF D a b (w + 1))) ?_ ?_
            · first
                | exact fw_0 (B1_0.mp h84) (fun z => h100 (congrArg nI z.1)) (fun z => h132 (congrArg nI z.1))
                | exact fw_0 (B1_0.mp h84) (fun z => h100 (congrArg nI z.1)) (fun z => h148 (congrArg nI z.2))
                | exact fw_0 (B1_0.mp h84) (fun z => h116 (congrArg nI z.2)) (fun z => h132 (congrArg nI z.1))
                | exact fw_0 (B1_0.mp h84) (fun z => h116 (congrArg nI z.2)) (fun z => h148 (congrArg nI z.2))
            refine r_istore_n (i := 3) hK hm dX10_takeWay_156 rfl (by decide) ?_
            refine r_iincN (i := 4) hK hm dX10_takeWay_157 rfl (by decide) ?_
            refine r_goto (tgt := 77) hK dX10_takeWay_160 (by decide) ?_
            refine r_loc ?_ (ih (w + 1) (by omega))
            rfl
          · refine r_iconst (v := 1) hK dX10_takeWay_151 (by decide) ?_
            refine r_top (y := B1 (fwF D a b (w + 1))) ?_ ?_
            · first
                | exact fw_1 (B1_n.mp h84)
                | exact fw_2 (nI_inj (by omega) (by omega) h100) (nI_inj (by omega) (by omega) h116)
                | exact fw_3 (nI_inj (by omega) (by omega) h132) (nI_inj (by omega) (by omega) h148)
            refine r_goto (tgt := 156) hK dX10_takeWay_152 (by decide) ?_
            refine r_istore_n (i := 3) hK hm dX10_takeWay_156 rfl (by decide) ?_
            refine r_iincN (i := 4) hK hm dX10_takeWay_157 rfl (by decide) ?_
            refine r_goto (tgt := 77) hK dX10_takeWay_160 (by decide) ?_
            refine r_loc ?_ (ih (w + 1) (by omega))
            rfl
      · refine r_aload_n (i := 0) hK dX10_takeWay_103 rfl rfl ?_
        refine r_getA hK flX10_44 to_91 rfl dX10_takeWay_104 ?_
        refine r_iload (i := 4) hK dX10_takeWay_107 rfl ?_
        refine r_ialN hK to_102 rfl (by omega) (by decide) (h101 w hw).2 dX10_takeWay_109 ?_
        refine r_aload_n (i := 0) hK dX10_takeWay_110 rfl rfl ?_
        refine r_getA hK flX10_44 to_91 rfl dX10_takeWay_111 ?_
        refine r_iload_n (i := 1) hK dX10_takeWay_114 rfl rfl ?_
        refine r_ialN hK to_102 rfl (by omega) (by decide) h102k dX10_takeWay_115 ?_
        refine r_icmp_eq (tgt := 151) hK dX10_takeWay_116 (by decide) (fun h116 => ?_) (fun h116 => ?_)
        · refine r_iconst (v := 1) hK dX10_takeWay_151 (by decide) ?_
          refine r_top (y := B1 (fwF D a b (w + 1))) ?_ ?_
          · first
              | exact fw_1 (B1_n.mp h84)
              | exact fw_2 (nI_inj (by omega) (by omega) h100) (nI_inj (by omega) (by omega) h116)
              | exact fw_3 (nI_inj (by omega) (by omega) h132) (nI_inj (by omega) (by omega) h148)
          refine r_goto (tgt := 156) hK dX10_takeWay_152 (by decide) ?_
          refine r_istore_n (i := 3) hK hm dX10_takeWay_156 rfl (by decide) ?_
          refine r_iincN (i := 4) hK hm dX10_takeWay_157 rfl (by decide) ?_
          refine r_goto (tgt := 77) hK dX10_takeWay_160 (by decide) ?_
          refine r_loc ?_ (ih (w + 1) (by omega))
          rfl
        · refine r_aload_n (i := 0) hK dX10_takeWay_119 rfl rfl ?_
          refine r_getA hK flX10_41 to_91 rfl dX10_takeWay_120 ?_
          refine r_iload (i := 4) hK dX10_takeWay_123 rfl ?_
          refine r_ialN hK to_101 rfl (by omega) (by decide) (h101 w hw).1 dX10_takeWay_125 ?_
          refine r_aload_n (i := 0) hK dX10_takeWay_126 rfl rfl ?_
          refine r_getA hK flX10_44 to_91 rfl dX10_takeWay_127 ?_
          refine r_iload_n (i := 1) hK dX10_takeWay_130 rfl rfl ?_
          refine r_ialN hK to_102 rfl (by omega) (by decide) h102k dX10_takeWay_131 ?_
          refine r_icmp_ne (tgt := 155) hK dX10_takeWay_132 (by decide) (fun h132 => ?_) (fun h132 => ?_)
          · refine r_iconst (v := 0) hK dX10_takeWay_155 (by decide) ?_
            refine r_top (y := B1 (fwF D a b (w + 1))) ?_ ?_
            · first
                | exact fw_0 (B1_0.mp h84) (fun z => h100 (congrArg nI z.1)) (fun z => h132 (congrArg nI z.1))
                | exact fw_0 (B1_0.mp h84) (fun z => h100 (congrArg nI z.1)) (fun z => h148 (congrArg nI z.2))
                | exact fw_0 (B1_0.mp h84) (fun z => h116 (congrArg nI z.2)) (fun z => h132 (congrArg nI z.1))
                | exact fw_0 (B1_0.mp h84) (fun z => h116 (congrArg nI z.2)) (fun z => h148 (congrArg nI z.2))
            refine r_istore_n (i := 3) hK hm dX10_takeWay_156 rfl (by decide) ?_
            refine r_iincN (i := 4) hK hm dX10_takeWay_157 rfl (by decide) ?_
            refine r_goto (tgt := 77) hK dX10_takeWay_160 (by decide) ?_
            refine r_loc ?_ (ih (w + 1) (by omega))
            rfl
          · refine r_aload_n (i := 0) hK dX10_takeWay_135 rfl rfl ?_
            refine r_getA hK flX10_44 to_91 rfl dX10_takeWay_136 ?_
            refine r_iload (i := 4) hK dX10_takeWay_139 rfl ?_
            refine r_ialN hK to_102 rfl (by omega) (by decide) (h101 w hw).2 dX10_takeWay_141 ?_
            refine r_aload_n (i := 0) hK dX10_takeWay_142 rfl rfl ?_
            refine r_getA hK flX10_41 to_91 rfl dX10_takeWay_143 ?_
            refine r_iload_n (i := 1) hK dX10_takeWay_146 rfl rfl ?_
            refine r_ialN hK to_101 rfl (by omega) (by decide) h101k dX10_takeWay_147 ?_
            refine r_icmp_ne (tgt := 155) hK dX10_takeWay_148 (by decide) (fun h148 => ?_) (fun h148 => ?_)
            · refine r_iconst (v := 0) hK dX10_takeWay_155 (by decide) ?_
              refine r_top (y := B1 (fwF D a b (w + 1))) ?_ ?_
              · first
                  | exact fw_0 (B1_0.mp h84) (fun z => h100 (congrArg nI z.1)) (fun z => h132 (congrArg nI z.1))
                  | exact fw_0 (B1_0.mp h84) (fun z => h100 (congrArg nI z.1)) (fun z => h148 (congrArg nI z.2))
                  | exact fw_0 (B1_0.mp h84) (fun z => h116 (congrArg nI z.2)) (fun z => h132 (congrArg nI z.1))
                  | exact fw_0 (B1_0.mp h84) (fun z => h116 (congrArg nI z.2)) (fun z => h148 (congrArg nI z.2))
              refine r_istore_n (i := 3) hK hm dX10_takeWay_156 rfl (by decide) ?_
              refine r_iincN (i := 4) hK hm dX10_takeWay_157 rfl (by decide) ?_
              refine r_goto (tgt := 77) hK dX10_takeWay_160 (by decide) ?_
              refine r_loc ?_ (ih (w + 1) (by omega))
              rfl
            · refine r_iconst (v := 1) hK dX10_takeWay_151 (by decide) ?_
              refine r_top (y := B1 (fwF D a b (w + 1))) ?_ ?_
              · first
                  | exact fw_1 (B1_n.mp h84)
                  | exact fw_2 (nI_inj (by omega) (by omega) h100) (nI_inj (by omega) (by omega) h116)
                  | exact fw_3 (nI_inj (by omega) (by omega) h132) (nI_inj (by omega) (by omega) h148)
              refine r_goto (tgt := 156) hK dX10_takeWay_152 (by decide) ?_
              refine r_istore_n (i := 3) hK hm dX10_takeWay_156 rfl (by decide) ?_
              refine r_iincN (i := 4) hK hm dX10_takeWay_157 rfl (by decide) ?_
              refine r_goto (tgt := 77) hK dX10_takeWay_160 (by decide) ?_
              refine r_loc ?_ (ih (w + 1) (by omega))
              rfl
