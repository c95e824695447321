/-! TOKENS: the reader's eye -/
abbrev CT : Type := Nat → Nat
def cI (x : Nat) : Int32 := if x = 999 then -1 else nI x
def lt (x : Nat) : Bool := decide (97 ≤ x) && decide (x ≤ 122)
def fg (x : Nat) : Bool := decide (48 ≤ x) && decide (x ≤ 57)
/-- a text: n bytes, behind them 999 -/
def tOk (n : Nat) (c : CT) : Prop := n ≤ 400 ∧ (∀ i, i < n → c i < 256) ∧ ∀ i, n ≤ i → c i = 999
def TxC (g : St) (n : Nat) (c : CT) : Prop := tOk n c ∧ g.1 1 1 = nI n ∧ (∀ i, i < n → g.1 2 i = nI (c i)) ∧ ¬ g.1 3 1 = 0
theorem tOk_b {n : Nat} {c : CT} (h : tOk n c) (i : Nat) : c i < 256 ∨ c i = 999 := by
  rcases Nat.lt_or_ge i n with q | q
  · exact Or.inl (h.2.1 i q)
  · exact Or.inr (h.2.2 i q)
theorem cI_eq {x k : Nat} (hx : x < 256 ∨ x = 999) (hk : k < 256) : cI x = nI k ↔ x = k := by
  unfold cI
  split
  · rename_i h
    exact ⟨fun z => absurd z.symm (nI_m1 (by omega)), fun z => by omega⟩
  · exact nI_eq (by omega) (by omega)
theorem cI_m {x : Nat} (hx : x < 256 ∨ x = 999) : cI x = -1 ↔ x = 999 := by
  unfold cI
  split
  · rename_i h
    exact ⟨fun _ => h, fun _ => rfl⟩
  · rename_i h
    exact ⟨fun z => absurd z (nI_m1 (by omega)), fun z => absurd z h⟩
theorem cI_lt {x k : Nat} (hx : x < 256 ∨ x = 999) (hk : k < 256) : cI x < nI k ↔ (x = 999 ∨ x < k) := by
  unfold cI
  split
  · rename_i h
    exact ⟨fun _ => Or.inl h, fun _ => by rw [Int32.lt_iff_toInt_lt, nI_toInt (by omega)]; exact Int.lt_of_lt_of_le (by decide) (Int.natCast_nonneg k)⟩
  · rename_i h
    rw [nI_ltI (by omega) (by omega)]
    exact ⟨fun z => Or.inr z, fun z => z.elim (fun q => absurd q h) id⟩
theorem cI_gt {x k : Nat} (hx : x < 256 ∨ x = 999) (hk : k < 256) : nI k < cI x ↔ (x ≠ 999 ∧ k < x) := by
  unfold cI
  split
  · rename_i h
    exact ⟨fun z => by rw [Int32.lt_iff_toInt_lt, nI_toInt (by omega)] at z; exact absurd z (Int.not_lt.mpr (Int.le_trans (by decide) (Int.natCast_nonneg k))), fun z => absurd h z.1⟩
  · rename_i h
    rw [nI_ltI (by omega) (by omega)]
    exact ⟨fun z => ⟨h, z⟩, fun z => z.2⟩
theorem fdF_bef {p : Nat → Bool} : ∀ n i j, i ≤ j → j < fdF p n i → p j = false
  | 0, i, j, h1, h2 => by unfold fdF at h2; omega
  | n + 1, i, j, h1, h2 => by
    unfold fdF at h2
    split at h2
    · omega
    · rename_i hn
      by_cases e : j = i
      · rw [e]; simpa using hn
      · exact fdF_bef n (i + 1) j (by omega) h2
theorem fdF_at {p : Nat → Bool} : ∀ n i, fdF p n i < i + n → p (fdF p n i) = true
  | 0, i, h => by unfold fdF at h; omega
  | n + 1, i, h => by
    unfold fdF at h ⊢
    split
    · rename_i hp; exact hp
    · rename_i hp
      rw [if_neg hp] at h
      exact fdF_at n (i + 1) (by omega)
def sk (c : CT) (q : Nat) : Nat := fdF (fun i => decide (c i ≠ 32)) 400 q
def gO (c : CT) (s i : Nat) : Bool := (lt (c s) && lt (c (s + i))) || (fg (c s) && fg (c (s + i)))
def tL (c : CT) (s : Nat) : Nat := if c s = 999 then 0 else fdF (fun i => !gO c s i) 399 1
def vI (c : CT) (s : Nat) : Nat → Int32
  | 0 => cI (c s) - 48
  | k + 1 => if 3 < k + 2 then vI c s k else vI c s k * 10 + cI (c (s + (k + 1))) - 48
theorem vI_s (c : CT) (s k : Nat) : vI c s (k + 1) = if 3 < k + 2 then vI c s k else vI c s k * 10 + cI (c (s + (k + 1))) - 48 := rfl
def nx (c : CT) (s : Nat) : Nat := sk c (s + tL c s)
theorem sk_le {n : Nat} {c : CT} (h : tOk n c) {q : Nat} (hq : q ≤ n) : q ≤ sk c q ∧ sk c q ≤ n := by
  refine ⟨(fdF_le _ 400 q).1, ?_⟩
  rcases Nat.lt_or_ge n (sk c q) with z | z
  · have := fdF_bef (p := fun i => decide (c i ≠ 32)) 400 q n hq z
    rw [decide_eq_false_iff_not, Classical.not_not, h.2.2 n (Nat.le_refl _)] at this
    exact absurd this (by decide)
  · exact z
theorem sk_at {n : Nat} {c : CT} (h : tOk n c) {q : Nat} (hq : q ≤ n) : c (sk c q) ≠ 32 := by
  by_cases e : sk c q < q + 400
  · have := fdF_at (p := fun i => decide (c i ≠ 32)) 400 q e
    exact of_decide_eq_true this
  · have h1 := (sk_le h hq).2
    rw [h.2.2 (sk c q) (by have := h.1; omega)]
    decide
theorem gO_999 {c : CT} {s i : Nat} (h : c (s + i) = 999) : gO c s i = false := by
  unfold gO lt fg
  rw [h]
  simp
theorem tL_le {n : Nat} {c : CT} (h : tOk n c) {s : Nat} (hs : s ≤ n) : s + tL c s ≤ n := by
  unfold tL
  split
  · omega
  · rename_i h9
    have hsn : s < n := by
      rcases Nat.lt_or_ge s n with z | z
      · exact z
      · exact absurd (h.2.2 s z) h9
    rcases Nat.lt_or_ge n (s + fdF (fun i => !gO c s i) 399 1) with z | z
    · have := fdF_bef (p := fun i => !gO c s i) 399 1 (n - s) (by omega) (by omega)
      simp only [Bool.not_eq_false'] at this
      rw [gO_999 (by rw [show s + (n - s) = n by omega]; exact h.2.2 n (Nat.le_refl _))] at this
      exact absurd this (by decide)
    · exact z
theorem nx_le {n : Nat} {c : CT} (h : tOk n c) {s : Nat} (hs : s ≤ n) : s ≤ nx c s ∧ nx c s ≤ n := by
  have h1 := tL_le h hs
  have h2 := sk_le h h1
  unfold nx
  omega
theorem tL_lt {n : Nat} {c : CT} (h : tOk n c) {s : Nat} (hs : s ≤ n) : tL c s ≤ 400 := by
  have := tL_le h hs
  have := h.1
  omega
def rd (g : St) (q L a b v : Int32) : St := upR g 3 (fun k => if k = 4 then q else if k = 5 then L else if k = 6 then a else if k = 7 then b else if k = 8 then v else g.1 3 k)
theorem rd_3 {g : St} {q L a b v : Int32} : (rd g q L a b v).1 3 = (fun k => if k = 4 then q else if k = 5 then L else if k = 6 then a else if k = 7 then b else if k = 8 then v else g.1 3 k) := upR_s
theorem rd_4 {g : St} {q L a b v : Int32} : (rd g q L a b v).1 3 4 = q := by rw [rd_3]; rfl
theorem rd_5 {g : St} {q L a b v : Int32} : (rd g q L a b v).1 3 5 = L := by rw [rd_3]; rfl
theorem rd_6 {g : St} {q L a b v : Int32} : (rd g q L a b v).1 3 6 = a := by rw [rd_3]; rfl
theorem rd_7 {g : St} {q L a b v : Int32} : (rd g q L a b v).1 3 7 = b := by rw [rd_3]; rfl
theorem rd_8 {g : St} {q L a b v : Int32} : (rd g q L a b v).1 3 8 = v := by rw [rd_3]; rfl
theorem rd_1 {g : St} {q L a b v : Int32} : (rd g q L a b v).1 3 1 = g.1 3 1 := by rw [rd_3]; rfl
theorem rd_n {g : St} {q L a b v : Int32} {j : Nat} (h : j ≠ 3) : (rd g q L a b v).1 j = g.1 j := upR_n h
theorem upI3 {g : St} {f : Nat → Int32} {k : Nat} {x : Int32} : upI (upR g 3 f) 3 k x = upR g 3 (upd f k x) := upR_upI
theorem rd_self {g : St} : g = rd g (g.1 3 4) (g.1 3 5) (g.1 3 6) (g.1 3 7) (g.1 3 8) := by
  unfold rd upR
  refine Prod.ext (funext fun j => ?_) rfl
  show g.1 j = if j = 3 then _ else _
  split
  · rename_i h
    subst h
    funext k
    split
    · rename_i h; rw [h]
    · split
      · rename_i h; rw [h]
      · split
        · rename_i h; rw [h]
        · split
          · rename_i h; rw [h]
          · split
            · rename_i h; rw [h]
            · rfl
  · rfl

theorem rd_p4 {g : St} {q L a b v x : Int32} : upI (rd g q L a b v) 3 4 x = rd g x L a b v := by
  unfold rd
  rw [upI3]
  congr 1
  funext k
  unfold upd
  by_cases h : k = 4
  · subst h; rfl
  · rw [if_neg h]; simp only [h, if_false]
theorem rd_p5 {g : St} {q L a b v x : Int32} : upI (rd g q L a b v) 3 5 x = rd g q x a b v := by
  unfold rd
  rw [upI3]
  congr 1
  funext k
  unfold upd
  by_cases h : k = 5
  · subst h; rfl
  · rw [if_neg h]; simp only [h, if_false]
theorem rd_p6 {g : St} {q L a b v x : Int32} : upI (rd g q L a b v) 3 6 x = rd g q L x b v := by
  unfold rd
  rw [upI3]
  congr 1
  funext k
  unfold upd
  by_cases h : k = 6
  · subst h; rfl
  · rw [if_neg h]; simp only [h, if_false]
theorem rd_p7 {g : St} {q L a b v x : Int32} : upI (rd g q L a b v) 3 7 x = rd g q L a x v := by
  unfold rd
  rw [upI3]
  congr 1
  funext k
  unfold upd
  by_cases h : k = 7
  · subst h; rfl
  · rw [if_neg h]; simp only [h, if_false]
theorem rd_p8 {g : St} {q L a b v x : Int32} : upI (rd g q L a b v) 3 8 x = rd g q L a b x := by
  unfold rd
  rw [upI3]
  congr 1
  funext k
  unfold upd
  by_cases h : k = 8
  · subst h; rfl
  · rw [if_neg h]; simp only [h, if_false]
theorem TxC_of {g g' : St} {n : Nat} {c : CT} (h : TxC g n c) (h1 : g'.1 1 = g.1 1) (h2 : g'.1 2 = g.1 2) (h3 : g'.1 3 1 = g.1 3 1) : TxC g' n c := by
  unfold TxC at *
  rw [h1, h2, h3]
  exact h
theorem TxC_rd {g : St} {n : Nat} {c : CT} (h : TxC g n c) {q L a b v : Int32} : TxC (rd g q L a b v) n c := TxC_of h (rd_n (by decide)) (rd_n (by decide)) rd_1
def ltI (x : Int32) : Bool := decide (¬ x < 97) && decide (¬ 122 < x)
def fgI (x : Int32) : Bool := decide (¬ x < 48) && decide (¬ 57 < x)
theorem ltI_c {x : Nat} (hx : x < 256 ∨ x = 999) : ltI (cI x) = lt x := by
  unfold ltI lt
  have h1 := cI_lt (k := 97) hx (by decide)
  have h2 := cI_gt (k := 122) hx (by decide)
  have e1 : decide (¬ cI x < 97) = decide (x ≠ 999 ∧ 97 ≤ x) := decide_eq_decide.mpr ((not_congr h1).trans (by omega))
  have e2 : decide (¬ 122 < cI x) = decide (x = 999 ∨ x ≤ 122) := decide_eq_decide.mpr ((not_congr h2).trans (by omega))
  rw [e1, e2, ← Bool.decide_and, ← Bool.decide_and]
  exact decide_eq_decide.mpr (by omega)
theorem fgI_c {x : Nat} (hx : x < 256 ∨ x = 999) : fgI (cI x) = fg x := by
  unfold fgI fg
  have h1 := cI_lt (k := 48) hx (by decide)
  have h2 := cI_gt (k := 57) hx (by decide)
  have e1 : decide (¬ cI x < 48) = decide (x ≠ 999 ∧ 48 ≤ x) := decide_eq_decide.mpr ((not_congr h1).trans (by omega))
  have e2 : decide (¬ 57 < cI x) = decide (x = 999 ∨ x ≤ 57) := decide_eq_decide.mpr ((not_congr h2).trans (by omega))
  rw [e1, e2, ← Bool.decide_and, ← Bool.decide_and]
  exact decide_eq_decide.mpr (by omega)
theorem B1_01 (b : Bool) : B1 b = 0 ∨ B1 b = 1 := by cases b; exact Or.inl rfl; exact Or.inr rfl

set_option maxHeartbeats 4000000 in
set_option maxRecDepth 100000 in
theorem c_isLetter {ad : Nat → Nat} {g : St} {x : Int32} : Ci 1 mX7_isLetter [.int x] ad g (fun v g' => v = B1 (ltI x) ∧ g' = g) := by
  refine Cm.mk rfl (Nat.le_of_ble_eq_true rfl) (fun K hK hR hm hnn => ?_)
  refine r_iload_n (i := 0) hK dX7_isLetter_0 rfl rfl ?_
  refine r_bipush (v := 97) hK dX7_isLetter_1 (by decide) ?_
  refine r_icmp_lt (tgt := 16) hK dX7_isLetter_3 (by decide) (fun h3 => ?_) (fun h3 => ?_)
  · refine r_iconst (v := 0) hK dX7_isLetter_16 (by decide) ?_
    refine q_zret hK hR dX7_isLetter_17 (by first | exact Or.inl rfl | exact Or.inr rfl | assumption) ?_
    refine ⟨?_, rfl⟩
    unfold ltI
    first
      | (rw [decide_eq_true h3, decide_eq_true h9]; rfl)
      | (rw [decide_eq_false (not_not_intro h3)]; rfl)
      | (rw [decide_eq_false (not_not_intro h9)]; simp; done)
  · refine r_iload_n (i := 0) hK dX7_isLetter_6 rfl rfl ?_
    refine r_bipush (v := 122) hK dX7_isLetter_7 (by decide) ?_
    refine r_icmp_gt (tgt := 16) hK dX7_isLetter_9 (by decide) (fun h9 => ?_) (fun h9 => ?_)
    · refine r_iconst (v := 0) hK dX7_isLetter_16 (by decide) ?_
      refine q_zret hK hR dX7_isLetter_17 (by first | exact Or.inl rfl | exact Or.inr rfl | assumption) ?_
      refine ⟨?_, rfl⟩
      unfold ltI
      first
        | (rw [decide_eq_true h3, decide_eq_true h9]; rfl)
        | (rw [decide_eq_false (not_not_intro h3)]; rfl)
        | (rw [decide_eq_false (not_not_intro h9)]; simp; done)
    · refine r_iconst (v := 1) hK dX7_isLetter_12 (by decide) ?_
      refine r_goto (tgt := 17) hK dX7_isLetter_13 (by decide) ?_
      refine q_zret hK hR dX7_isLetter_17 (by first | exact Or.inl rfl | exact Or.inr rfl | assumption) ?_
      refine ⟨?_, rfl⟩
      unfold ltI
      first
        | (rw [decide_eq_true h3, decide_eq_true h9]; rfl)
        | (rw [decide_eq_false (not_not_intro h3)]; rfl)
        | (rw [decide_eq_false (not_not_intro h9)]; simp; done)
set_option maxHeartbeats 4000000 in
set_option maxRecDepth 100000 in
theorem c_isFigure {ad : Nat → Nat} {g : St} {x : Int32} : Ci 1 mX7_isFigure [.int x] ad g (fun v g' => v = B1 (fgI x) ∧ g' = g) := by
  refine Cm.mk rfl (Nat.le_of_ble_eq_true rfl) (fun K hK hR hm hnn => ?_)
  refine r_iload_n (i := 0) hK dX7_isFigure_0 rfl rfl ?_
  refine r_bipush (v := 48) hK dX7_isFigure_1 (by decide) ?_
  refine r_icmp_lt (tgt := 16) hK dX7_isFigure_3 (by decide) (fun h3 => ?_) (fun h3 => ?_)
  · refine r_iconst (v := 0) hK dX7_isFigure_16 (by decide) ?_
    refine q_zret hK hR dX7_isFigure_17 (by first | exact Or.inl rfl | exact Or.inr rfl | assumption) ?_
    refine ⟨?_, rfl⟩
    unfold fgI
    first
      | (rw [decide_eq_true h3, decide_eq_true h9]; rfl)
      | (rw [decide_eq_false (not_not_intro h3)]; rfl)
      | (rw [decide_eq_false (not_not_intro h9)]; simp; done)
  · refine r_iload_n (i := 0) hK dX7_isFigure_6 rfl rfl ?_
    refine r_bipush (v := 57) hK dX7_isFigure_7 (by decide) ?_
    refine r_icmp_gt (tgt := 16) hK dX7_isFigure_9 (by decide) (fun h9 => ?_) (fun h9 => ?_)
    · refine r_iconst (v := 0) hK dX7_isFigure_16 (by decide) ?_
      refine q_zret hK hR dX7_isFigure_17 (by first | exact Or.inl rfl | exact Or.inr rfl | assumption) ?_
      refine ⟨?_, rfl⟩
      unfold fgI
      first
        | (rw [decide_eq_true h3, decide_eq_true h9]; rfl)
        | (rw [decide_eq_false (not_not_intro h3)]; rfl)
        | (rw [decide_eq_false (not_not_intro h9)]; simp; done)
    · refine r_iconst (v := 1) hK dX7_isFigure_12 (by decide) ?_
      refine r_goto (tgt := 17) hK dX7_isFigure_13 (by decide) ?_
      refine q_zret hK hR dX7_isFigure_17 (by first | exact Or.inl rfl | exact Or.inr rfl | assumption) ?_
      refine ⟨?_, rfl⟩
      unfold fgI
      first
        | (rw [decide_eq_true h3, decide_eq_true h9]; rfl)
        | (rw [decide_eq_false (not_not_intro h3)]; rfl)
        | (rw [decide_eq_false (not_not_intro h9)]; simp; done)
set_option maxHeartbeats 4000000 in
set_option maxRecDepth 100000 in
theorem c_goesOn {ad : Nat → Nat} {g : St} {x : Int32} {a b : Bool} (ha : g.1 3 6 = B1 a) (hb : g.1 3 7 = B1 b) : Ci 2 mX7_goesOn [.ref 3, .int x] ad g (fun v g' => v = B1 ((a && ltI x) || (b && fgI x)) ∧ g' = g) := by
  refine Cm.mk rfl (Nat.le_of_ble_eq_true rfl) (fun K hK hR hm hnn => ?_)
  refine r_aload_n (i := 0) hK dX7_goesOn_0 rfl rfl ?_
  refine r_getI hK flX7_148 to_3 rfl dX7_goesOn_1 ?_
  refine r_top (y := B1 a) ha ?_
  refine r_if_eq (tgt := 14) hK dX7_goesOn_4 (by decide) (fun h4 => ?_) (fun h4 => ?_)
  · refine r_aload_n (i := 0) hK dX7_goesOn_14 rfl rfl ?_
    refine r_getI hK flX7_137 to_3 rfl dX7_goesOn_15 ?_
    refine r_top (y := B1 b) hb ?_
    refine r_if_eq (tgt := 32) hK dX7_goesOn_18 (by decide) (fun h18 => ?_) (fun h18 => ?_)
    · refine r_iconst (v := 0) hK dX7_goesOn_32 (by decide) ?_
      refine q_zret hK hR dX7_goesOn_33 (by first | exact Or.inl rfl | exact Or.inr rfl | assumption) ?_
      refine ⟨?_, rfl⟩
      first
        | (rw [B1_n.mp h4, B1_n.mp h11]; rfl)
        | (rw [B1_n.mp h18, B1_n.mp h25]; simp; done)
        | (rw [B1_0.mp h4, B1_0.mp h18]; rfl)
        | (rw [B1_0.mp h4, B1_0.mp h25]; simp; done)
        | (rw [B1_0.mp h11, B1_0.mp h18]; simp; done)
        | (rw [B1_0.mp h11, B1_0.mp h25]; simp; done)
    · refine r_iload_n (i := 1) hK dX7_goesOn_21 rfl rfl ?_
      refine r_si1 hK hnn c_isFigure moX7_isFigure mlX7_163 dX7_goesOn_22 (Nat.le_of_ble_eq_true rfl) (Nat.le_of_ble_eq_true rfl) (eqI ?_)
      refine r_if_eq (tgt := 32) hK dX7_goesOn_25 (by decide) (fun h25 => ?_) (fun h25 => ?_)
      · refine r_iconst (v := 0) hK dX7_goesOn_32 (by decide) ?_
        refine q_zret hK hR dX7_goesOn_33 (by first | exact Or.inl rfl | exact Or.inr rfl | assumption) ?_
        refine ⟨?_, rfl⟩
        first
          | (rw [B1_n.mp h4, B1_n.mp h11]; rfl)
          | (rw [B1_n.mp h18, B1_n.mp h25]; simp; done)
          | (rw [B1_0.mp h4, B1_0.mp h18]; rfl)
          | (rw [B1_0.mp h4, B1_0.mp h25]; simp; done)
          | (rw [B1_0.mp h11, B1_0.mp h18]; simp; done)
          | (rw [B1_0.mp h11, B1_0.mp h25]; simp; done)
      · refine r_iconst (v := 1) hK dX7_goesOn_28 (by decide) ?_
        refine r_goto (tgt := 33) hK dX7_goesOn_29 (by decide) ?_
        refine q_zret hK hR dX7_goesOn_33 (by first | exact Or.inl rfl | exact Or.inr rfl | assumption) ?_
        refine ⟨?_, rfl⟩
        first
          | (rw [B1_n.mp h4, B1_n.mp h11]; rfl)
          | (rw [B1_n.mp h18, B1_n.mp h25]; simp; done)
          | (rw [B1_0.mp h4, B1_0.mp h18]; rfl)
          | (rw [B1_0.mp h4, B1_0.mp h25]; simp; done)
          | (rw [B1_0.mp h11, B1_0.mp h18]; simp; done)
          | (rw [B1_0.mp h11, B1_0.mp h25]; simp; done)
  · refine r_iload_n (i := 1) hK dX7_goesOn_7 rfl rfl ?_
    refine r_si1 hK hnn c_isLetter moX7_isLetter mlX7_159 dX7_goesOn_8 (Nat.le_of_ble_eq_true rfl) (Nat.le_of_ble_eq_true rfl) (eqI ?_)
    refine r_if_ne (tgt := 28) hK dX7_goesOn_11 (by decide) (fun h11 => ?_) (fun h11 => ?_)
    · refine r_iconst (v := 1) hK dX7_goesOn_28 (by decide) ?_
      refine r_goto (tgt := 33) hK dX7_goesOn_29 (by decide) ?_
      refine q_zret hK hR dX7_goesOn_33 (by first | exact Or.inl rfl | exact Or.inr rfl | assumption) ?_
      refine ⟨?_, rfl⟩
      first
        | (rw [B1_n.mp h4, B1_n.mp h11]; rfl)
        | (rw [B1_n.mp h18, B1_n.mp h25]; simp; done)
        | (rw [B1_0.mp h4, B1_0.mp h18]; rfl)
        | (rw [B1_0.mp h4, B1_0.mp h25]; simp; done)
        | (rw [B1_0.mp h11, B1_0.mp h18]; simp; done)
        | (rw [B1_0.mp h11, B1_0.mp h25]; simp; done)
    · refine r_aload_n (i := 0) hK dX7_goesOn_14 rfl rfl ?_
      refine r_getI hK flX7_137 to_3 rfl dX7_goesOn_15 ?_
      refine r_top (y := B1 b) hb ?_
      refine r_if_eq (tgt := 32) hK dX7_goesOn_18 (by decide) (fun h18 => ?_) (fun h18 => ?_)
      · refine r_iconst (v := 0) hK dX7_goesOn_32 (by decide) ?_
        refine q_zret hK hR dX7_goesOn_33 (by first | exact Or.inl rfl | exact Or.inr rfl | assumption) ?_
        refine ⟨?_, rfl⟩
        first
          | (rw [B1_n.mp h4, B1_n.mp h11]; rfl)
          | (rw [B1_n.mp h18, B1_n.mp h25]; simp; done)
          | (rw [B1_0.mp h4, B1_0.mp h18]; rfl)
          | (rw [B1_0.mp h4, B1_0.mp h25]; simp; done)
          | (rw [B1_0.mp h11, B1_0.mp h18]; simp; done)
          | (rw [B1_0.mp h11, B1_0.mp h25]; simp; done)
      · refine r_iload_n (i := 1) hK dX7_goesOn_21 rfl rfl ?_
        refine r_si1 hK hnn c_isFigure moX7_isFigure mlX7_163 dX7_goesOn_22 (Nat.le_of_ble_eq_true rfl) (Nat.le_of_ble_eq_true rfl) (eqI ?_)
        refine r_if_eq (tgt := 32) hK dX7_goesOn_25 (by decide) (fun h25 => ?_) (fun h25 => ?_)
        · refine r_iconst (v := 0) hK dX7_goesOn_32 (by decide) ?_
          refine q_zret hK hR dX7_goesOn_33 (by first | exact Or.inl rfl | exact Or.inr rfl | assumption) ?_
          refine ⟨?_, rfl⟩
          first
            | (rw [B1_n.mp h4, B1_n.mp h11]; rfl)
            | (rw [B1_n.mp h18, B1_n.mp h25]; simp; done)
            | (rw [B1_0.mp h4, B1_0.mp h18]; rfl)
            | (rw [B1_0.mp h4, B1_0.mp h25]; simp; done)
            | (rw [B1_0.mp h11, B1_0.mp h18]; simp; done)
            | (rw [B1_0.mp h11, B1_0.mp h25]; simp; done)
        · refine r_iconst (v := 1) hK dX7_goesOn_28 (by decide) ?_
          refine r_goto (tgt := 33) hK dX7_goesOn_29 (by decide) ?_
          refine q_zret hK hR dX7_goesOn_33 (by first | exact Or.inl rfl | exact Or.inr rfl | assumption) ?_
          refine ⟨?_, rfl⟩
          first
            | (rw [B1_n.mp h4, B1_n.mp h11]; rfl)
            | (rw [B1_n.mp h18, B1_n.mp h25]; simp; done)
            | (rw [B1_0.mp h4, B1_0.mp h18]; rfl)
            | (rw [B1_0.mp h4, B1_0.mp h25]; simp; done)
            | (rw [B1_0.mp h11, B1_0.mp h18]; simp; done)
            | (rw [B1_0.mp h11, B1_0.mp h25]; simp; done)
set_option maxHeartbeats 4000000 in
set_option maxRecDepth 100000 in
theorem c_byteAt {ad : Nat → Nat} {g : St} {n i : Nat} {c : CT} {x : Int32} (hT : TxC g n c) (hx : x = nI i) (hi : i < 2 ^ 31) : Ci 2 mX7_byteAt [.ref 3, .int x] ad g (fun v g' => v = cI (c i) ∧ g' = g) := by
  subst hx
  obtain ⟨hok, hn, hb, hsrc⟩ := hT
  have h400 := hok.1
  refine Cm.mk rfl (Nat.le_of_ble_eq_true rfl) (fun K hK hR hm hnn => ?_)
  refine r_aload_n (i := 0) hK dX7_byteAt_0 rfl rfl ?_
  refine r_getO1 hK hsrc flX7_22 to_3 rfl dX7_byteAt_1 ?_
  refine r_ifnull hK dX7_byteAt_4 ?_
  refine r_iload_n (i := 1) hK dX7_byteAt_7 rfl rfl ?_
  refine r_aload_n (i := 0) hK dX7_byteAt_8 rfl rfl ?_
  refine r_getO1 hK hsrc flX7_22 to_3 rfl dX7_byteAt_9 ?_
  refine r_getI hK flX7_169 to_1 rfl dX7_byteAt_12 ?_
  refine r_top (y := nI n) hn ?_
  refine r_icmp_ge (tgt := 32) hK dX7_byteAt_15 (by decide) (fun h15 => ?_) (fun h15 => ?_)
  · have hni : n ≤ i := by first | exact Nat.le_of_not_lt (fun z => h15 (nI_ge z (by omega))) | exact Nat.le_of_not_lt (fun z => absurd h15 (nI_ge z (by omega)))
    refine r_iconst (v := (-1)) hK dX7_byteAt_32 (by decide) ?_
    refine q_iret hK hR dX7_byteAt_33 ?_
    first
      | exact ⟨by rw [cI, if_neg (by have := hok.2.1 i hin; omega)], rfl⟩
      | exact ⟨by rw [cI, if_pos (hok.2.2 i (by omega))], rfl⟩
  · refine r_aload_n (i := 0) hK dX7_byteAt_18 rfl rfl ?_
    have hin : i < n := by first | exact Nat.lt_of_not_le (fun z => h15 (nI_le z hi)) | (have := fun z => h15 (nI_le (a := n) (b := i) z hi); omega)
    refine r_getO1 hK hsrc flX7_22 to_3 rfl dX7_byteAt_19 ?_
    refine r_getA hK flX7_172 to_1 rfl dX7_byteAt_22 ?_
    refine r_iload_n (i := 1) hK dX7_byteAt_25 rfl rfl ?_
    refine r_si2 hK hnn (c_atE to_2 (by decide) rfl (by omega) (hb i hin)) moX9_at mlX7_175 dX7_byteAt_26 (Nat.le_of_ble_eq_true rfl) (Nat.le_of_ble_eq_true rfl) (eqI ?_)
    refine r_goto (tgt := 33) hK dX7_byteAt_29 (by decide) ?_
    refine q_iret hK hR dX7_byteAt_33 ?_
    first
      | exact ⟨by rw [cI, if_neg (by have := hok.2.1 i hin; omega)], rfl⟩
      | exact ⟨by rw [cI, if_pos (hok.2.2 i (by omega))], rfl⟩
