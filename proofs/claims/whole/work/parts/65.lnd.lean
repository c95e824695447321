/-! LAND -/
def cp14 (a b : Nat → Int32) : Nat → Int32 := va_cpy a b 0 0 14
theorem cp14_lt {a b : Nat → Int32} {j : Nat} (h : j < 14) : cp14 a b j = a j := by
  unfold cp14
  rw [pk_cpy_in (Nat.zero_le _) (by omega)]
  congr 1
  omega

set_option maxHeartbeats 4000000 in
set_option maxRecDepth 100000 in
theorem c_copy14 {ad : Nat → Nat} {g : St} {o q : Nat} (t0 : TT[o]? = some (.inr (0, 14, []))) (t1 : TT[q]? = some (.inr (0, 14, []))) : Cv 1 mX9_copy [.ref o, .ref q] ad g (fun g' => g' = upR g q (cp14 (g.1 o) (g.1 q))) := by
  refine Cm.mk rfl (Nat.le_of_ble_eq_true rfl) (fun K hK hR hm hnn => ?_)
  refine r_aload_n (i := 0) hK dX9_copy_0 rfl rfl ?_
  refine r_iconst (v := 0) hK dX9_copy_1 (by decide) ?_
  refine r_aload_n (i := 1) hK dX9_copy_2 rfl rfl ?_
  refine r_iconst (v := 0) hK dX9_copy_3 (by decide) ?_
  refine r_aload_n (i := 0) hK dX9_copy_4 rfl rfl ?_
  refine r_alen (v := 14) hK t0 (by decide) (by first | rfl | decide) dX9_copy_5 ?_
  refine r_aload_n (i := 1) hK dX9_copy_6 rfl rfl ?_
  refine r_alen (v := 14) hK t1 (by decide) (by first | rfl | decide) dX9_copy_7 ?_
  refine r_min hK hnn mwX9_326 dX9_copy_8 (Nat.le_of_ble_eq_true rfl) (Nat.le_of_ble_eq_true rfl) ?_
  refine r_copy hK mwX9_329 t0 t1 (by decide) (by decide) (by decide) (by decide) (by decide) dX9_copy_11 (Nat.le_of_ble_eq_true rfl) (Nat.le_of_ble_eq_true rfl) ?_
  refine q_vret hK hR dX9_copy_14 ?_
  rfl
def BeQ (g g' : St) : Prop := (∀ j, (j < 13 ∨ 21 < j) → g'.1 j = g.1 j) ∧ g'.2 = g.2 ∧ (∀ w, w < 14 → g'.1 14 w = g.1 5 w ∧ g'.1 15 w = g.1 6 w ∧ g'.1 16 w = g.1 7 w) ∧ (∀ p, p < 6 → g'.1 17 p = g.1 8 p ∧ g'.1 18 p = g.1 9 p ∧ g'.1 19 p = g.1 10 p ∧ g'.1 20 p = g.1 11 p ∧ g'.1 21 p = g.1 12 p) ∧ g'.1 13 8 = g.1 4 8 ∧ g'.1 13 9 = g.1 4 9 ∧ g'.1 13 10 = g.1 4 10
set_option maxHeartbeats 4000000 in
set_option maxRecDepth 100000 in
theorem c_become {ad : Nat → Nat} {g : St}  : Cv 2 mX4_become [.ref 13, .ref 4] ad g (fun g' => BeQ g g') := by
  refine Cm.mk rfl (Nat.le_of_ble_eq_true rfl) (fun K hK hR hm hnn => ?_)
  refine r_aload_n (i := 1) hK dX4_become_0 rfl rfl ?_
  refine r_getA hK flX4_9 to_4 rfl dX4_become_1 ?_
  refine r_aload_n (i := 0) hK dX4_become_4 rfl rfl ?_
  refine r_getA hK flX4_9 to_13 rfl dX4_become_5 ?_
  refine r_sv2 hK hnn (c_copy14 to_5 to_14) moX9_copy mlX4_46 dX4_become_8 (Nat.le_of_ble_eq_true rfl) (Nat.le_of_ble_eq_true rfl) (eqV ?_)
  obtain ⟨y14, hy14⟩ : ∃ x, x = upR g 14 (cp14 (g.1 5) (g.1 14)) := ⟨_, rfl⟩
  rw [← hy14]
  have n14 : ∀ j, j ≠ 14 → y14.1 j = g.1 j := fun j h => by rw [hy14]; exact upR_n h
  have l14 : y14.2 = g.2 := by rw [hy14]; rfl
  have v14 : ∀ j, j < 14 → y14.1 14 j = g.1 5 j := fun j h => by rw [hy14, upR_s, cp14_lt h]
  refine r_aload_n (i := 1) hK dX4_become_11 rfl rfl ?_
  refine r_getA hK flX4_15 to_4 rfl dX4_become_12 ?_
  refine r_aload_n (i := 0) hK dX4_become_15 rfl rfl ?_
  refine r_getA hK flX4_15 to_13 rfl dX4_become_16 ?_
  refine r_sv2 hK hnn (c_copy14 to_6 to_15) moX9_copy mlX4_46 dX4_become_19 (Nat.le_of_ble_eq_true rfl) (Nat.le_of_ble_eq_true rfl) (eqV ?_)
  obtain ⟨y15, hy15⟩ : ∃ x, x = upR y14 15 (cp14 (y14.1 6) (y14.1 15)) := ⟨_, rfl⟩
  rw [← hy15]
  have n15 : ∀ j, j ≠ 15 → y15.1 j = y14.1 j := fun j h => by rw [hy15]; exact upR_n h
  have l15 : y15.2 = y14.2 := by rw [hy15]; rfl
  have v15 : ∀ j, j < 14 → y15.1 15 j = g.1 6 j := fun j h => by rw [hy15, upR_s, cp14_lt h, n14 6 (by decide)]
  refine r_aload_n (i := 1) hK dX4_become_22 rfl rfl ?_
  refine r_getA hK flX4_18 to_4 rfl dX4_become_23 ?_
  refine r_aload_n (i := 0) hK dX4_become_26 rfl rfl ?_
  refine r_getA hK flX4_18 to_13 rfl dX4_become_27 ?_
  refine r_sv2 hK hnn (c_copy14 to_7 to_16) moX9_copy mlX4_46 dX4_become_30 (Nat.le_of_ble_eq_true rfl) (Nat.le_of_ble_eq_true rfl) (eqV ?_)
  obtain ⟨y16, hy16⟩ : ∃ x, x = upR y15 16 (cp14 (y15.1 7) (y15.1 16)) := ⟨_, rfl⟩
  rw [← hy16]
  have n16 : ∀ j, j ≠ 16 → y16.1 j = y15.1 j := fun j h => by rw [hy16]; exact upR_n h
  have l16 : y16.2 = y15.2 := by rw [hy16]; rfl
  have v16 : ∀ j, j < 14 → y16.1 16 j = g.1 7 j := fun j h => by rw [hy16, upR_s, cp14_lt h, n15 7 (by decide), n14 7 (by decide)]
  refine r_aload_n (i := 1) hK dX4_become_33 rfl rfl ?_
  refine r_getA hK flX4_21 to_4 rfl dX4_become_34 ?_
  refine r_aload_n (i := 0) hK dX4_become_37 rfl rfl ?_
  refine r_getA hK flX4_21 to_13 rfl dX4_become_38 ?_
  refine r_sv2 hK hnn (c_copy6 to_8 to_17) moX9_copy mlX4_46 dX4_become_41 (Nat.le_of_ble_eq_true rfl) (Nat.le_of_ble_eq_true rfl) (eqV ?_)
  obtain ⟨y17, hy17⟩ : ∃ x, x = upR y16 17 (cp6 (y16.1 8) (y16.1 17)) := ⟨_, rfl⟩
  rw [← hy17]
  have n17 : ∀ j, j ≠ 17 → y17.1 j = y16.1 j := fun j h => by rw [hy17]; exact upR_n h
  have l17 : y17.2 = y16.2 := by rw [hy17]; rfl
  have v17 : ∀ j, j < 6 → y17.1 17 j = g.1 8 j := fun j h => by rw [hy17, upR_s, cp6_lt h, n16 8 (by decide), n15 8 (by decide), n14 8 (by decide)]
  refine r_aload_n (i := 1) hK dX4_become_44 rfl rfl ?_
  refine r_getA hK flX4_24 to_4 rfl dX4_become_45 ?_
  refine r_aload_n (i := 0) hK dX4_become_48 rfl rfl ?_
  refine r_getA hK flX4_24 to_13 rfl dX4_become_49 ?_
  refine r_sv2 hK hnn (c_copy6 to_9 to_18) moX9_copy mlX4_46 dX4_become_52 (Nat.le_of_ble_eq_true rfl) (Nat.le_of_ble_eq_true rfl) (eqV ?_)
  obtain ⟨y18, hy18⟩ : ∃ x, x = upR y17 18 (cp6 (y17.1 9) (y17.1 18)) := ⟨_, rfl⟩
  rw [← hy18]
  have n18 : ∀ j, j ≠ 18 → y18.1 j = y17.1 j := fun j h => by rw [hy18]; exact upR_n h
  have l18 : y18.2 = y17.2 := by rw [hy18]; rfl
  have v18 : ∀ j, j < 6 → y18.1 18 j = g.1 9 j := fun j h => by rw [hy18, upR_s, cp6_lt h, n17 9 (by decide), n16 9 (by decide), n15 9 (by decide), n14 9 (by decide)]
  refine r_aload_n (i := 1) hK dX4_become_55 rfl rfl ?_
  refine r_getA hK flX4_27 to_4 rfl dX4_become_56 ?_
  refine r_aload_n (i := 0) hK dX4_become_59 rfl rfl ?_
  refine r_getA hK flX4_27 to_13 rfl dX4_become_60 ?_
  refine r_sv2 hK hnn (c_copy6 to_10 to_19) moX9_copy mlX4_46 dX4_become_63 (Nat.le_of_ble_eq_true rfl) (Nat.le_of_ble_eq_true rfl) (eqV ?_)
  obtain ⟨y19, hy19⟩ : ∃ x, x = upR y18 19 (cp6 (y18.1 10) (y18.1 19)) := ⟨_, rfl⟩
  rw [← hy19]
  have n19 : ∀ j, j ≠ 19 → y19.1 j = y18.1 j := fun j h => by rw [hy19]; exact upR_n h
  have l19 : y19.2 = y18.2 := by rw [hy19]; rfl
  have v19 : ∀ j, j < 6 → y19.1 19 j = g.1 10 j := fun j h => by rw [hy19, upR_s, cp6_lt h, n18 10 (by decide), n17 10 (by decide), n16 10 (by decide), n15 10 (by decide), n14 10 (by decide)]
  refine r_aload_n (i := 1) hK dX4_become_66 rfl rfl ?_
  refine r_getA hK flX4_30 to_4 rfl dX4_become_67 ?_
  refine r_aload_n (i := 0) hK dX4_become_70 rfl rfl ?_
  refine r_getA hK flX4_30 to_13 rfl dX4_become_71 ?_
  refine r_sv2 hK hnn (c_copy6 to_11 to_20) moX9_copy mlX4_46 dX4_become_74 (Nat.le_of_ble_eq_true rfl) (Nat.le_of_ble_eq_true rfl) (eqV ?_)
  obtain ⟨y20, hy20⟩ : ∃ x, x = upR y19 20 (cp6 (y19.1 11) (y19.1 20)) := ⟨_, rfl⟩
  rw [← hy20]
  have n20 : ∀ j, j ≠ 20 → y20.1 j = y19.1 j := fun j h => by rw [hy20]; exact upR_n h
  have l20 : y20.2 = y19.2 := by rw [hy20]; rfl
  have v20 : ∀ j, j < 6 → y20.1 20 j = g.1 11 j := fun j h => by rw [hy20, upR_s, cp6_lt h, n19 11 (by decide), n18 11 (by decide), n17 11 (by decide), n16 11 (by decide), n15 11 (by decide), n14 11 (by decide)]
  refine r_aload_n (i := 1) hK dX4_become_77 rfl rfl ?_
  refine r_getA hK flX4_33 to_4 rfl dX4_become_78 ?_
  refine r_aload_n (i := 0) hK dX4_become_81 rfl rfl ?_
  refine r_getA hK flX4_33 to_13 rfl dX4_become_82 ?_
  refine r_sv2 hK hnn (c_copy6 to_12 to_21) moX9_copy mlX4_46 dX4_become_85 (Nat.le_of_ble_eq_true rfl) (Nat.le_of_ble_eq_true rfl) (eqV ?_)
  obtain ⟨y21, hy21⟩ : ∃ x, x = upR y20 21 (cp6 (y20.1 12) (y20.1 21)) := ⟨_, rfl⟩
  rw [← hy21]
  have n21 : ∀ j, j ≠ 21 → y21.1 j = y20.1 j := fun j h => by rw [hy21]; exact upR_n h
  have l21 : y21.2 = y20.2 := by rw [hy21]; rfl
  have v21 : ∀ j, j < 6 → y21.1 21 j = g.1 12 j := fun j h => by rw [hy21, upR_s, cp6_lt h, n20 12 (by decide), n19 12 (by decide), n18 12 (by decide), n17 12 (by decide), n16 12 (by decide), n15 12 (by decide), n14 12 (by decide)]
  refine r_aload_n (i := 0) hK dX4_become_88 rfl rfl ?_
  refine r_aload_n (i := 1) hK dX4_become_89 rfl rfl ?_
  refine r_getI hK flX4_36 to_4 rfl dX4_become_90 ?_
  refine r_putI hK flX4_36 ft4_8 to_13 rfl dX4_become_93 ?_
  refine r_aload_n (i := 0) hK dX4_become_96 rfl rfl ?_
  refine r_aload_n (i := 1) hK dX4_become_97 rfl rfl ?_
  refine r_getI hK flX4_40 to_4 rfl dX4_become_98 ?_
  refine r_putI hK flX4_40 ft4_9 to_13 rfl dX4_become_101 ?_
  refine r_aload_n (i := 0) hK dX4_become_104 rfl rfl ?_
  refine r_aload_n (i := 1) hK dX4_become_105 rfl rfl ?_
  refine r_getI hK flX4_43 to_4 rfl dX4_become_106 ?_
  refine r_putI hK flX4_43 ft4_10 to_13 rfl dX4_become_109 ?_
  refine q_vret hK hR dX4_become_112 ?_
  have N : ∀ j, (j < 13 ∨ 21 < j) → y21.1 j = g.1 j := fun j hj => by rw [n21 j (by omega), n20 j (by omega), n19 j (by omega), n18 j (by omega), n17 j (by omega), n16 j (by omega), n15 j (by omega), n14 j (by omega)]
  have Nf : ∀ k, y21.1 13 k = g.1 13 k := fun k => by rw [n21 13 (by decide), n20 13 (by decide), n19 13 (by decide), n18 13 (by decide), n17 13 (by decide), n16 13 (by decide), n15 13 (by decide), n14 13 (by decide)]
  have hu : ∀ j, j ≠ 13 → (upI (upI (upI y21 13 8 (y21.1 4 8)) 13 9 ((upI y21 13 8 (y21.1 4 8)).1 4 9)) 13 10 ((upI (upI y21 13 8 (y21.1 4 8)) 13 9 ((upI y21 13 8 (y21.1 4 8)).1 4 9)).1 4 10)).1 j = y21.1 j := fun j h => (upI_n h).trans ((upI_n h).trans (upI_n h))
  refine ⟨fun j hj => (hu j (by omega)).trans (N j hj), l21.trans (l20.trans (l19.trans (l18.trans (l17.trans (l16.trans (l15.trans l14)))))), fun w hw => ⟨?_, ?_, ?_⟩, fun p hp => ⟨?_, ?_, ?_, ?_, ?_⟩, ?_, ?_, ?_⟩
  · rw [hu 14 (by decide), n21 14 (by decide), n20 14 (by decide), n19 14 (by decide), n18 14 (by decide), n17 14 (by decide), n16 14 (by decide), n15 14 (by decide)]; exact v14 _ hw
  · rw [hu 15 (by decide), n21 15 (by decide), n20 15 (by decide), n19 15 (by decide), n18 15 (by decide), n17 15 (by decide), n16 15 (by decide)]; exact v15 _ hw
  · rw [hu 16 (by decide), n21 16 (by decide), n20 16 (by decide), n19 16 (by decide), n18 16 (by decide), n17 16 (by decide)]; exact v16 _ hw
  · rw [hu 17 (by decide), n21 17 (by decide), n20 17 (by decide), n19 17 (by decide), n18 17 (by decide)]; exact v17 _ hp
  · rw [hu 18 (by decide), n21 18 (by decide), n20 18 (by decide), n19 18 (by decide)]; exact v18 _ hp
  · rw [hu 19 (by decide), n21 19 (by decide), n20 19 (by decide)]; exact v19 _ hp
  · rw [hu 20 (by decide), n21 20 (by decide)]; exact v20 _ hp
  · rw [hu 21 (by decide)]; exact v21 _ hp
  · rw [upd_n2 (by decide), upd_n2 (by decide), upI_s, upd_s, N 4 (by decide)]
  · rw [upd_n2 (by decide), upI_s, upd_s, upI_n (by decide), N 4 (by decide)]
  · rw [upI_s, upd_s, upI_n (by decide), upI_n (by decide), N 4 (by decide)]

def mkX (A : DR) (law : Nat) : LN := (A.1, A.2.1, A.2.2.1, A.2.2.2.1, A.2.2.2.2, law)
theorem LC_be {g g' : St} {A : DR} {law : Nat} (h : DrC g A) (hb : BeQ g g') (hl : g.1 0 9 = nI law) (hl3 : law ≤ 3) : LC g' (mkX A law) := by
  obtain ⟨h1, h2, h3, ⟨h4, h5⟩, h6, h7⟩ := h
  obtain ⟨b1, b2, b3, b4, b5, b6, b7⟩ := hb
  have hw := h1.1
  have hp6 := h2.1
  refine ⟨h1, h2, hl3, b5.trans h3, ⟨b6.trans h4, fun w hw9 => ?_⟩, ⟨b7.trans h6, fun p hp => ?_⟩, (congrFun (b1 0 (by omega)) 9).trans hl⟩
  · obtain ⟨e1, e2, e3⟩ := b3 w (by have : w < A.2.1.1 := hw9; omega)
    obtain ⟨f1, f2, f3⟩ := h5 w hw9
    exact ⟨e1.trans f1, e2.trans f2, e3.trans f3⟩
  · obtain ⟨e1, e2, e3, e4, e5⟩ := b4 p (by have : p < A.2.2.1.1 := hp; omega)
    obtain ⟨f1, f2, f3, f4, f5⟩ := h7 p hp
    exact ⟨e1.trans f1, e2.trans f2, e3.trans f3, e4.trans f4, e5.trans f5⟩
def aLnd (c : CT) : Int32 := if (rdR c).2.1.1 = 0 then nI (rdR c).1.1 else -10 - nI (rdR c).2.1.1
def sLnd (c : CT) (X : LN) : LN := if (rdR c).2.1.1 = 0 then mkX (rdR c).1 X.2.2.2.2.2 else X
def LdQ (g : St) (X : LN) (c : CT) (v : Int32) (g' : St) : Prop :=
  v = aLnd c ∧ LC g' (sLnd c X) ∧ g'.1 1 1 = 0 ∧ g'.1 3 3 = fI (rdR c).2.1 ∧ g'.1 3 1 = 1 ∧ (∀ j, (j = 0 ∨ 22 ≤ j) → j ≠ 77 → j ≠ 85 → j ≠ 88 → g'.1 j = g.1 j) ∧ g'.2 = g.2 ∧ (∀ k, k ≠ 6 → k ≠ 7 → g'.1 77 k = g.1 77 k) ∧ (∀ k, k ≠ 4 → g'.1 85 k = g.1 85 k ∧ g'.1 88 k = g.1 88 k) ∧ if (rdR c).2.1.1 = 0 then g'.1 77 6 = 0 ∧ g'.1 77 7 = 0 ∧ g'.1 85 4 = 0 ∧ g'.1 88 4 = 0 else g'.1 77 = g.1 77 ∧ g'.1 85 4 = g.1 85 4 ∧ g'.1 88 4 = g.1 88 4

theorem LC_up1 {g g' : St} {X : LN} {x : Int32} (h : LC g X) (hk : ∀ j, (j < 3 ∨ 12 < j) → g'.1 j = g.1 j) : LC (upI g' 1 1 x) X := by
  obtain ⟨h1, h2, h3, h4, h5, h6, h7⟩ := h
  have e : ∀ j, (j = 0 ∨ 12 < j) → (upI g' 1 1 x).1 j = g.1 j := fun j hj => (upI_n (by omega)).trans (hk j (by omega))
  refine ⟨h1, h2, h3, by rw [e 13 (by decide)]; exact h4, ?_, ?_, by rw [e 0 (by decide)]; exact h7⟩
  · unfold WyC at *
    rw [e 13 (by decide), e 14 (by decide), e 15 (by decide), e 16 (by decide)]; exact h5
  · unfold PsC at *
    rw [e 13 (by decide), e 17 (by decide), e 18 (by decide), e 19 (by decide), e 20 (by decide), e 21 (by decide)]; exact h6
theorem LC_go {g g' : St} {X : LN} (h : LC g X) (hk : ∀ j, (j = 0 ∨ (13 ≤ j ∧ j ≤ 21)) → g'.1 j = g.1 j) : LC g' X := by
  obtain ⟨h1, h2, h3, h4, h5, h6, h7⟩ := h
  refine ⟨h1, h2, h3, by rw [hk 13 (by decide)]; exact h4, ?_, ?_, by rw [hk 0 (by decide)]; exact h7⟩
  · unfold WyC at *
    rw [hk 13 (by decide), hk 14 (by decide), hk 15 (by decide), hk 16 (by decide)]; exact h5
  · unfold PsC at *
    rw [hk 13 (by decide), hk 17 (by decide), hk 18 (by decide), hk 19 (by decide), hk 20 (by decide), hk 21 (by decide)]; exact h6
theorem im_t {i : Nat} (h : i < 2) : ([85, 88] : List Nat)[(nI i).toNatClampNeg]? = some (85 + 3 * i) := il_t h
theorem clS_ok {n : Nat} {c : CT} {A : DR} {F : FP} {s : Nat} (hT : tOk n c) (hs : s ≤ n) (hw : A.2.1.1 ≤ 14) (h : F.1 ≤ 4) : (clS c A F s).2.1.1 ≤ 4 := by
  unfold clS
  split
  · exact clP_ok h
  · split
    · exact clW_ok h
    · split
      · exact clQ_ok hT hs hw h
      · exact bl_ok h (by decide)

set_option maxHeartbeats 4000000 in
set_option maxRecDepth 100000 in
theorem c_land {ad : Nat → Nat} {g : St} {X : LN} (hX : LC g X) {n : Nat} {c : CT} (hT : TxC (upI g 3 1 1) n c) (hR4 : (rdR c).2.1.1 ≤ 4) : Ci 10 mX9_land [.ref 0] ad g (fun v g' => LdQ g X c v g') := by
  refine Cm.mk rfl (Nat.le_of_ble_eq_true rfl) (fun K hK hR hm hnn => ?_)
  refine r_aload_n (i := 0) hK dX9_land_0 rfl rfl ?_
  refine r_getA hK flX9_19 to_0 rfl dX9_land_1 ?_
  refine r_aload_n (i := 0) hK dX9_land_4 rfl rfl ?_
  refine r_getA hK flX9_12 to_0 rfl dX9_land_5 ?_
  refine r_ci1 hK hnn (c_read hT) moX7_read mlX9_86 to_3 rfl rfl dX9_land_8 (Nat.le_of_ble_eq_true rfl) (Nat.le_of_ble_eq_true rfl) (fun v8 g8 q8 => ?_)
  obtain ⟨rfl, g1, s9, hg8, hk, hd⟩ := q8
  have k3 : g8.1 3 3 = fI (rdR c).2.1 := by rw [hg8, rs_3]
  have k31 : g8.1 3 1 = 1 := by rw [hg8, rs_1, hk.1 3 (by decide), upI_s, upd_s]
  have kj : ∀ j, (j < 3 ∨ 12 < j) → g8.1 j = g.1 j := fun j hj => by rw [hg8, rs_n (by omega), hk.1 j (by omega), upI_n (by omega)]
  have kl : g8.2 = g.2 := by rw [hg8, rs_l, hk.2]; rfl
  refine r_istore_n (i := 1) hK hm dX9_land_11 rfl (by decide) ?_
  refine r_aload_n (i := 0) hK dX9_land_12 rfl rfl ?_
  refine r_getA hK flX9_12 to_0 rfl dX9_land_13 ?_
  refine r_iconst (v := 0) hK dX9_land_16 (by decide) ?_
  refine r_putI hK flX9_77 ft8_1 to_1 rfl dX9_land_17 ?_
  refine r_iload_n (i := 1) hK dX9_land_20 rfl rfl ?_
  refine r_if_eq (tgt := 29) hK dX9_land_21 (by decide) (fun h21 => ?_) (fun h21 => ?_)
  · refine r_aload_n (i := 0) hK dX9_land_29 rfl rfl ?_
    refine r_getA hK flX9_26 to_0 rfl dX9_land_30 ?_
    refine r_aload_n (i := 0) hK dX9_land_33 rfl rfl ?_
    refine r_getA hK flX9_19 to_0 rfl dX9_land_34 ?_
    refine r_getA hK flX9_90 to_3 rfl dX9_land_37 ?_
    refine r_cv1 hK hnn c_become moX4_become mlX9_93 to_13 rfl rfl dX9_land_40 (Nat.le_of_ble_eq_true rfl) (Nat.le_of_ble_eq_true rfl) (fun g40 q40 => ?_)
    have hb := q40
    have hz : (rdR c).2.1.1 = 0 := nI_inj (by have := hR4; omega) (by decide) h21
    have hA : DrC (upI g8 1 1 0) (rdR c).1 := DrC_of (hd hz) (fun j h1 h2 => by rw [upI_n (by omega), hg8, rs_n (by omega)])
    have hXb : LC g40 (mkX (rdR c).1 X.2.2.2.2.2) := LC_be hA hb (by rw [upI_n (by decide), kj 0 (by decide)]; exact hX.2.2.2.2.2.2) hX.2.2.1
    refine r_aload_n (i := 0) hK dX9_land_43 rfl rfl ?_
    refine r_getA hK flX9_65 to_0 rfl dX9_land_44 ?_
    refine r_cv0 hK hnn c_forget moX3_forget mlX9_97 to_77 rfl rfl dX9_land_47 (Nat.le_of_ble_eq_true rfl) (Nat.le_of_ble_eq_true rfl) (eqV ?_)
    refine r_iconst (v := 0) hK dX9_land_50 (by decide) ?_
    refine r_istore_n (i := 2) hK hm dX9_land_51 rfl (by decide) ?_
    refine r_iload_n (i := 2) hK dX9_land_52 rfl rfl ?_
    refine r_aload_n (i := 0) hK dX9_land_53 rfl rfl ?_
    refine r_getA hK flX9_71 to_0 rfl dX9_land_54 ?_
    refine r_alen (v := 2) hK to_84 (by decide) (by first | rfl | decide) dX9_land_57 ?_
    refine r_icmp_ge (tgt := 77) hK dX9_land_58 (by decide) (fun h => absurd h (by decide)) (fun _ => ?_)
    refine r_aload_n (i := 0) hK dX9_land_61 rfl rfl ?_
    refine r_getA hK flX9_71 to_0 rfl dX9_land_62 ?_
    refine r_iload_n (i := 2) hK dX9_land_65 rfl rfl ?_
    refine r_aald4 hK to_84 (vp_in_nI (n := 0) (N := 2) (by decide) (by decide)) (im_t (i := 0) (by decide)) dX9_land_66 ?_
    refine r_iconst (v := 0) hK dX9_land_67 (by decide) ?_
    refine r_putZ hK flX9_100 ft2_4 to_85 rfl (by decide) dX9_land_68 ?_
    refine r_iincN (i := 2) hK hm dX9_land_71 rfl (by decide) ?_
    refine r_goto (tgt := 52) hK dX9_land_74 (by decide) ?_
    refine r_iload_n (i := 2) hK dX9_land_52 rfl rfl ?_
    refine r_aload_n (i := 0) hK dX9_land_53 rfl rfl ?_
    refine r_getA hK flX9_71 to_0 rfl dX9_land_54 ?_
    refine r_alen (v := 2) hK to_84 (by decide) (by first | rfl | decide) dX9_land_57 ?_
    refine r_icmp_ge (tgt := 77) hK dX9_land_58 (by decide) (fun h => absurd h (by decide)) (fun _ => ?_)
    refine r_aload_n (i := 0) hK dX9_land_61 rfl rfl ?_
    refine r_getA hK flX9_71 to_0 rfl dX9_land_62 ?_
    refine r_iload_n (i := 2) hK dX9_land_65 rfl rfl ?_
    refine r_aald4 hK to_84 (vp_in_nI (n := 1) (N := 2) (by decide) (by decide)) (im_t (i := 1) (by decide)) dX9_land_66 ?_
    refine r_iconst (v := 0) hK dX9_land_67 (by decide) ?_
    refine r_putZ hK flX9_100 ft2_4 to_88 rfl (by decide) dX9_land_68 ?_
    refine r_iincN (i := 2) hK hm dX9_land_71 rfl (by decide) ?_
    refine r_goto (tgt := 52) hK dX9_land_74 (by decide) ?_
    refine r_iload_n (i := 2) hK dX9_land_52 rfl rfl ?_
    refine r_aload_n (i := 0) hK dX9_land_53 rfl rfl ?_
    refine r_getA hK flX9_71 to_0 rfl dX9_land_54 ?_
    refine r_alen (v := 2) hK to_84 (by decide) (by first | rfl | decide) dX9_land_57 ?_
    refine r_icmp_ge (tgt := 77) hK dX9_land_58 (by decide) (fun _ => ?_) (fun h => absurd (by decide) h)
    refine r_aload_n (i := 0) hK dX9_land_77 rfl rfl ?_
    refine r_getA hK flX9_26 to_0 rfl dX9_land_78 ?_
    refine r_getI hK flX9_104 to_13 rfl dX9_land_81 ?_
    refine r_top (y := nI (rdR c).1.1) ((congrFun ((upI_n (by decide)).trans ((upI_n (by decide)).trans ((upI_n (by decide)).trans (upI_n (by decide))))) _).trans hXb.2.2.2.1) ?_
    refine q_iret hK hR dX9_land_84 ?_
    have F : ∀ j, j ≠ 77 → j ≠ 85 → j ≠ 88 → (upI (upI (upI (upI g40 77 6 0) 77 7 0) 85 4 0) 88 4 0).1 j = g40.1 j := fun j h1 h2 h3 => (upI_n h3).trans ((upI_n h2).trans ((upI_n h1).trans (upI_n h1)))
    have F7 : (upI (upI (upI (upI g40 77 6 0) 77 7 0) 85 4 0) 88 4 0).1 77 = upd (upd (g40.1 77) 6 0) 7 0 := by rw [upI_n (by decide), upI_n (by decide), upI_s, upI_s]
    have F85 : (upI (upI (upI (upI g40 77 6 0) 77 7 0) 85 4 0) 88 4 0).1 85 = upd (g40.1 85) 4 0 := by rw [upI_n (by decide), upI_s, upI_n (by decide), upI_n (by decide)]
    have F88 : (upI (upI (upI (upI g40 77 6 0) 77 7 0) 85 4 0) 88 4 0).1 88 = upd (g40.1 88) 4 0 := by rw [upI_s, upI_n (by decide), upI_n (by decide), upI_n (by decide)]
    refine ⟨?_, ?_, ?_, ?_, ?_, fun j h1 h2 h3 h4 => ?_, ?_, fun k h1 h2 => ?_, fun k h1 => ⟨?_, ?_⟩, ?_⟩
    · unfold aLnd; rw [if_pos hz]
    · unfold sLnd; rw [if_pos hz]; exact LC_go hXb (fun j hj => F j (by omega) (by omega) (by omega))
    · rw [F 1 (by decide) (by decide) (by decide), hb.1 1 (by decide), upI_s, upd_s]
    · rw [F 3 (by decide) (by decide) (by decide), hb.1 3 (by decide), upI_n (by decide)]; exact k3
    · rw [F 3 (by decide) (by decide) (by decide), hb.1 3 (by decide), upI_n (by decide)]; exact k31
    · rw [F j h2 h3 h4, hb.1 j (by omega), upI_n (by omega)]; exact kj j (by omega)
    · exact hb.2.1.trans kl
    · rw [F7, upd_e h2, upd_e h1, hb.1 77 (by decide), upI_n (by decide), kj 77 (by decide)]
    · rw [F85, upd_e h1, hb.1 85 (by decide), upI_n (by decide), kj 85 (by decide)]
    · rw [F88, upd_e h1, hb.1 88 (by decide), upI_n (by decide), kj 88 (by decide)]
    · rw [if_pos hz, F7, F85, F88]
      exact ⟨rfl, rfl, rfl, rfl⟩
  · refine r_bipush (v := (-10)) hK dX9_land_24 (by decide) ?_
    refine r_iload_n (i := 1) hK dX9_land_26 rfl rfl ?_
    refine r_isub hK dX9_land_27 ?_
    refine q_iret hK hR dX9_land_28 ?_
    have hz : ¬ (rdR c).2.1.1 = 0 := fun z => h21 (by rw [z]; rfl)
    refine ⟨?_, ?_, ?_, ?_, ?_, fun j h1 h2 h3 h4 => ?_, kl, fun k h1 h2 => ?_, fun k h1 => ⟨?_, ?_⟩, ?_⟩
    · unfold aLnd; rw [if_neg hz]
    · unfold sLnd; rw [if_neg hz]; exact LC_up1 hX kj
    · rw [upI_s, upd_s]
    · rw [upI_n (by decide)]; exact k3
    · rw [upI_n (by decide)]; exact k31
    · rw [upI_n (by omega)]; exact kj j (by omega)
    · rw [upI_n (by decide), kj 77 (by decide)]
    · rw [upI_n (by decide), kj 85 (by decide)]
    · rw [upI_n (by decide), kj 88 (by decide)]
    · rw [if_neg hz, upI_n (by decide), upI_n (by decide), upI_n (by decide), kj 77 (by decide), kj 85 (by decide), kj 88 (by decide)]
      exact ⟨rfl, rfl, rfl⟩
