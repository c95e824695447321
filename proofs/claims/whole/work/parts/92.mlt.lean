/-! THE MODEL: by lot, walked -/
def FQ (g g' : St) : Prop := (∀ j, j ≠ 91 → j ≠ 115 → j ≠ 116 → j ≠ 117 → g'.1 j = g.1 j) ∧ (∀ k, k ≠ 44 → g'.1 91 k = g.1 91 k) ∧ ∀ j, j ≠ 118 → g'.2 j = g.2 j
theorem FQ.rf {g : St} : FQ g g := ⟨fun _ _ _ _ _ => rfl, fun _ _ => rfl, fun _ _ => rfl⟩
theorem FQ.tr {g g' g2 : St} (h : FQ g g') (h2 : FQ g' g2) : FQ g g2 := ⟨fun j a b c d => (h2.1 j a b c d).trans (h.1 j a b c d), fun k a => (h2.2.1 k a).trans (h.2.1 k a), fun j a => (h2.2.2 j a).trans (h.2.2 j a)⟩
theorem FQ.fm {g g' : St} (h : FQ g g') : FM g g' := ⟨fun j hj => h.1 j (by omega) (by omega) (by omega) (by omega), fun k hk => h.2.1 k (fun z => by rw [z] at hk; exact absurd hk (by decide)), h.2.2⟩
theorem MG_fq {g g' : St} {V : VT} {n : Nat} (h : MG g V n) (hf : FQ g g') : MG g' V n := by
  intro q hq
  rw [hf.1 112 (by decide) (by decide) (by decide) (by decide), hf.1 113 (by decide) (by decide) (by decide) (by decide)]; exact h q hq
def QM (g : St) (q : Nat → QE) (m : Nat) : Prop := ∀ j, j < m → g.1 115 j = nI (q j).1 ∧ g.1 116 j = nI (q j).2.1 ∧ g.1 117 j = nI (q j).2.2.1 ∧ g.2 118 j = lN (q j).2.2.2
def uQ (q : Nat → QE) (m : Nat) (e : QE) : Nat → QE := fun j => if j = m then e else q j
theorem uQ_s {q : Nat → QE} {m : Nat} {e : QE} : uQ q m e m = e := if_pos rfl
theorem uQ_n {q : Nat → QE} {m j : Nat} {e : QE} (h : j ≠ m) : uQ q m e j = q j := if_neg h
theorem QM_add {g : St} {q : Nat → QE} {m : Nat} {e : QE} {v : Int32} (h : QM g q m) : QM (upI (upL (upI (upI (upI g 115 m (nI e.1)) 116 m (nI e.2.1)) 117 m (nI e.2.2.1)) 118 m (lN e.2.2.2)) 91 44 v) (uQ q m e) (m + 1) := by
  intro j hj
  rw [upI_n (show (115 : Nat) ≠ 91 by decide), upI_n (show (116 : Nat) ≠ 91 by decide), upI_n (show (117 : Nat) ≠ 91 by decide)]
  show (upI (upI (upI g 115 m (nI e.1)) 116 m (nI e.2.1)) 117 m (nI e.2.2.1)).1 115 j = _ ∧ (upI (upI (upI g 115 m (nI e.1)) 116 m (nI e.2.1)) 117 m (nI e.2.2.1)).1 116 j = _ ∧ (upI (upI (upI g 115 m (nI e.1)) 116 m (nI e.2.1)) 117 m (nI e.2.2.1)).1 117 j = _ ∧ (upL g 118 m (lN e.2.2.2)).2 118 j = _
  rw [upI_n (show (115 : Nat) ≠ 117 by decide), upI_n (show (115 : Nat) ≠ 116 by decide), upI_s, upI_n (show (116 : Nat) ≠ 117 by decide), upI_s, upI_s]
  have eL : (upL g 118 m (lN e.2.2.2)).2 118 j = if j = m then lN e.2.2.2 else g.2 118 j := by
    unfold upL
    dsimp only
    rw [if_pos rfl]
    unfold vp_updL
    rfl
  rw [eL]
  by_cases e1 : j = m
  · subst e1
    rw [uQ_s, if_pos rfl]
    exact ⟨upd_s, upd_s, upd_s, rfl⟩
  · rw [uQ_n e1, if_neg e1]
    obtain ⟨a, b, c, d⟩ := h j (by omega)
    refine ⟨(upd_e e1).trans a, (upd_e e1).trans ?_, (upd_e e1).trans ?_, d⟩
    · exact (congrFun (upI_n (by decide)) _).trans b
    · exact (congrFun ((upI_n (by decide)).trans (upI_n (by decide))) _).trans c
theorem FQ_add {g : St} {m : Nat} {x y z v : Int32} {l : Int64} : FQ g (upI (upL (upI (upI (upI g 115 m x) 116 m y) 117 m z) 118 m l) 91 44 v) := by
  refine ⟨fun j a b c d => ?_, fun k hk => ?_, fun j hj => ?_⟩
  · rw [upI_n a]
    show (upI (upI (upI g 115 m x) 116 m y) 117 m z).1 j = g.1 j
    rw [upI_n d, upI_n c, upI_n b]
  · rw [upd_n2 hk]
    show (upI (upI (upI g 115 m x) 116 m y) 117 m z).1 91 k = g.1 91 k
    rw [upI_n (by decide), upI_n (by decide), upI_n (by decide)]
  · show (upL g 118 m l).2 j = g.2 j
    unfold upL
    dsimp only
    rw [if_neg hj]

set_option maxHeartbeats 4000000 in
set_option maxRecDepth 100000 in
theorem c_mAddLot {ad : Nat → Nat} {g : St} {q : Nat → QE} {n : Nat} {e : QE} {x y z : Int32} {l : Int64} (hQ : QM g q n) (hlen : g.1 91 44 = nI n) (hn : n < 2000) (hx : x = nI e.1) (hy : y = nI e.2.1) (hz : z = nI e.2.2.1) (hl : l = lN e.2.2.2) : Cv 1 mX10_addLot [.ref 91, .int x, .int y, .int z, .long l] ad g (fun g' => FQ g g' ∧ QM g' (uQ q n e) (n + 1) ∧ g'.1 91 44 = nI (n + 1)) := by
  subst hx
  subst hy
  subst hz
  subst hl
  refine Cm.mk rfl (Nat.le_of_ble_eq_true rfl) (fun K hK hR hm hnn => ?_)
  refine r_aload_n (i := 0) hK dX10_addLot_0 rfl rfl ?_
  refine r_getA hK flX10_83 to_91 rfl dX10_addLot_1 ?_
  refine r_aload_n (i := 0) hK dX10_addLot_4 rfl rfl ?_
  refine r_getI hK flX10_309 to_91 rfl dX10_addLot_5 ?_
  refine r_top (y := nI n) hlen ?_
  refine r_iload_n (i := 1) hK dX10_addLot_8 rfl rfl ?_
  refine r_iasN hK to_115 rfl (by omega) (by decide) dX10_addLot_9 ?_
  refine r_aload_n (i := 0) hK dX10_addLot_10 rfl rfl ?_
  refine r_getA hK flX10_86 to_91 rfl dX10_addLot_11 ?_
  refine r_aload_n (i := 0) hK dX10_addLot_14 rfl rfl ?_
  refine r_getI hK flX10_309 to_91 rfl dX10_addLot_15 ?_
  refine r_top (y := nI n) ((congrFun (upI_n (by decide)) _).trans hlen) ?_
  refine r_iload_n (i := 2) hK dX10_addLot_18 rfl rfl ?_
  refine r_iasN hK to_116 rfl (by omega) (by decide) dX10_addLot_19 ?_
  refine r_aload_n (i := 0) hK dX10_addLot_20 rfl rfl ?_
  refine r_getA hK flX10_89 to_91 rfl dX10_addLot_21 ?_
  refine r_aload_n (i := 0) hK dX10_addLot_24 rfl rfl ?_
  refine r_getI hK flX10_309 to_91 rfl dX10_addLot_25 ?_
  refine r_top (y := nI n) ((congrFun ((upI_n (by decide)).trans (upI_n (by decide))) _).trans hlen) ?_
  refine r_iload_n (i := 3) hK dX10_addLot_28 rfl rfl ?_
  refine r_iasN hK to_117 rfl (by omega) (by decide) dX10_addLot_29 ?_
  refine r_aload_n (i := 0) hK dX10_addLot_30 rfl rfl ?_
  refine r_getA hK flX10_92 to_91 rfl dX10_addLot_31 ?_
  refine r_aload_n (i := 0) hK dX10_addLot_34 rfl rfl ?_
  refine r_getI hK flX10_309 to_91 rfl dX10_addLot_35 ?_
  refine r_top (y := nI n) ((congrFun ((upI_n (by decide)).trans ((upI_n (by decide)).trans (upI_n (by decide)))) _).trans hlen) ?_
  refine r_lload (i := 4) hK dX10_addLot_38 rfl ?_
  refine r_lasN hK to_118 rfl (by omega) (by decide) dX10_addLot_40 ?_
  refine r_aload_n (i := 0) hK dX10_addLot_41 rfl rfl ?_
  refine r_dup hK dX10_addLot_42 rfl ?_
  refine r_getI hK flX10_309 to_91 rfl dX10_addLot_43 ?_
  refine r_top (y := nI n) (show (upI (upI (upI g 115 n (nI e.1)) 116 n (nI e.2.1)) 117 n (nI e.2.2.1)).1 91 44 = nI n from (congrFun ((upI_n (by decide)).trans ((upI_n (by decide)).trans (upI_n (by decide)))) _).trans hlen) ?_
  refine r_iconst (v := 1) hK dX10_addLot_46 (by decide) ?_
  refine r_iadd hK dX10_addLot_47 ?_
  refine r_top (y := nI (n + 1)) (nI_add _ _) ?_
  refine r_putI hK flX10_309 ft10_44 to_91 rfl dX10_addLot_48 ?_
  refine q_vret hK hR dX10_addLot_51 ?_
  exact ⟨FQ_add, QM_add hQ, by rw [upI_s, upd_s]⟩
