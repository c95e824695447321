/-! THE MODEL: lot, the question -/
theorem QM_0 {g : St} {q : Nat → QE} : QM g q 0 := fun j h => absurd h (Nat.not_lt_zero j)
set_option maxHeartbeats 4000000 in
set_option maxRecDepth 100000 in
theorem c_mLot {ad : Nat → Nat} {g : St} {X : LN} (hX : MC g X) {a t x : Int32} : Ci 6 mX10_lot [.ref 91, .int a, .int t, .int x] ad g (fun v g' => v = aLot X a t x ∧ FM g g') := by
  obtain ⟨hok, hpo, hlaw, x1, hW, hPs, x4⟩ := id hX
  have h10 := hok.2.1
  have h6 := hpo.1
  have h14 := hok.1
  refine Cm.mk rfl (Nat.le_of_ble_eq_true rfl) (fun K hK hR hm hnn => ?_)
  refine r_aload_n (i := 0) hK dX10_lot_0 rfl rfl ?_
  refine r_iload_n (i := 1) hK dX10_lot_1 rfl rfl ?_
  refine r_ci1 hK hnn (c_misPlace x1 (by omega)) moX10_isPlace mlX10_256 to_91 rfl rfl dX10_lot_2 (Nat.le_of_ble_eq_true rfl) (Nat.le_of_ble_eq_true rfl) (eqI ?_)
  refine r_if_eq (tgt := 16) hK dX10_lot_5 (by decide) (fun h5 => ?_) (fun h5 => ?_)
  · refine r_ldc hK ckX10_242 dX10_lot_16 ?_
    refine q_iret hK hR dX10_lot_18 ?_
    refine ⟨?_, FM.rf⟩
    unfold aLot
    first
      | (rw [if_neg (by rw [B1_0.mp h5]; simp)]; done)
      | (rw [if_neg (by rw [B1_0.mp h13]; simp)]; done)
  · refine r_aload_n (i := 0) hK dX10_lot_8 rfl rfl ?_
    refine r_iload_n (i := 2) hK dX10_lot_9 rfl rfl ?_
    refine r_ci1 hK hnn (c_misPlace x1 (by omega)) moX10_isPlace mlX10_256 to_91 rfl rfl dX10_lot_10 (Nat.le_of_ble_eq_true rfl) (Nat.le_of_ble_eq_true rfl) (eqI ?_)
    refine r_if_ne (tgt := 19) hK dX10_lot_13 (by decide) (fun h13 => ?_) (fun h13 => ?_)
    · refine r_iload_n (i := 3) hK dX10_lot_19 rfl rfl ?_
      have hb1 := B1_n.mp h5
      have hb2 := B1_n.mp h13
      have hbb : (isB a X.1 && isB t X.1) = true := by rw [hb1, hb2]; rfl
      obtain ⟨ha1, ha2⟩ := isB_cl (by omega) hb1
      obtain ⟨ht1, ht2⟩ := isB_cl (by omega) hb2
      refine r_i2l hK dX10_lot_20 ?_
      refine r_lconst (v := 0) hK dX10_lot_21 (by decide) ?_
      refine r_ldc2 hK ckX10_312 dX10_lot_22 ?_
      refine r_si3 hK hnn c_mIn moX10_in mlX10_124 dX10_lot_25 (Nat.le_of_ble_eq_true rfl) (Nat.le_of_ble_eq_true rfl) (eqI ?_)
      refine r_top (y := B1 (bI x 0 2)) (congrArg B1 (inL_b (lI := 0) (hI := 2) rfl rfl)) ?_
      refine r_if_ne (tgt := 34) hK dX10_lot_28 (by decide) (fun h28 => ?_) (fun h28 => ?_)
      · refine r_aload_n (i := 0) hK dX10_lot_34 rfl rfl ?_
        have hor := bI_t.mp (B1_n.mp h28)
        refine r_iload_n (i := 2) hK dX10_lot_35 rfl rfl ?_
        refine r_iconst (v := 0) hK dX10_lot_36 (by decide) ?_
        refine r_cv2 hK hnn (c_mFindEnds (own := false) hX ht2 ht1 rfl) moX10_findEnds mlX10_295 to_91 rfl rfl dX10_lot_37 (Nat.le_of_ble_eq_true rfl) (Nat.le_of_ble_eq_true rfl) (fun g37 q37 => ?_)
        obtain ⟨hfr, hG⟩ := q37
        refine r_aload_n (i := 0) hK dX10_lot_40 rfl rfl ?_
        refine r_iconst (v := 0) hK dX10_lot_41 (by decide) ?_
        refine r_putI hK flX10_309 ft10_44 to_91 rfl dX10_lot_42 ?_
        refine r_aload_n (i := 0) hK dX10_lot_45 rfl rfl ?_
        refine r_iload_n (i := 1) hK dX10_lot_46 rfl rfl ?_
        refine r_iconst (v := 0) hK dX10_lot_47 (by decide) ?_
        refine r_iconst (v := 0) hK dX10_lot_48 (by decide) ?_
        refine r_ldc2 hK ckX10_314 dX10_lot_49 ?_
        refine r_cv4 hK hnn (c_mAddLot (e := (nC a, 0, 0, 1000000000)) (q := fun _ => (0, 0, 0, 0)) QM_0 (by rw [upI_s, upd_s]; rfl) (by decide) ha2 rfl rfl rfl) moX10_addLot mlX10_316 to_91 rfl rfl dX10_lot_52 (Nat.le_of_ble_eq_true rfl) (Nat.le_of_ble_eq_true rfl) (fun g52 q52 => ?_)
        obtain ⟨hf9, hQ9, hl9⟩ := q52
        refine r_lconst (v := 0) hK dX10_lot_55 (by decide) ?_
        refine r_lstore (i := 4) hK hm dX10_lot_56 (by decide) ?_
        refine r_lconst (v := 0) hK dX10_lot_58 (by decide) ?_
        refine r_lstore (i := 6) hK hm dX10_lot_59 (by decide) ?_
        refine r_iconst (v := (-1)) hK dX10_lot_61 (by decide) ?_
        refine r_istore (i := 8) hK hm dX10_lot_62 (by decide) ?_
        refine r_iconst (v := 0) hK dX10_lot_64 (by decide) ?_
        refine r_istore (i := 9) hK hm dX10_lot_65 (by decide) ?_
        have hfm : FM g g52 := (hfr.fl (x := 0) (k := 44) rfl).tr hf9.fm
        have hG9 : MG g52 (vX X (nC t) false) X.2.2.1.1 := MG_fq (fun q hq => by rw [upI_n (by decide), upI_n (by decide)]; exact hG q hq) hf9
        refine r_loc ?_ (lm_lo (t := nC t) (x := x) (R := cX X (nC a) (nC t)) (MC_of hX hfm) (vX_ok hok hpo (nC t)) hG9 ht1 hK hm hnn hR (fun v g' h => ⟨?_, hfm.tr h.2⟩) 1957 0 (by omega) _ 1 (0, 0, 0) g52 FQ.rf hQ9 hl9 (by omega) (fun j hj => ?_) ?_ (by decide) ?_)
        · simp only [List.map_cons, List.map_nil]
          rw [← ht2]
          rfl
        · unfold aLot
          rw [if_pos hbb, if_neg hor]
          exact h.1
        · have e : j = 0 := by omega
          subst e
          refine ⟨ha1, (show 0 < 64 by omega), ?_, Nat.le_refl _⟩
          have := frS_6 h6 0
          show 0 + 891 * frS X.2.2.1 0 ≤ 5346
          omega
        · have := nP_6 h6 ((nC a, 0, 0, 1000000000) : QE)
          show 0 + (0 + qW X.2.2.1 (nC a, 0, 0, 1000000000)) ≤ 1957
          omega
        · exact (cA_z _).trans (cA_z _)
      · refine r_ldc hK ckX10_136 dX10_lot_31 ?_
        refine q_iret hK hR dX10_lot_33 ?_
        refine ⟨?_, FM.rf⟩
        unfold aLot
        rw [if_pos hbb, if_pos (bI_f.mp (B1_0.mp h28))]
    · refine r_ldc hK ckX10_242 dX10_lot_16 ?_
      refine q_iret hK hR dX10_lot_18 ?_
      refine ⟨?_, FM.rf⟩
      unfold aLot
      first
        | (rw [if_neg (by rw [B1_0.mp h5]; simp)]; done)
        | (rw [if_neg (by rw [B1_0.mp h13]; simp)]; done)
