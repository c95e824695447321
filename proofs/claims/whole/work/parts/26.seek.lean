abbrev kC (D : WD) (kn : Nat → Bool) (t : Nat) : Nat → Nat := sp_K (wE D kn) 1000000000 t
theorem kC_kW {np : Nat} {D : WD} (h : wOk np D) (kn : Nat → Bool) (t : Nat) {a : Nat} (ha : a < 10) : (kW D kn t a < FR ∧ kC D kn t a = kW D kn t a) ∨ (kW D kn t a = FR ∧ kC D kn t a = 1000000000) := sp_K_two (wE_ok h kn) ha (by decide) (by decide)
theorem nX_two {np : Nat} {D : WD} (h : wOk np D) {kn : Nat → Bool} {t a : Nat} (ha : a < 10) (hl : kW D kn t a < FR) : ∀ n, nX D kn (kC D kn t) a n = nX D kn (kW D kn t) a n
  | 0 => rfl
  | n + 1 => by
    have ih := nX_two h ha hl (D := D) (kn := kn) (t := t) n
    have e1 : kC D kn t a = kW D kn t a := by rcases kC_kW h kn t ha with q | q <;> omega
    have hle := nX_le (D := D) (kn := kn) (K := kW D kn t) (a := a) n
    unfold nX
    rw [ih, e1]
    by_cases c1 : oE D n a < (nX D kn (kW D kn t) a n).1
    · have e2 : kC D kn t (oE D n a) + (16 * D.2.2.2 n + 1) = kW D kn t a ↔ kW D kn t (oE D n a) + (16 * D.2.2.2 n + 1) = kW D kn t a := by
        rcases kC_kW h kn t (show oE D n a < 10 by omega) with q | q
        · rw [q.2]
        · rw [q.1, q.2]
          unfold FR at *
          omega
      by_cases c2 : kn n = true ∧ oE D n a < (nX D kn (kW D kn t) a n).1 ∧ kW D kn t (oE D n a) + (16 * D.2.2.2 n + 1) = kW D kn t a
      · rw [if_pos c2, if_pos ⟨c2.1, c2.2.1, e2.mpr c2.2.2⟩]
      · rw [if_neg c2, if_neg (fun z => c2 ⟨z.1, z.2.1, e2.mp z.2.2⟩)]
    · rw [if_neg (fun z => c1 z.2.1), if_neg (fun z => c1 z.2.1)]
theorem nX_succ (D : WD) (kn : Nat → Bool) (K : Nat → Nat) (a w : Nat) : nX D kn K a (w + 1) = if kn w = true ∧ oE D w a < (nX D kn K a w).1 ∧ K (oE D w a) + (16 * D.2.2.2 w + 1) = K a then (oE D w a, w) else nX D kn K a w := rfl
def bsI (r : Nat × Nat) : Int32 := if r.1 < 10 then nI r.2 else -1
theorem oeI_in {D : WD} {w a : Nat} (h : oE D w a < 10) : oeI D w a = nI (oE D w a) := by unfold oeI; rw [if_pos h]
theorem oeI_out {D : WD} {w a : Nat} (h : ¬ oE D w a < 10) : oeI D w a = -1 := by unfold oeI; rw [if_neg h]

set_option maxHeartbeats 4000000 in
set_option maxRecDepth 100000 in
theorem l_nW {K : KT} {ad : Nat → Nat} {g : St} {D : WD} {np k a : Nat} {Kc : Nat → Nat} (hok : wOk np D) (hW : WyC g 13 D) (hk : k < 2 ^ 31) (ha : a < 10) (hKc : ∀ x, Kc x ≤ 1000000000) (hf : ∀ x, x < 10 → g.1 23 x = nI (Kc x)) (hK : Cx K RX6 cX6_nextWay 3 ad) (hm : K.2.2.1.2.maxLocals = 8) (hnn : Nn K 0 0)
    (hR : Rt K 0 0 TT ad (some .int) (Qi ad (fun v g' => v = bsI (nX D (knb k) Kc a D.1) ∧ g' = g))) :
    ∀ m w, w + m = D.1 → Wp K 0 0 TT ad g 10 [(0, .ref 22), (1, .ref 13), (2, .int (nI k)), (3, .int (nI a)), (4, .int (bsI (nX D (knb k) Kc a w))), (5, .int (nI (nX D (knb k) Kc a w).1)), (6, .int (nI w))] [] := by
  have h14 := hok.1
  have h10 := hok.2.1
  intro m
  induction m with
  | zero =>
    intro w hwm
    have e : w = D.1 := by omega
    subst e
    refine r_iload (i := 6) hK dX6_nextWay_10 rfl ?_
    refine r_aload_n (i := 1) hK dX6_nextWay_12 rfl rfl ?_
    refine r_getI hK flX6_57 to_13 rfl dX6_nextWay_13 ?_
    refine r_top (y := nI D.1) hW.1 ?_
    refine r_icmp_ge (tgt := 100) hK dX6_nextWay_16 (by decide) (fun _ => ?_) (fun h => absurd (nI_le (Nat.le_refl _) (by omega)) h)
    refine r_iload (i := 4) hK dX6_nextWay_100 rfl ?_
    exact q_iret hK hR dX6_nextWay_102 ⟨rfl, rfl⟩
  | succ m ih =>
    intro w hwm
    have hw : w < D.1 := by omega
    have hle := nX_le (D := D) (kn := knb k) (K := Kc) (a := a) w
    obtain ⟨w1, w2, hne, w4, w5⟩ := hok.2.2 w hw
    refine r_iload (i := 6) hK dX6_nextWay_10 rfl ?_
    refine r_aload_n (i := 1) hK dX6_nextWay_12 rfl rfl ?_
    refine r_getI hK flX6_57 to_13 rfl dX6_nextWay_13 ?_
    refine r_top (y := nI D.1) hW.1 ?_
    refine r_icmp_ge (tgt := 100) hK dX6_nextWay_16 (by decide) (fun h => absurd h (nI_ge hw (by omega))) (fun _ => ?_)
    refine r_aload_n (i := 1) hK dX6_nextWay_19 rfl rfl ?_
    refine r_iload (i := 6) hK dX6_nextWay_20 rfl ?_
    refine r_iload_n (i := 3) hK dX6_nextWay_22 rfl rfl ?_
    refine r_ci2 hK hnn (c_oeE hok hW hw rfl rfl (by omega)) moX4_otherEnd mlX6_42 to_13 rfl rfl dX6_nextWay_23 (Nat.le_of_ble_eq_true rfl) (Nat.le_of_ble_eq_true rfl) (eqI ?_)
    refine r_istore (i := 7) hK hm dX6_nextWay_26 (by decide) ?_
    refine r_iload (i := 7) hK dX6_nextWay_28 rfl ?_
    refine r_iconst (v := (-1)) hK dX6_nextWay_30 (by decide) ?_
    refine r_icmp_eq (tgt := 94) hK dX6_nextWay_31 (by decide) (fun h31 => ?_) (fun h31 => ?_)
    · have hoe : ¬ oE D w a < 10 := fun z => by
        rw [oeI_in z] at h31
        exact nI_m1 (by omega) h31
      have eN : nX D (knb k) Kc a (w + 1) = nX D (knb k) Kc a w := by
        have := nX_le (D := D) (kn := knb k) (K := Kc) (a := a) w
        rw [nX_succ]
        exact if_neg (fun z => hoe (by omega))
      refine r_iincN (i := 6) hK hm dX6_nextWay_94 rfl (by decide) ?_
      refine r_goto (tgt := 10) hK dX6_nextWay_97 (by decide) ?_
      refine r_loc ?_ (ih (w + 1) (by omega))
      simp only [List.map_cons, List.map_nil]
      rw [eN]
      rfl
    · refine r_iload (i := 7) hK dX6_nextWay_34 rfl ?_
      have hoe : oE D w a < 10 := Decidable.byContradiction (fun z => h31 (oeI_out z))
      rw [oeI_in hoe]
      refine r_iload (i := 5) hK dX6_nextWay_36 rfl ?_
      refine r_icmp_ge (tgt := 94) hK dX6_nextWay_38 (by decide) (fun h38 => ?_) (fun h38 => ?_)
      · rw [nI_leI (by omega) (by omega)] at h38
        have eN : nX D (knb k) Kc a (w + 1) = nX D (knb k) Kc a w := by
          rw [nX_succ]
          exact if_neg (fun z => by omega)
        refine r_iincN (i := 6) hK hm dX6_nextWay_94 rfl (by decide) ?_
        refine r_goto (tgt := 10) hK dX6_nextWay_97 (by decide) ?_
        refine r_loc ?_ (ih (w + 1) (by omega))
        simp only [List.map_cons, List.map_nil]
        rw [eN]
        rfl
      · refine r_iload_n (i := 2) hK dX6_nextWay_41 rfl rfl ?_
        refine r_iload (i := 6) hK dX6_nextWay_42 rfl ?_
        refine r_ishr hK dX6_nextWay_44 ?_
        refine r_iconst (v := 1) hK dX6_nextWay_45 (by decide) ?_
        refine r_iand hK dX6_nextWay_46 ?_
        refine r_iconst (v := 1) hK dX6_nextWay_47 (by decide) ?_
        refine r_icmp_ne (tgt := 94) hK dX6_nextWay_48 (by decide) (fun h48 => ?_) (fun h48 => ?_)
        · have eN : nX D (knb k) Kc a (w + 1) = nX D (knb k) Kc a w := by
            rw [nX_succ]
            exact if_neg (fun z => h48 ((tb_iff hk (by omega)).mpr z.1))
          refine r_iincN (i := 6) hK hm dX6_nextWay_94 rfl (by decide) ?_
          refine r_goto (tgt := 10) hK dX6_nextWay_97 (by decide) ?_
          refine r_loc ?_ (ih (w + 1) (by omega))
          simp only [List.map_cons, List.map_nil]
          rw [eN]
          rfl
        · refine r_aload_n (i := 0) hK dX6_nextWay_51 rfl rfl ?_
          refine r_getA hK flX6_9 to_22 rfl dX6_nextWay_52 ?_
          refine r_iload (i := 7) hK dX6_nextWay_55 rfl ?_
          refine r_si2 hK hnn (c_atE to_23 (by decide) rfl hoe (hf _ hoe)) moX9_at mlX6_33 dX6_nextWay_57 (Nat.le_of_ble_eq_true rfl) (Nat.le_of_ble_eq_true rfl) (eqI ?_)
          refine r_aload_n (i := 1) hK dX6_nextWay_60 rfl rfl ?_
          refine r_getA hK flX6_48 to_13 rfl dX6_nextWay_61 ?_
          refine r_iload (i := 6) hK dX6_nextWay_64 rfl ?_
          refine r_si2 hK hnn (c_atE to_16 (by decide) rfl (by omega) (hW.2 w hw).2.2) moX9_at mlX6_33 dX6_nextWay_66 (Nat.le_of_ble_eq_true rfl) (Nat.le_of_ble_eq_true rfl) (eqI ?_)
          refine r_bipush (v := 16) hK dX6_nextWay_69 (by decide) ?_
          refine r_imul hK dX6_nextWay_71 ?_
          refine r_top (y := nI (16 * D.2.2.2 w)) (by rw [show (16 : Int32) = nI 16 from rfl, pk_mul, Nat.mul_comm]) ?_
          refine r_iadd hK dX6_nextWay_72 ?_
          refine r_top (nI_add _ _) ?_
          refine r_iconst (v := 1) hK dX6_nextWay_73 (by decide) ?_
          refine r_iadd hK dX6_nextWay_74 ?_
          refine r_top (nI_1 _) ?_
          have hb1 := hKc (oE D w a)
          have hb2 := hKc a
          refine r_aload_n (i := 0) hK dX6_nextWay_75 rfl rfl ?_
          refine r_getA hK flX6_9 to_22 rfl dX6_nextWay_76 ?_
          refine r_iload_n (i := 3) hK dX6_nextWay_79 rfl rfl ?_
          refine r_si2 hK hnn (c_atE to_23 (by decide) rfl (by omega) (hf _ (by omega))) moX9_at mlX6_33 dX6_nextWay_80 (Nat.le_of_ble_eq_true rfl) (Nat.le_of_ble_eq_true rfl) (eqI ?_)
          refine r_icmp_ne (tgt := 94) hK dX6_nextWay_83 (by decide) (fun h83 => ?_) (fun h83 => ?_)
          · have eN : nX D (knb k) Kc a (w + 1) = nX D (knb k) Kc a w := by
              rw [nX_succ]
              exact if_neg (fun z => h83 (by rw [Nat.add_assoc, z.2.2]))
            refine r_iincN (i := 6) hK hm dX6_nextWay_94 rfl (by decide) ?_
            refine r_goto (tgt := 10) hK dX6_nextWay_97 (by decide) ?_
            refine r_loc ?_ (ih (w + 1) (by omega))
            simp only [List.map_cons, List.map_nil]
            rw [eN]
            rfl
          · refine r_iload (i := 6) hK dX6_nextWay_86 rfl ?_
            refine r_istore (i := 4) hK hm dX6_nextWay_88 (by decide) ?_
            refine r_iload (i := 7) hK dX6_nextWay_90 rfl ?_
            refine r_istore (i := 5) hK hm dX6_nextWay_92 (by decide) ?_
            have eN : nX D (knb k) Kc a (w + 1) = (oE D w a, w) := by
              rw [nX_succ]
              rw [nI_eq (by omega) (by omega)] at h83
              exact if_pos ⟨(tb_iff hk (by omega)).mp h48, by rw [nI_leI (by omega) (by omega)] at h38; omega, by omega⟩
            refine r_iincN (i := 6) hK hm dX6_nextWay_94 rfl (by decide) ?_
            refine r_goto (tgt := 10) hK dX6_nextWay_97 (by decide) ?_
            refine r_loc ?_ (ih (w + 1) (by omega))
            simp only [List.map_cons, List.map_nil]
            rw [eN]
            unfold bsI
            rw [if_pos hoe]
            rfl
set_option maxHeartbeats 4000000 in
set_option maxRecDepth 100000 in
theorem c_nextWay {ad : Nat → Nat} {g : St} {D : WD} {np k a : Nat} {Kc : Nat → Nat} (hok : wOk np D) (hW : WyC g 13 D) (hk : k < 2 ^ 31) (ha : a < 10) (hKc : ∀ x, Kc x ≤ 1000000000) (hf : ∀ x, x < 10 → g.1 23 x = nI (Kc x)) : Ci 3 mX6_nextWay [.ref 22, .ref 13, .int (nI k), .int (nI a)] ad g (fun v g' => v = bsI (nX D (knb k) Kc a D.1) ∧ g' = g) := by
  refine Cm.mk rfl (Nat.le_of_ble_eq_true rfl) (fun K hK hR hm hnn => ?_)
  refine r_iconst (v := (-1)) hK dX6_nextWay_0 (by decide) ?_
  refine r_istore (i := 4) hK hm dX6_nextWay_1 (by decide) ?_
  refine r_bipush (v := 10) hK dX6_nextWay_3 (by decide) ?_
  refine r_istore (i := 5) hK hm dX6_nextWay_5 (by decide) ?_
  refine r_iconst (v := 0) hK dX6_nextWay_7 (by decide) ?_
  refine r_istore (i := 6) hK hm dX6_nextWay_8 (by decide) ?_
  refine r_loc ?_ (l_nW hok hW hk ha hKc hf hK hm hnn hR D.1 0 (by omega))
  rfl
/-- the path's own cells over a memory -/
def pG (g : St) (f1 f2 f3 : Nat → Int32) (v : Int32) : St := (fun o => if o = 23 then f1 else if o = 24 then f2 else if o = 25 then f3 else if o = 22 then upd (g.1 22) 3 v else g.1 o, g.2)
theorem St_ext {g g' : St} (h1 : ∀ o, g.1 o = g'.1 o) (h2 : g.2 = g'.2) : g = g' := Prod.ext (funext h1) h2
theorem pG_id {g : St} : pG g (g.1 23) (g.1 24) (g.1 25) (g.1 22 3) = g := by
  refine St_ext (fun o => ?_) rfl
  unfold pG
  dsimp only
  split
  · rename_i h; rw [h]
  · split
    · rename_i h; rw [h]
    · split
      · rename_i h; rw [h]
      · split
        · rename_i h; rw [h]; funext j; unfold upd; split
          · rename_i h2; rw [h2]
          · rfl
        · rfl
theorem pG_r23 {g : St} {f1 f2 f3 f : Nat → Int32} {v : Int32} : upR (pG g f1 f2 f3 v) 23 f = pG g f f2 f3 v := by
  refine St_ext (fun o => ?_) rfl
  unfold upR pG
  dsimp only
  split <;> rfl
theorem pG_r24 {g : St} {f1 f2 f3 f : Nat → Int32} {v : Int32} : upR (pG g f1 f2 f3 v) 24 f = pG g f1 f f3 v := by
  refine St_ext (fun o => ?_) rfl
  unfold upR pG
  dsimp only
  split
  · rename_i h; rw [h]; rfl
  · rfl
theorem pG_r25 {g : St} {f1 f2 f3 f : Nat → Int32} {v : Int32} : upR (pG g f1 f2 f3 v) 25 f = pG g f1 f2 f v := by
  refine St_ext (fun o => ?_) rfl
  unfold upR pG
  dsimp only
  split
  · rename_i h; rw [h]; rfl
  · rfl
theorem pG_i22 {g : St} {f1 f2 f3 : Nat → Int32} {v x : Int32} : upI (pG g f1 f2 f3 v) 22 3 x = pG g f1 f2 f3 x := by
  refine St_ext (fun o => ?_) rfl
  unfold upI pG
  dsimp only
  split
  · rename_i h; rw [h]
    show upd (upd (g.1 22) 3 v) 3 x = upd (g.1 22) 3 x
    funext j; unfold upd; split <;> rfl
  · rfl
theorem pG_i24 {g : St} {f1 f2 f3 : Nat → Int32} {v x : Int32} {k : Nat} : upI (pG g f1 f2 f3 v) 24 k x = pG g f1 (upd f2 k x) f3 v := by rw [upI_upR, pG_r24]; rfl
theorem pG_i25 {g : St} {f1 f2 f3 : Nat → Int32} {v x : Int32} {k : Nat} : upI (pG g f1 f2 f3 v) 25 k x = pG g f1 f2 (upd f3 k x) v := by rw [upI_upR, pG_r25]; rfl
theorem pG_pG {g : St} {f1 f2 f3 e1 e2 e3 : Nat → Int32} {v x : Int32} : pG (pG g f1 f2 f3 v) e1 e2 e3 x = pG g e1 e2 e3 x := by
  refine St_ext (fun o => ?_) rfl
  unfold pG
  dsimp only
  split
  · rfl
  · split
    · rfl
    · split
      · rfl
      · split
        · rename_i h
          funext j; unfold upd; split
          · rfl
          · rw [if_neg (by decide), if_neg (by decide), if_neg (by decide), if_pos rfl, if_neg (by assumption)]
        · rfl
/-- what the path's cells say of a route -/
def Pth (f2 f3 : Nat → Int32) (v : Int32) (D : WD) (kn : Nat → Bool) (t a : Nat) : Prop :=
  (hasR D kn t a → v = nI (rN D kn t a) ∧ ∀ i, i ≤ rN D kn t a → f2 i = nI (rP D kn t a i) ∧ f3 i = nI (rM D kn t a i)) ∧ (¬ hasR D kn t a → v = -1 ∧ f2 0 = nI a ∧ f3 0 = 0)

set_option maxHeartbeats 4000000 in
set_option maxRecDepth 100000 in
theorem l_sk {K : KT} {ad : Nat → Nat} {g : St} {D : WD} {np k a t : Nat} (hok : wOk np D) (hW0 : WyC g 13 D) (hk : k < 2 ^ 31) (ha : a < np) (ht : t < np) (hr : hasR D (knb k) t a) (hK : Cx K RX6 cX6_seek 4 ad) (hm : K.2.2.1.2.maxLocals = 8) (hnn : Nn K 0 0)
    (hR : Rt K 0 0 TT ad none (Qv ad (fun g' => ∃ f1 f2 f3 v, g' = pG g f1 f2 f3 v ∧ Pth f2 f3 v D (knb k) t a))) :
    ∀ m j, j + m = rN D (knb k) t a → j ≤ rN D (knb k) t a → ∀ f1 f2 f3 : Nat → Int32, (∀ i, i ≤ j → f2 i = nI (rP D (knb k) t a i)) → (∀ i, i ≤ j → f3 i = nI (rM D (knb k) t a i)) → (∀ x, x < 10 → f1 x = nI (kC D (knb k) t x)) → Wp K 0 0 TT ad (pG g f1 f2 f3 (nI j)) 56 [(0, .ref 22), (1, .ref 13), (2, .int (nI k)), (3, .int (nI a)), (4, .int (nI t)), (5, .int (nI (rP D (knb k) t a j))), (6, .int (nI (j + 1)))] [] := by
  have h14 := hok.1
  have h10 := hok.2.1
  obtain ⟨r1, r2, r3, r4⟩ := rN_go hok ha hr
  intro m
  induction m with
  | zero =>
    intro j hjm hjn f1 f2 f3 hs2 hs3 hkeys
    have hj : j = rN D (knb k) t a := by omega
    refine r_iload (i := 6) hK dX6_seek_56 rfl ?_
    refine r_bipush (v := 10) hK dX6_seek_58 (by decide) ?_
    refine r_icmp_ge (tgt := 143) hK dX6_seek_60 (by decide) (fun _ => ?_) (fun _ => ?_)
    · refine q_vret hK hR dX6_seek_143 ?_
      exact ⟨f1, f2, f3, _, rfl, fun _ => ⟨by rw [hj], fun i hi => ⟨hs2 i (by omega), hs3 i (by omega)⟩⟩, fun h => absurd hr h⟩
    · refine r_iload (i := 5) hK dX6_seek_63 rfl ?_
      refine r_iload (i := 4) hK dX6_seek_65 rfl ?_
      refine r_icmp_eq (tgt := 143) hK dX6_seek_67 (by decide) (fun _ => ?_) (fun h => absurd (by rw [hj, r2]) h)
      refine q_vret hK hR dX6_seek_143 ?_
      exact ⟨f1, f2, f3, _, rfl, fun _ => ⟨by rw [hj], fun i hi => ⟨hs2 i (by omega), hs3 i (by omega)⟩⟩, fun h => absurd hr h⟩
  | succ m ih =>
    intro j hjm hjn f1 f2 f3 hs2 hs3 hkeys
    have hjt := r3 j (by omega)
    have hjp := (r4 j hjn).1
    have hjk : kW D (knb k) t (rP D (knb k) t a j) < FR := by have := (r4 j hjn).2; unfold hasR at hr; omega
    obtain ⟨n1, n2, n3, n4, n5⟩ := kW_next hok hjt hjk
    have hW : WyC (pG g f1 f2 f3 (nI j)) 13 D := hW0
    have eP : rP D (knb k) t a (j + 1) = (nX D (knb k) (kW D (knb k) t) (rP D (knb k) t a j) D.1).1 := by
      show (rO D (knb k) (kW D (knb k) t) t a (j + 1)).1 = _
      rw [rO_succ, if_neg (show ¬ (rO D (knb k) (kW D (knb k) t) t a j).1 = t from hjt)]
      rfl
    have eM : rM D (knb k) t a (j + 1) = rM D (knb k) t a j + D.2.2.2 (nX D (knb k) (kW D (knb k) t) (rP D (knb k) t a j) D.1).2 := by
      show (rO D (knb k) (kW D (knb k) t) t a (j + 1)).2 = _
      rw [rO_succ, if_neg (show ¬ (rO D (knb k) (kW D (knb k) t) t a j).1 = t from hjt)]
      rfl
    have hbs : bsI (nX D (knb k) (kC D (knb k) t) (rP D (knb k) t a j) D.1) = nI (nX D (knb k) (kW D (knb k) t) (rP D (knb k) t a j) D.1).2 := by
      rw [nX_two hok (by omega) hjk]
      unfold bsI
      rw [if_pos (by omega)]
    have hoe : oeI D (nX D (knb k) (kW D (knb k) t) (rP D (knb k) t a j) D.1).2 (rP D (knb k) t a j) = nI (rP D (knb k) t a (j + 1)) := by
      rw [oeI_in (by rw [n4]; omega), n4, eP]
    refine r_iload (i := 6) hK dX6_seek_56 rfl ?_
    refine r_bipush (v := 10) hK dX6_seek_58 (by decide) ?_
    refine r_icmp_ge (tgt := 143) hK dX6_seek_60 (by decide) (fun h => absurd h (nI_ge (b := 10) (by omega) (by omega))) (fun _ => ?_)
    refine r_iload (i := 5) hK dX6_seek_63 rfl ?_
    refine r_iload (i := 4) hK dX6_seek_65 rfl ?_
    refine r_icmp_eq (tgt := 143) hK dX6_seek_67 (by decide) (fun h => absurd h (fun z => hjt (nI_inj (by omega) (by omega) z))) (fun _ => ?_)
    refine r_aload_n (i := 0) hK dX6_seek_70 rfl rfl ?_
    refine r_aload_n (i := 1) hK dX6_seek_71 rfl rfl ?_
    refine r_iload_n (i := 2) hK dX6_seek_72 rfl rfl ?_
    refine r_iload (i := 5) hK dX6_seek_73 rfl ?_
    refine r_ci3 hK hnn (Ci.eq (c_nextWay (Kc := kC D (knb k) t) hok hW hk (by omega) (fun x => sp_K_le x) hkeys) hbs rfl) moX6_nextWay mlX6_38 to_22 rfl rfl dX6_seek_75 (Nat.le_of_ble_eq_true rfl) (Nat.le_of_ble_eq_true rfl) (eqI ?_)
    refine r_istore (i := 7) hK hm dX6_seek_78 (by decide) ?_
    refine r_aload_n (i := 1) hK dX6_seek_80 rfl rfl ?_
    refine r_iload (i := 7) hK dX6_seek_81 rfl ?_
    refine r_iload (i := 5) hK dX6_seek_83 rfl ?_
    refine r_ci2 hK hnn (Ci.eq (c_oeE hok hW n2 rfl rfl (by omega)) hoe rfl) moX4_otherEnd mlX6_42 to_13 rfl rfl dX6_seek_85 (Nat.le_of_ble_eq_true rfl) (Nat.le_of_ble_eq_true rfl) (eqI ?_)
    refine r_istore (i := 5) hK hm dX6_seek_88 (by decide) ?_
    refine r_aload_n (i := 0) hK dX6_seek_90 rfl rfl ?_
    refine r_getA hK flX6_15 to_22 rfl dX6_seek_91 ?_
    refine r_iload (i := 6) hK dX6_seek_94 rfl ?_
    refine r_iload (i := 5) hK dX6_seek_96 rfl ?_
    refine r_sv3 hK hnn (c_ptE to_24 (by decide) rfl (by omega) pG_i24) moX9_put mlX6_25 dX6_seek_98 (Nat.le_of_ble_eq_true rfl) (Nat.le_of_ble_eq_true rfl) (eqV ?_)
    refine r_aload_n (i := 0) hK dX6_seek_101 rfl rfl ?_
    refine r_getA hK flX6_18 to_22 rfl dX6_seek_102 ?_
    refine r_iload (i := 6) hK dX6_seek_105 rfl ?_
    refine r_aload_n (i := 0) hK dX6_seek_107 rfl rfl ?_
    refine r_getA hK flX6_18 to_22 rfl dX6_seek_108 ?_
    refine r_iload (i := 6) hK dX6_seek_111 rfl ?_
    refine r_iconst (v := 1) hK dX6_seek_113 (by decide) ?_
    refine r_isub hK dX6_seek_114 ?_
    refine r_top (nI_pred j) ?_
    refine r_si2 hK hnn (c_atE to_25 (by decide) rfl (by omega) (hs3 j (by omega))) moX9_at mlX6_33 dX6_seek_115 (Nat.le_of_ble_eq_true rfl) (Nat.le_of_ble_eq_true rfl) (eqI ?_)
    refine r_aload_n (i := 1) hK dX6_seek_118 rfl rfl ?_
    refine r_getA hK flX6_48 to_13 rfl dX6_seek_119 ?_
    refine r_iload (i := 7) hK dX6_seek_122 rfl ?_
    refine r_si2 hK hnn (c_atE to_16 (by decide) rfl (by omega) (hW.2 _ n2).2.2) moX9_at mlX6_33 dX6_seek_124 (Nat.le_of_ble_eq_true rfl) (Nat.le_of_ble_eq_true rfl) (eqI ?_)
    refine r_iadd hK dX6_seek_127 ?_
    refine r_top (nI_add _ _) ?_
    refine r_sv3 hK hnn (c_ptE to_25 (by decide) rfl (by omega) pG_i25) moX9_put mlX6_25 dX6_seek_128 (Nat.le_of_ble_eq_true rfl) (Nat.le_of_ble_eq_true rfl) (eqV ?_)
    refine r_aload_n (i := 0) hK dX6_seek_131 rfl rfl ?_
    refine r_iload (i := 6) hK dX6_seek_132 rfl ?_
    refine r_putI hK flX6_21 ft6_3 to_22 rfl dX6_seek_134 ?_
    refine r_g pG_i22 ?_
    refine r_iincN (i := 6) hK hm dX6_seek_137 rfl (by decide) ?_
    refine r_goto (tgt := 56) hK dX6_seek_140 (by decide) ?_
    refine r_loc ?_ (ih (j + 1) (by omega) (by omega) f1 _ _ (fun i hi => ?_) (fun i hi => ?_) hkeys)
    · rfl
    · by_cases e : i = j + 1
      · subst e; rw [upd_s]
      · rw [upd_n e]; exact hs2 i (by omega)
    · by_cases e : i = j + 1
      · subst e; rw [upd_s, eM]
      · rw [upd_n e]; exact hs3 i (by omega)
set_option maxHeartbeats 4000000 in
set_option maxRecDepth 100000 in
theorem c_seek {ad : Nat → Nat} {g : St} {D : WD} {np k a t : Nat} (hok : wOk np D) (hW : WyC g 13 D) (hk : k < 2 ^ 31) (ha : a < np) (ht : t < np) : Cv 4 mX6_seek [.ref 22, .ref 13, .int (nI k), .int (nI a), .int (nI t)] ad g (fun g' => ∃ f1 f2 f3 v, g' = pG g f1 f2 f3 v ∧ Pth f2 f3 v D (knb k) t a) := by
  refine Cm.mk rfl (Nat.le_of_ble_eq_true rfl) (fun K hK hR hm hnn => ?_)
  have h14 := hok.1
  have h10 := hok.2.1
  refine r_g (g' := pG g (g.1 23) (g.1 24) (g.1 25) (g.1 22 3)) pG_id.symm ?_
  refine r_aload_n (i := 0) hK dX6_seek_0 rfl rfl ?_
  refine r_iconst (v := (-1)) hK dX6_seek_1 (by decide) ?_
  refine r_putI hK flX6_21 ft6_3 to_22 rfl dX6_seek_2 ?_
  refine r_g pG_i22 ?_
  refine r_aload_n (i := 0) hK dX6_seek_5 rfl rfl ?_
  refine r_getA hK flX6_15 to_22 rfl dX6_seek_6 ?_
  refine r_iconst (v := 0) hK dX6_seek_9 (by decide) ?_
  refine r_iload_n (i := 3) hK dX6_seek_10 rfl rfl ?_
  refine r_sv3 hK hnn (c_ptE (k := 0) to_24 (by decide) rfl (by omega) pG_i24) moX9_put mlX6_25 dX6_seek_11 (Nat.le_of_ble_eq_true rfl) (Nat.le_of_ble_eq_true rfl) (eqV ?_)
  refine r_aload_n (i := 0) hK dX6_seek_14 rfl rfl ?_
  refine r_getA hK flX6_18 to_22 rfl dX6_seek_15 ?_
  refine r_iconst (v := 0) hK dX6_seek_18 (by decide) ?_
  refine r_iconst (v := 0) hK dX6_seek_19 (by decide) ?_
  refine r_sv3 hK hnn (c_ptE (k := 0) to_25 (by decide) rfl (by omega) pG_i25) moX9_put mlX6_25 dX6_seek_20 (Nat.le_of_ble_eq_true rfl) (Nat.le_of_ble_eq_true rfl) (eqV ?_)
  refine r_aload_n (i := 0) hK dX6_seek_23 rfl rfl ?_
  refine r_aload_n (i := 1) hK dX6_seek_24 rfl rfl ?_
  refine r_iload_n (i := 2) hK dX6_seek_25 rfl rfl ?_
  refine r_iload (i := 4) hK dX6_seek_26 rfl ?_
  refine r_cv3 hK hnn (c_measure (D := D) hok hW hk (by omega)) moX6_measure mlX6_29 to_22 rfl rfl dX6_seek_28 (Nat.le_of_ble_eq_true rfl) (Nat.le_of_ble_eq_true rfl) (fun g28 q28 => ?_)
  obtain ⟨f28, rfl, hf28⟩ := q28
  refine r_g pG_r23 ?_
  refine r_aload_n (i := 0) hK dX6_seek_31 rfl rfl ?_
  refine r_getA hK flX6_9 to_22 rfl dX6_seek_32 ?_
  refine r_iload_n (i := 3) hK dX6_seek_35 rfl rfl ?_
  refine r_si2 hK hnn (c_atE to_23 (by decide) rfl (by omega) (hf28 a (by omega))) moX9_at mlX6_33 dX6_seek_36 (Nat.le_of_ble_eq_true rfl) (Nat.le_of_ble_eq_true rfl) (eqI ?_)
  refine r_ldc hK ckX6_37 dX6_seek_39 ?_
  rw [show (1000000000 : Int32) = nI 1000000000 from rfl]
  refine r_icmp_lt (tgt := 45) hK dX6_seek_41 (by decide) (fun h41 => ?_) (fun h41 => ?_)
  · refine r_iload_n (i := 3) hK dX6_seek_45 rfl rfl ?_
    refine r_istore (i := 5) hK hm dX6_seek_46 (by decide) ?_
    refine r_aload_n (i := 0) hK dX6_seek_48 rfl rfl ?_
    refine r_iconst (v := 0) hK dX6_seek_49 (by decide) ?_
    refine r_putI hK flX6_21 ft6_3 to_22 rfl dX6_seek_50 ?_
    refine r_g pG_i22 ?_
    refine r_iconst (v := 1) hK dX6_seek_53 (by decide) ?_
    refine r_istore (i := 6) hK hm dX6_seek_54 (by decide) ?_
    rw [nI_ltI (Nat.lt_of_le_of_lt (sp_K_le a) (by decide)) (by decide)] at h41
    have hr : hasR D (knb k) t a := by
      rcases kC_kW hok (knb k) t (show a < 10 by omega) with q | q
      · exact q.1
      · have q2 : sp_K (wE D (knb k)) 1000000000 t a = 1000000000 := q.2
        omega
    refine r_loc ?_ (l_sk hok hW hk ha ht hr hK hm hnn hR (rN D (knb k) t a) 0 (by omega) (by omega) f28 _ _ (fun i hi => ?_) (fun i hi => ?_) hf28)
    · rfl
    · have : i = 0 := by omega
      subst this; rw [upd_s]; rfl
    · have : i = 0 := by omega
      subst this; rw [upd_s]; rfl
  · rw [nI_ltI (Nat.lt_of_le_of_lt (sp_K_le a) (by decide)) (by decide)] at h41
    refine q_vret hK hR dX6_seek_44 ?_
    refine ⟨f28, _, _, _, rfl, fun hr => ?_, fun _ => ⟨rfl, by rw [upd_s], by rw [upd_s]⟩⟩
    rcases kC_kW hok (knb k) t (show a < 10 by omega) with q | q
    · have q1 : kW D (knb k) t a < 1000000 := q.1
      have q2 : sp_K (wE D (knb k)) 1000000000 t a = kW D (knb k) t a := q.2
      omega
    · unfold hasR at hr; omega
