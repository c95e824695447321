/-! THE MODEL: routes -/
def byN (D : WD) (r : Nat × Nat) : Nat := if r.1 < 10 then D.2.2.2 r.2 else 0
abbrev mldP (D : WD) (kn : Nat → Bool) (Kn : Nat → Nat) (a w : Nat) (r : Nat × Nat) : Prop := kn w = true ∧ oE D w a < r.1 ∧ Kn (oE D w a) + (16 * D.2.2.2 w + 1) = Kn a
/-- what a route leaves -/
def pM (g : St) (f1 f2 f3 : Nat → Int32) (v : Int32) : St := upI (upR (upR (upR g 109 f1) 110 f2) 111 f3) 91 33 v
theorem FM_pM {g : St} {f1 f2 f3 : Nat → Int32} {v : Int32} : FM g (pM g f1 f2 f3 v) := (((FM.rf.upR (by decide) (by decide)).upR (by decide) (by decide)).upR (by decide) (by decide)).fl rfl
theorem pM_109 {g : St} {f1 f2 f3 : Nat → Int32} {v : Int32} : (pM g f1 f2 f3 v).1 109 = f1 := by unfold pM; rw [upI_n (by decide), upR_n (by decide), upR_n (by decide), upR_s]
theorem pM_110 {g : St} {f1 f2 f3 : Nat → Int32} {v : Int32} : (pM g f1 f2 f3 v).1 110 = f2 := by unfold pM; rw [upI_n (by decide), upR_n (by decide), upR_s]
theorem pM_111 {g : St} {f1 f2 f3 : Nat → Int32} {v : Int32} : (pM g f1 f2 f3 v).1 111 = f3 := by unfold pM; rw [upI_n (by decide), upR_s]
theorem pM_33 {g : St} {f1 f2 f3 : Nat → Int32} {v : Int32} : (pM g f1 f2 f3 v).1 91 33 = v := by unfold pM; rw [upI_s, upd_s]
theorem pM_u33 {g : St} {f1 f2 f3 : Nat → Int32} {v x : Int32} : upI (pM g f1 f2 f3 v) 91 33 x = pM g f1 f2 f3 x := by
  unfold pM
  rw [upI_upR, upI_s, upI_upR, upI_upR, upR_upR]
  congr 1
  funext k
  unfold upd
  split
  · rfl
  · rfl
theorem upI_up {g : St} {o q k j : Nat} {x y : Int32} (h : o ≠ q) : upI (upI g o k x) q j y = upI (upI g q j y) o k x := by
  unfold upI
  refine Prod.ext (funext fun a => ?_) rfl
  show (if a = q then upd (if q = o then upd (g.1 o) k x else g.1 q) j y else if a = o then upd (g.1 o) k x else g.1 a) = (if a = o then upd (if o = q then upd (g.1 q) j y else g.1 o) k x else if a = q then upd (g.1 q) j y else g.1 a)
  rw [if_neg (Ne.symm h), if_neg h]
  by_cases e : a = q
  · rw [if_pos e, if_neg (fun z => h (z.symm.trans e)), if_pos e]
  · rw [if_neg e, if_neg e]
theorem upR_up {g : St} {o q j : Nat} {f : Nat → Int32} {y : Int32} (h : o ≠ q) : upI (upR g o f) q j y = upR (upI g q j y) o f := by
  unfold upI upR
  refine Prod.ext (funext fun a => ?_) rfl
  show (if a = q then upd (if q = o then f else g.1 q) j y else if a = o then f else g.1 a) = (if a = o then f else if a = q then upd (g.1 q) j y else g.1 a)
  rw [if_neg (Ne.symm h)]
  by_cases e : a = q
  · rw [if_pos e, if_neg (fun z => h (z.symm.trans e)), if_pos e]
  · rw [if_neg e, if_neg e]
theorem pM_u110 {g : St} {f1 f2 f3 : Nat → Int32} {v x : Int32} {k : Nat} : upI (pM g f1 f2 f3 v) 110 k x = pM g f1 (upd f2 k x) f3 v := by
  unfold pM
  rw [upI_up (by decide), upR_up (by decide), upR_upI]
theorem pM_u111 {g : St} {f1 f2 f3 : Nat → Int32} {v x : Int32} {k : Nat} : upI (pM g f1 f2 f3 v) 111 k x = pM g f1 f2 (upd f3 k x) v := by
  unfold pM
  rw [upI_up (by decide), upR_upI]
theorem pM_mk {g : St} {f1 : Nat → Int32} {v : Int32} : upI (upR g 109 f1) 91 33 v = pM g f1 (g.1 110) (g.1 111) v := by
  unfold pM
  congr 1
  rw [show g.1 110 = (upR g 109 f1).1 110 from (upR_n (by decide)).symm, upR_id, show g.1 111 = (upR g 109 f1).1 111 from (upR_n (by decide)).symm, upR_id]
/-- the route as the model keeps it -/
def MPt (f2 f3 : Nat → Int32) (v : Int32) (D : WD) (kn : Nat → Bool) (t a : Nat) : Prop :=
  (hasR D kn t a → v = nI (rN D kn t a) ∧ ∀ i, i < rN D kn t a → f2 i = nI (rP D kn t a (i + 1)) ∧ f3 i = nI (rM D kn t a (i + 1))) ∧ (¬ hasR D kn t a → v = -1)

theorem lt_of_ge {a b : Nat} (h : ¬ nI b ≤ nI a) (hb : a < 2 ^ 31) : a < b := Nat.lt_of_not_le (fun z => h (nI_le z hb))
set_option maxHeartbeats 4000000 in
set_option maxRecDepth 100000 in
theorem l_rI {K : KT} {ad : Nat → Nat} {g : St} {D : WD} {np k a : Nat} {x2 x3 x5 : Int32} {kn : Nat → Bool} {Kn : Nat → Nat} (hok : wOk np D) (hW : MWC g D) (hk : k < 2 ^ 31) (ekn : kn = knb k) (hKn : ∀ x, Kn x ≤ 1000000) (hf : ∀ x, x < 10 → g.1 109 x = nI (Kn x)) (ha : a < 10) (hK : Cx K RX10 cX10_findRoute 3 ad) (hm : K.2.2.1.2.maxLocals = 11) (hnn : Nn K 0 0)
    (h204 : Wp K 0 0 TT ad g 204 [(0, .ref 91), (1, .int (nI k)), (2, .int x2), (3, .int x3), (4, .int (nI a)), (5, .int x5), (6, .int (nI (nX D kn Kn a D.1).1)), (7, .int (nI (byN D (nX D kn Kn a D.1))))] []) :
    ∀ m w, w + m = D.1 → Wp K 0 0 TT ad g 51 [(0, .ref 91), (1, .int (nI k)), (2, .int x2), (3, .int x3), (4, .int (nI a)), (5, .int x5), (6, .int (nI (nX D kn Kn a w).1)), (7, .int (nI (byN D (nX D kn Kn a w)))), (8, .int (nI w))] [] := by
  have h14 := hok.1
  have hnp := hok.2.1
  intro m
  induction m with
  | zero =>
    intro w hwm
    have e : w = D.1 := by omega
    subst e
    refine r_iload (i := 8) hK dX10_findRoute_51 rfl ?_
    refine r_aload_n (i := 0) hK dX10_findRoute_53 rfl rfl ?_
    refine r_getI hK flX10_128 to_91 rfl dX10_findRoute_54 ?_
    refine r_top (y := nI D.1) hW.1 ?_
    refine r_icmp_ge (tgt := 204) hK dX10_findRoute_57 (by decide) (fun _ => ?_) (fun h => absurd (nI_le (Nat.le_refl _) (by omega)) h)
    refine r_loc ?_ h204
    rfl
  | succ m ih =>
    intro w hwm
    have hw : w < D.1 := by omega
    obtain ⟨q1, q2, hne, q4, q5⟩ := hok.2.2 w hw
    have ih2 := ih (w + 1) (by omega)
    have hr10 := nX_le (D := D) (kn := kn) (K := Kn) (a := a) w
    obtain ⟨r, hr⟩ : ∃ r, r = nX D kn Kn a w := ⟨_, rfl⟩
    rw [← hr] at hr10 ⊢
    have hTT : mldP D (knb k) Kn a w r → oE D w a < 10 → Wp K 0 0 TT ad g 163 [(0, .ref 91), (1, .int (nI k)), (2, .int x2), (3, .int x3), (4, .int (nI a)), (5, .int x5), (6, .int (nI r.1)), (7, .int (nI (byN D r))), (8, .int (nI w)), (9, .int (nI (oE D w a)))] [.int 1] := by
      intro hld ho
      rw [← ekn] at hld
      refine r_istore (i := 10) hK hm dX10_findRoute_163 (by decide) ?_
      refine r_iload (i := 10) hK dX10_findRoute_165 rfl ?_
      refine r_if_eq (tgt := 175) hK dX10_findRoute_167 (by decide) (fun h => absurd h (by decide)) (fun _ => ?_)
      refine r_iload (i := 9) hK dX10_findRoute_170 rfl ?_
      refine r_goto (tgt := 177) hK dX10_findRoute_172 (by decide) ?_
      refine r_istore (i := 6) hK hm dX10_findRoute_177 (by decide) ?_
      refine r_iload (i := 10) hK dX10_findRoute_179 rfl ?_
      refine r_if_eq (tgt := 194) hK dX10_findRoute_181 (by decide) (fun h => absurd h (by decide)) (fun _ => ?_)
      refine r_aload_n (i := 0) hK dX10_findRoute_184 rfl rfl ?_
      refine r_getA hK flX10_16 to_91 rfl dX10_findRoute_185 ?_
      refine r_iload (i := 8) hK dX10_findRoute_188 rfl ?_
      refine r_ialN hK to_94 rfl (by omega) (by decide) ((hW.2 _ hw).2.2) dX10_findRoute_190 ?_
      refine r_goto (tgt := 196) hK dX10_findRoute_191 (by decide) ?_
      refine r_istore (i := 7) hK hm dX10_findRoute_196 (by decide) ?_
      refine r_iincN (i := 8) hK hm dX10_findRoute_198 rfl (by decide) ?_
      refine r_goto (tgt := 51) hK dX10_findRoute_201 (by decide) ?_
      have e9 : nX D kn Kn a (w + 1) = (oE D w a, w) := by rw [nX_succ, ← hr, if_pos hld]
      have e8 : byN D (oE D w a, w) = D.2.2.2 w := if_pos ho
      rw [e9, e8] at ih2
      refine r_loc ?_ ih2
      rfl
    have hFF : ¬ mldP D (knb k) Kn a w r → ∀ tI : Int32, Wp K 0 0 TT ad g 163 [(0, .ref 91), (1, .int (nI k)), (2, .int x2), (3, .int x3), (4, .int (nI a)), (5, .int x5), (6, .int (nI r.1)), (7, .int (nI (byN D r))), (8, .int (nI w)), (9, .int tI)] [.int 0] := by
      intro hld tI
      rw [← ekn] at hld
      refine r_istore (i := 10) hK hm dX10_findRoute_163 (by decide) ?_
      refine r_iload (i := 10) hK dX10_findRoute_165 rfl ?_
      refine r_if_eq (tgt := 175) hK dX10_findRoute_167 (by decide) (fun _ => ?_) (fun h => absurd rfl h)
      refine r_iload (i := 6) hK dX10_findRoute_175 rfl ?_
      refine r_istore (i := 6) hK hm dX10_findRoute_177 (by decide) ?_
      refine r_iload (i := 10) hK dX10_findRoute_179 rfl ?_
      refine r_if_eq (tgt := 194) hK dX10_findRoute_181 (by decide) (fun _ => ?_) (fun h => absurd rfl h)
      refine r_iload (i := 7) hK dX10_findRoute_194 rfl ?_
      refine r_istore (i := 7) hK hm dX10_findRoute_196 (by decide) ?_
      refine r_iincN (i := 8) hK hm dX10_findRoute_198 rfl (by decide) ?_
      refine r_goto (tgt := 51) hK dX10_findRoute_201 (by decide) ?_
      have e9 : nX D kn Kn a (w + 1) = r := by rw [nX_succ, ← hr, if_neg hld]
      rw [e9] at ih2
      refine r_loc ?_ ih2
      rfl
    have h105 : Wp K 0 0 TT ad g 105 [(0, .ref 91), (1, .int (nI k)), (2, .int x2), (3, .int x3), (4, .int (nI a)), (5, .int x5), (6, .int (nI r.1)), (7, .int (nI (byN D r))), (8, .int (nI w))] [.int (oeI D w a)] := by
      by_cases ho : oE D w a < 10
      · rw [oeI_in ho]
        have hk1 := hKn (oE D w a)
        have hk2 := hKn a
        refine r_istore (i := 9) hK hm dX10_findRoute_105 (by decide) ?_
        refine r_iload (i := 9) hK dX10_findRoute_107 rfl ?_
        refine r_if_lt (tgt := 162) hK dX10_findRoute_109 (by decide) (fun h => absurd h (nI_pos (by omega))) (fun _ => ?_)
        refine r_iload_n (i := 1) hK dX10_findRoute_112 rfl rfl ?_
        refine r_iload (i := 8) hK dX10_findRoute_113 rfl ?_
        refine r_si2 hK hnn (c_mHas rfl hk rfl (by omega)) moX10_has mlX10_210 dX10_findRoute_115 (Nat.le_of_ble_eq_true rfl) (Nat.le_of_ble_eq_true rfl) (eqI ?_)
        refine r_if_eq (tgt := 162) hK dX10_findRoute_118 (by decide) (fun h118 => ?_) (fun h118 => ?_)
        · refine r_iconst (v := 0) hK dX10_findRoute_162 (by decide) ?_
          first
            | (refine r_loc ?_ (hTT ⟨B1_n.mp h118, lt_of_ge h155 (by omega), nI_inj (by omega) (by omega) h148⟩ ho); rfl)
            | (refine r_loc ?_ (hFF (fun z => absurd (z.1.symm.trans (B1_0.mp h118)) (by decide)) (nI (oE D w a))); rfl)
            | (refine r_loc ?_ (hFF (fun z => h148 (by rw [z.2.2])) (nI (oE D w a))); rfl)
            | (refine r_loc ?_ (hFF (fun z => absurd h155 (nI_ge z.2.1 (by omega))) (nI (oE D w a))); rfl)
        · refine r_aload_n (i := 0) hK dX10_findRoute_121 rfl rfl ?_
          refine r_getA hK flX10_65 to_91 rfl dX10_findRoute_122 ?_
          refine r_iload (i := 9) hK dX10_findRoute_125 rfl ?_
          refine r_ialN hK to_109 rfl (by omega) (by decide) (hf _ (by omega)) dX10_findRoute_127 ?_
          refine r_bipush (v := 16) hK dX10_findRoute_128 (by decide) ?_
          refine r_aload_n (i := 0) hK dX10_findRoute_130 rfl rfl ?_
          refine r_getA hK flX10_16 to_91 rfl dX10_findRoute_131 ?_
          refine r_iload (i := 8) hK dX10_findRoute_134 rfl ?_
          refine r_ialN hK to_94 rfl (by omega) (by decide) ((hW.2 _ hw).2.2) dX10_findRoute_136 ?_
          refine r_imul hK dX10_findRoute_137 ?_
          refine r_iadd hK dX10_findRoute_138 ?_
          refine r_iconst (v := 1) hK dX10_findRoute_139 (by decide) ?_
          refine r_iadd hK dX10_findRoute_140 ?_
          refine r_top (y := nI (Kn (oE D w a) + (16 * D.2.2.2 w + 1))) (mkey _ _) ?_
          refine r_aload_n (i := 0) hK dX10_findRoute_141 rfl rfl ?_
          refine r_getA hK flX10_65 to_91 rfl dX10_findRoute_142 ?_
          refine r_iload (i := 4) hK dX10_findRoute_145 rfl ?_
          refine r_ialN hK to_109 rfl (by omega) (by decide) (hf _ (by omega)) dX10_findRoute_147 ?_
          refine r_icmp_ne (tgt := 162) hK dX10_findRoute_148 (by decide) (fun h148 => ?_) (fun h148 => ?_)
          · refine r_iconst (v := 0) hK dX10_findRoute_162 (by decide) ?_
            first
              | (refine r_loc ?_ (hTT ⟨B1_n.mp h118, lt_of_ge h155 (by omega), nI_inj (by omega) (by omega) h148⟩ ho); rfl)
              | (refine r_loc ?_ (hFF (fun z => absurd (z.1.symm.trans (B1_0.mp h118)) (by decide)) (nI (oE D w a))); rfl)
              | (refine r_loc ?_ (hFF (fun z => h148 (by rw [z.2.2])) (nI (oE D w a))); rfl)
              | (refine r_loc ?_ (hFF (fun z => absurd h155 (nI_ge z.2.1 (by omega))) (nI (oE D w a))); rfl)
          · refine r_iload (i := 9) hK dX10_findRoute_151 rfl ?_
            refine r_iload (i := 6) hK dX10_findRoute_153 rfl ?_
            refine r_icmp_ge (tgt := 162) hK dX10_findRoute_155 (by decide) (fun h155 => ?_) (fun h155 => ?_)
            · refine r_iconst (v := 0) hK dX10_findRoute_162 (by decide) ?_
              first
                | (refine r_loc ?_ (hTT ⟨B1_n.mp h118, lt_of_ge h155 (by omega), nI_inj (by omega) (by omega) h148⟩ ho); rfl)
                | (refine r_loc ?_ (hFF (fun z => absurd (z.1.symm.trans (B1_0.mp h118)) (by decide)) (nI (oE D w a))); rfl)
                | (refine r_loc ?_ (hFF (fun z => h148 (by rw [z.2.2])) (nI (oE D w a))); rfl)
                | (refine r_loc ?_ (hFF (fun z => absurd h155 (nI_ge z.2.1 (by omega))) (nI (oE D w a))); rfl)
            · refine r_iconst (v := 1) hK dX10_findRoute_158 (by decide) ?_
              refine r_goto (tgt := 163) hK dX10_findRoute_159 (by decide) ?_
              first
                | (refine r_loc ?_ (hTT ⟨B1_n.mp h118, lt_of_ge h155 (by omega), nI_inj (by omega) (by omega) h148⟩ ho); rfl)
                | (refine r_loc ?_ (hFF (fun z => absurd (z.1.symm.trans (B1_0.mp h118)) (by decide)) (nI (oE D w a))); rfl)
                | (refine r_loc ?_ (hFF (fun z => h148 (by rw [z.2.2])) (nI (oE D w a))); rfl)
                | (refine r_loc ?_ (hFF (fun z => absurd h155 (nI_ge z.2.1 (by omega))) (nI (oE D w a))); rfl)
      · rw [oeI_out ho]
        refine r_istore (i := 9) hK hm dX10_findRoute_105 (by decide) ?_
        refine r_iload (i := 9) hK dX10_findRoute_107 rfl ?_
        refine r_if_lt (tgt := 162) hK dX10_findRoute_109 (by decide) (fun _ => ?_) (fun h => absurd (by decide) h)
        refine r_iconst (v := 0) hK dX10_findRoute_162 (by decide) ?_
        refine r_loc ?_ (hFF (fun z => ho (by have := z.2.1; omega)) (-1))
        rfl
    refine r_iload (i := 8) hK dX10_findRoute_51 rfl ?_
    refine r_aload_n (i := 0) hK dX10_findRoute_53 rfl rfl ?_
    refine r_getI hK flX10_128 to_91 rfl dX10_findRoute_54 ?_
    refine r_top (y := nI D.1) hW.1 ?_
    refine r_icmp_ge (tgt := 204) hK dX10_findRoute_57 (by decide) (fun h => absurd h (nI_ge hw (by omega))) (fun _ => ?_)
    refine r_aload_n (i := 0) hK dX10_findRoute_60 rfl rfl ?_
    refine r_getA hK flX10_7 to_91 rfl dX10_findRoute_61 ?_
    refine r_iload (i := 8) hK dX10_findRoute_64 rfl ?_
    refine r_ialN hK to_92 rfl (by omega) (by decide) ((hW.2 _ hw).1) dX10_findRoute_66 ?_
    refine r_iload (i := 4) hK dX10_findRoute_67 rfl ?_
    refine r_icmp_ne (tgt := 82) hK dX10_findRoute_69 (by decide) (fun h69 => ?_) (fun h69 => ?_)
    · refine r_aload_n (i := 0) hK dX10_findRoute_82 rfl rfl ?_
      refine r_getA hK flX10_13 to_91 rfl dX10_findRoute_83 ?_
      refine r_iload (i := 8) hK dX10_findRoute_86 rfl ?_
      refine r_ialN hK to_93 rfl (by omega) (by decide) ((hW.2 _ hw).2.1) dX10_findRoute_88 ?_
      refine r_iload (i := 4) hK dX10_findRoute_89 rfl ?_
      refine r_icmp_ne (tgt := 104) hK dX10_findRoute_91 (by decide) (fun h91 => ?_) (fun h91 => ?_)
      · refine r_iconst (v := (-1)) hK dX10_findRoute_104 (by decide) ?_
        first
          | (refine r_top (y := oeI D w a) (by rw [oeI_in (by unfold oE; rw [if_pos (nI_inj (by omega) (by omega) h69)]; omega)]; unfold oE; rw [if_pos (nI_inj (by omega) (by omega) h69)]) ?_; refine r_loc ?_ h105; rfl)
          | (refine r_top (y := oeI D w a) (by rw [oeI_in (by unfold oE; rw [if_neg (fun z => h69 (by rw [z])), if_pos (nI_inj (by omega) (by omega) h91)]; omega)]; unfold oE; rw [if_neg (fun z => h69 (by rw [z])), if_pos (nI_inj (by omega) (by omega) h91)]) ?_; refine r_loc ?_ h105; rfl)
          | (refine r_top (y := oeI D w a) (by rw [oeI_out (by unfold oE; rw [if_neg (fun z => h69 (by rw [z])), if_neg (fun z => h91 (by rw [z]))]; decide)]) ?_; refine r_loc ?_ h105; rfl)
      · refine r_aload_n (i := 0) hK dX10_findRoute_94 rfl rfl ?_
        refine r_getA hK flX10_7 to_91 rfl dX10_findRoute_95 ?_
        refine r_iload (i := 8) hK dX10_findRoute_98 rfl ?_
        refine r_ialN hK to_92 rfl (by omega) (by decide) ((hW.2 _ hw).1) dX10_findRoute_100 ?_
        refine r_goto (tgt := 105) hK dX10_findRoute_101 (by decide) ?_
        first
          | (refine r_top (y := oeI D w a) (by rw [oeI_in (by unfold oE; rw [if_pos (nI_inj (by omega) (by omega) h69)]; omega)]; unfold oE; rw [if_pos (nI_inj (by omega) (by omega) h69)]) ?_; refine r_loc ?_ h105; rfl)
          | (refine r_top (y := oeI D w a) (by rw [oeI_in (by unfold oE; rw [if_neg (fun z => h69 (by rw [z])), if_pos (nI_inj (by omega) (by omega) h91)]; omega)]; unfold oE; rw [if_neg (fun z => h69 (by rw [z])), if_pos (nI_inj (by omega) (by omega) h91)]) ?_; refine r_loc ?_ h105; rfl)
          | (refine r_top (y := oeI D w a) (by rw [oeI_out (by unfold oE; rw [if_neg (fun z => h69 (by rw [z])), if_neg (fun z => h91 (by rw [z]))]; decide)]) ?_; refine r_loc ?_ h105; rfl)
    · refine r_aload_n (i := 0) hK dX10_findRoute_72 rfl rfl ?_
      refine r_getA hK flX10_13 to_91 rfl dX10_findRoute_73 ?_
      refine r_iload (i := 8) hK dX10_findRoute_76 rfl ?_
      refine r_ialN hK to_93 rfl (by omega) (by decide) ((hW.2 _ hw).2.1) dX10_findRoute_78 ?_
      refine r_goto (tgt := 105) hK dX10_findRoute_79 (by decide) ?_
      first
        | (refine r_top (y := oeI D w a) (by rw [oeI_in (by unfold oE; rw [if_pos (nI_inj (by omega) (by omega) h69)]; omega)]; unfold oE; rw [if_pos (nI_inj (by omega) (by omega) h69)]) ?_; refine r_loc ?_ h105; rfl)
        | (refine r_top (y := oeI D w a) (by rw [oeI_in (by unfold oE; rw [if_neg (fun z => h69 (by rw [z])), if_pos (nI_inj (by omega) (by omega) h91)]; omega)]; unfold oE; rw [if_neg (fun z => h69 (by rw [z])), if_pos (nI_inj (by omega) (by omega) h91)]) ?_; refine r_loc ?_ h105; rfl)
        | (refine r_top (y := oeI D w a) (by rw [oeI_out (by unfold oE; rw [if_neg (fun z => h69 (by rw [z])), if_neg (fun z => h91 (by rw [z]))]; decide)]) ?_; refine r_loc ?_ h105; rfl)
set_option maxHeartbeats 4000000 in
set_option maxRecDepth 100000 in
theorem l_rO {K : KT} {ad : Nat → Nat} {g : St} {D : WD} {np k a t : Nat} {f : Nat → Int32} (hok : wOk np D) (hW : MWC g D) (hk : k < 2 ^ 31) (ha : a < np) (ht : t < np) (hf : ∀ x, x < 10 → f x = nI (kW D (knb k) t x)) (hl : hasR D (knb k) t a) (hK : Cx K RX10 cX10_findRoute 3 ad) (hm : K.2.2.1.2.maxLocals = 11) (hnn : Nn K 0 0)
    (hR : Rt K 0 0 TT ad (some .int) (Qi ad (fun v g' => ∃ f1 f2 f3, g' = pM g f1 f2 f3 v ∧ MPt f2 f3 v D (knb k) t a))) :
    ∀ m i, i + m = rN D (knb k) t a → ∀ f2 f3 : Nat → Int32, (∀ j, j < i → f2 j = nI (rP D (knb k) t a (j + 1)) ∧ f3 j = nI (rM D (knb k) t a (j + 1))) → Wp K 0 0 TT ad (pM g f f2 f3 (nI i)) 35 [(0, .ref 91), (1, .int (nI k)), (2, .int (nI a)), (3, .int (nI t)), (4, .int (nI (rP D (knb k) t a i))), (5, .int (nI (rM D (knb k) t a i)))] [] := by
  obtain ⟨g1, g2, g3, g4⟩ := rN_go hok ha hl
  have hnp := hok.2.1
  intro m
  induction m with
  | zero =>
    intro i him f2 f3 h23
    have e : i = rN D (knb k) t a := by omega
    subst e
    rw [g2]
    refine r_iload (i := 4) hK dX10_findRoute_35 rfl ?_
    refine r_iload_n (i := 3) hK dX10_findRoute_37 rfl rfl ?_
    refine r_icmp_eq (tgt := 250) hK dX10_findRoute_38 (by decide) (fun _ => ?_) (fun h => absurd rfl h)
    refine r_aload_n (i := 0) hK dX10_findRoute_250 rfl rfl ?_
    refine r_getI hK flX10_253 to_91 rfl dX10_findRoute_251 ?_
    refine r_top (y := nI (rN D (knb k) t a)) pM_33 ?_
    refine q_iret hK hR dX10_findRoute_254 ?_
    exact ⟨_, _, _, rfl, fun _ => ⟨rfl, h23⟩, fun z => absurd hl z⟩
  | succ m ih =>
    intro i him f2 f3 h23
    have hi : i < rN D (knb k) t a := by omega
    have hnt := g3 i hi
    obtain ⟨p1, p2⟩ := g4 i (by omega)
    have hlt : kW D (knb k) t (rP D (knb k) t a i) < FR := by have : kW D (knb k) t a < FR := hl; omega
    obtain ⟨n1, n2, n3, n4, n5⟩ := kW_next hok hnt hlt
    have hro : rO D (knb k) (kW D (knb k) t) t a (i + 1) = ((nX D (knb k) (kW D (knb k) t) (rP D (knb k) t a i) D.1).1, rM D (knb k) t a i + D.2.2.2 (nX D (knb k) (kW D (knb k) t) (rP D (knb k) t a i) D.1).2) := by rw [rO_succ]; exact if_neg hnt
    have hnx : rP D (knb k) t a (i + 1) = (nX D (knb k) (kW D (knb k) t) (rP D (knb k) t a i) D.1).1 := by show (rO D (knb k) (kW D (knb k) t) t a (i + 1)).1 = _; rw [hro]
    have hmx : rM D (knb k) t a (i + 1) = rM D (knb k) t a i + D.2.2.2 (nX D (knb k) (kW D (knb k) t) (rP D (knb k) t a i) D.1).2 := by show (rO D (knb k) (kW D (knb k) t) t a (i + 1)).2 = _; rw [hro]
    have hby : byN D (nX D (knb k) (kW D (knb k) t) (rP D (knb k) t a i) D.1) = D.2.2.2 (nX D (knb k) (kW D (knb k) t) (rP D (knb k) t a i) D.1).2 := if_pos (by omega)
    have hsum : nI (rM D (knb k) t a i) + nI (byN D (nX D (knb k) (kW D (knb k) t) (rP D (knb k) t a i) D.1)) = nI (rM D (knb k) t a (i + 1)) := by rw [hby, nI_add, hmx]
    have hst : ∀ j, j < i + 1 → upd f2 i (nI (nX D (knb k) (kW D (knb k) t) (rP D (knb k) t a i) D.1).1) j = nI (rP D (knb k) t a (j + 1)) ∧ upd f3 i (nI (rM D (knb k) t a (i + 1))) j = nI (rM D (knb k) t a (j + 1)) := fun j hj => by
      by_cases e : j = i
      · subst e; rw [upd_s, upd_s, hnx]; exact ⟨rfl, rfl⟩
      · rw [upd_e e, upd_e e]; exact h23 j (by omega)
    have h204 : Wp K 0 0 TT ad (pM g f f2 f3 (nI i)) 204 [(0, .ref 91), (1, .int (nI k)), (2, .int (nI a)), (3, .int (nI t)), (4, .int (nI (rP D (knb k) t a i))), (5, .int (nI (rM D (knb k) t a i))), (6, .int (nI (nX D (knb k) (kW D (knb k) t) (rP D (knb k) t a i) D.1).1)), (7, .int (nI (byN D (nX D (knb k) (kW D (knb k) t) (rP D (knb k) t a i) D.1))))] [] := by
      skip
      refine r_iload (i := 5) hK dX10_findRoute_204 rfl ?_
      refine r_iload (i := 7) hK dX10_findRoute_206 rfl ?_
      refine r_iadd hK dX10_findRoute_208 ?_
      refine r_top (y := nI (rM D (knb k) t a (i + 1))) hsum ?_
      refine r_istore (i := 5) hK hm dX10_findRoute_209 (by decide) ?_
      refine r_iload (i := 6) hK dX10_findRoute_211 rfl ?_
      refine r_istore (i := 4) hK hm dX10_findRoute_213 (by decide) ?_
      refine r_aload_n (i := 0) hK dX10_findRoute_215 rfl rfl ?_
      refine r_getA hK flX10_68 to_91 rfl dX10_findRoute_216 ?_
      refine r_aload_n (i := 0) hK dX10_findRoute_219 rfl rfl ?_
      refine r_getI hK flX10_253 to_91 rfl dX10_findRoute_220 ?_
      refine r_top (y := nI i) pM_33 ?_
      refine r_iload (i := 4) hK dX10_findRoute_223 rfl ?_
      refine r_iasN hK to_110 rfl (by omega) (by decide) dX10_findRoute_225 ?_
      refine r_g pM_u110 ?_
      refine r_aload_n (i := 0) hK dX10_findRoute_226 rfl rfl ?_
      refine r_getA hK flX10_71 to_91 rfl dX10_findRoute_227 ?_
      refine r_aload_n (i := 0) hK dX10_findRoute_230 rfl rfl ?_
      refine r_getI hK flX10_253 to_91 rfl dX10_findRoute_231 ?_
      refine r_top (y := nI i) pM_33 ?_
      refine r_iload (i := 5) hK dX10_findRoute_234 rfl ?_
      refine r_iasN hK to_111 rfl (by omega) (by decide) dX10_findRoute_236 ?_
      refine r_g pM_u111 ?_
      refine r_aload_n (i := 0) hK dX10_findRoute_237 rfl rfl ?_
      refine r_dup hK dX10_findRoute_238 rfl ?_
      refine r_getI hK flX10_253 to_91 rfl dX10_findRoute_239 ?_
      refine r_top (y := nI i) pM_33 ?_
      refine r_iconst (v := 1) hK dX10_findRoute_242 (by decide) ?_
      refine r_iadd hK dX10_findRoute_243 ?_
      refine r_top (y := nI (i + 1)) (nI_succ _).symm ?_
      refine r_putI hK flX10_253 ft10_33 to_91 rfl dX10_findRoute_244 ?_
      refine r_g pM_u33 ?_
      refine r_goto (tgt := 35) hK dX10_findRoute_247 (by decide) ?_
      refine r_loc ?_ (ih (i + 1) (by omega) _ _ hst)
      simp only [List.map_cons, List.map_nil]
      rw [← hnx]
      rfl
    refine r_iload (i := 4) hK dX10_findRoute_35 rfl ?_
    refine r_iload_n (i := 3) hK dX10_findRoute_37 rfl rfl ?_
    refine r_icmp_eq (tgt := 250) hK dX10_findRoute_38 (by decide) (fun h => absurd h (fun z => hnt (nI_inj (by omega) (by omega) z))) (fun _ => ?_)
    refine r_bipush (v := 10) hK dX10_findRoute_41 (by decide) ?_
    refine r_istore (i := 6) hK hm dX10_findRoute_43 (by decide) ?_
    refine r_iconst (v := 0) hK dX10_findRoute_45 (by decide) ?_
    refine r_istore (i := 7) hK hm dX10_findRoute_46 (by decide) ?_
    refine r_iconst (v := 0) hK dX10_findRoute_48 (by decide) ?_
    refine r_istore (i := 8) hK hm dX10_findRoute_49 (by decide) ?_
    refine r_loc ?_ (l_rI hok (MWC_of hW FM_pM) hk rfl (fun x => sp_K_le x) (fun x hx => (congrFun pM_109 _).trans (hf x hx)) (by omega) hK hm hnn h204 D.1 0 (by omega))
    rfl
set_option maxHeartbeats 4000000 in
set_option maxRecDepth 100000 in
theorem c_mRoute0 {ad : Nat → Nat} {g : St} {D : WD} {np k a t : Nat} {x y z : Int32} (hok : wOk np D) (hW : MWC g D) (hx : x = nI k) (hk : k < 2 ^ 31) (hy : y = nI a) (ha : a < np) (hz : z = nI t) (ht : t < np) : Ci 3 mX10_findRoute [.ref 91, .int x, .int y, .int z] ad g (fun v g' => ∃ f1 f2 f3, g' = pM g f1 f2 f3 v ∧ MPt f2 f3 v D (knb k) t a) := by
  subst hx; subst hy; subst hz
  have hnp := hok.2.1
  refine Cm.mk rfl (Nat.le_of_ble_eq_true rfl) (fun K hK hR hm hnn => ?_)
  refine r_aload_n (i := 0) hK dX10_findRoute_0 rfl rfl ?_
  refine r_iload_n (i := 1) hK dX10_findRoute_1 rfl rfl ?_
  refine r_iload_n (i := 3) hK dX10_findRoute_2 rfl rfl ?_
  refine r_cv2 hK hnn (c_mNeeds hok hW rfl hk rfl (by omega)) moX10_findNeeds mlX10_249 to_91 rfl rfl dX10_findRoute_3 (Nat.le_of_ble_eq_true rfl) (Nat.le_of_ble_eq_true rfl) (fun g3 q3 => ?_)
  obtain ⟨f, rfl, hf⟩ := q3
  refine r_aload_n (i := 0) hK dX10_findRoute_6 rfl rfl ?_
  refine r_iconst (v := (-1)) hK dX10_findRoute_7 (by decide) ?_
  refine r_putI hK flX10_253 ft10_33 to_91 rfl dX10_findRoute_8 ?_
  refine r_g pM_mk ?_
  refine r_aload_n (i := 0) hK dX10_findRoute_11 rfl rfl ?_
  refine r_getA hK flX10_65 to_91 rfl dX10_findRoute_12 ?_
  refine r_iload_n (i := 2) hK dX10_findRoute_15 rfl rfl ?_
  refine r_ialN hK to_109 rfl (by omega) (by decide) ((congrFun pM_109 _).trans (hf a (by omega))) dX10_findRoute_16 ?_
  refine r_ldc hK ckX10_248 dX10_findRoute_17 ?_
  refine r_icmp_lt (tgt := 24) hK dX10_findRoute_19 (by decide) (fun h19 => ?_) (fun h19 => ?_)
  · refine r_aload_n (i := 0) hK dX10_findRoute_24 rfl rfl ?_
    refine r_iconst (v := 0) hK dX10_findRoute_25 (by decide) ?_
    refine r_putI hK flX10_253 ft10_33 to_91 rfl dX10_findRoute_26 ?_
    refine r_g pM_u33 ?_
    refine r_iload_n (i := 2) hK dX10_findRoute_29 rfl rfl ?_
    refine r_istore (i := 4) hK hm dX10_findRoute_30 (by decide) ?_
    refine r_iconst (v := 0) hK dX10_findRoute_32 (by decide) ?_
    refine r_istore (i := 5) hK hm dX10_findRoute_33 (by decide) ?_
    have hl : hasR D (knb k) t a := lt_of_I h19 (by have := sp_K_le (E := wE D (knb k)) (F := FR) (t := t) a; exact Nat.lt_of_le_of_lt this (by decide))
    refine r_loc ?_ (l_rO hok hW hk ha ht hf hl hK hm hnn hR (rN D (knb k) t a) 0 (by omega) _ _ (fun j hj => absurd hj (Nat.not_lt_zero _)))
    rfl
  · refine r_iconst (v := (-1)) hK dX10_findRoute_22 (by decide) ?_
    refine q_iret hK hR dX10_findRoute_23 ?_
    refine ⟨_, _, _, rfl, fun z => absurd z (nlt_I h19 (by decide)), fun _ => rfl⟩
