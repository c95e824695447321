/-! THE MODEL: say -/
def SB (best least : Int32) (B : BT) : Prop := (best = -1 ∧ B = (-1, -1, -1)) ∨ ∃ p t m, p < 6 ∧ t < 10 ∧ m ≤ 891 ∧ best = nI (10 * p + t) ∧ least = nI m ∧ B = (nI p, nI t, nI m)
theorem SB_A {X : LN} {w a p t : Nat} {best least : Int32} {B : BT} (h : SB best least B) (hn : svN X w a p t = -1) : SB best least (svS X w a p t B) := by
  have e : svS X w a p t B = B := if_pos hn
  rw [e]; exact h
theorem SB_B {X : LN} {w a p t mm : Nat} {best least : Int32} {B : BT} (h : SB best least B) (hn : svN X w a p t = nI mm) (hm : mm ≤ 891) (hp : p < 6) (ht : t < 10) (hc : best < 0 ∨ nI mm < least) : SB (nI (10 * p + t)) (nI mm) (svS X w a p t B) := by
  have hn1 : ¬ svN X w a p t = -1 := by rw [hn]; exact nI_m1 (by omega)
  have e : svS X w a p t B = (nI p, nI t, svN X w a p t) := by
    rcases h with ⟨h1, h2⟩ | ⟨q, u, m, q1, q2, q3, q4, q5, q6⟩
    · exact svS_b hn1 (by rw [h2])
    · refine svS_c hn1 ?_
      rcases hc with hc | hc
      · rw [q4] at hc; exact absurd hc (nI_pos (by omega))
      · rw [q6, hn, ← q5]; exact Int32.not_le.mpr hc
  rw [e, hn]
  exact Or.inr ⟨p, t, mm, hp, ht, hm, rfl, rfl, rfl⟩
theorem SB_C {X : LN} {w a p t mm : Nat} {best least : Int32} {B : BT} (h : SB best least B) (hn : svN X w a p t = nI mm) (hm : mm ≤ 891) (h1 : ¬ best < 0) (h2 : least ≤ nI mm) : SB best least (svS X w a p t B) := by
  have hn1 : ¬ svN X w a p t = -1 := by rw [hn]; exact nI_m1 (by omega)
  rcases h with ⟨q1, q2⟩ | ⟨q, u, m, q1, q2, q3, q4, q5, q6⟩
  · rw [q1] at h1; exact absurd (by decide) h1
  · have e : svS X w a p t B = B := svS_d hn1 (by rw [q6]; exact nI_m1 (by omega)) (by rw [q6, hn, ← q5]; exact h2)
    rw [e]
    exact Or.inr ⟨q, u, m, q1, q2, q3, q4, q5, q6⟩

set_option maxHeartbeats 4000000 in
set_option maxRecDepth 100000 in
theorem lm_sy {K : KT} {ad : Nat → Nat} {g : St} {X : LN} (hX : MC g X) {w a p : Nat} {x : Int32} (hw : w < 2 ^ 31) (ha : a < X.1) (hp : p < X.2.2.1.1) (hK : Cx K RX10 cX10_say 5 ad) (hm : K.2.2.1.2.maxLocals = 9) (hnn : Nn K 0 0) {R : BT}
    (h152 : ∀ g1 best least, FM g g1 → SB best least R → Wp K 0 0 TT ad g1 152 [(0, .ref 91), (1, .int (nI a)), (2, .int (nI w)), (3, .int x), (4, .int best), (5, .int least), (6, .int (nI p))] []) :
    ∀ m t, t + m = X.1 → ∀ g1, FM g g1 → ∀ (best least : Int32) (B : BT), SB best least B → svI X w a p m t B = R → Wp K 0 0 TT ad g1 55 [(0, .ref 91), (1, .int (nI a)), (2, .int (nI w)), (3, .int x), (4, .int best), (5, .int least), (6, .int (nI p)), (7, .int (nI t))] [] := by
  obtain ⟨hok, hpo, hlaw, x1, hW, hPs, x4⟩ := id hX
  have h10 := hok.2.1
  have h6 := hpo.1
  have h14 := hok.1
  obtain ⟨p1, p2, p3, p4, p5⟩ := hpo.2 p hp
  obtain ⟨r1, r2, r3, r4, r5⟩ := hPs.2 p hp
  intro m
  induction m with
  | zero =>
    intro t htm g1 hfr best least B hSB hnx
    have e : t = X.1 := by omega
    subst e
    have hB : B = R := hnx
    subst hB
    refine r_iload (i := 7) hK dX10_say_55 rfl ?_
    refine r_aload_n (i := 0) hK dX10_say_57 rfl rfl ?_
    refine r_getI hK flX10_121 to_91 rfl dX10_say_58 ?_
    refine r_top (y := nI X.1) ((hfr.2.1 0 rfl).trans x1) ?_
    refine r_icmp_ge (tgt := 152) hK dX10_say_61 (by decide) (fun _ => ?_) (fun h => absurd (nI_le (Nat.le_refl _) (by omega)) h)
    refine r_loc ?_ (h152 g1 best least hfr hSB)
    rfl
  | succ m ih =>
    intro t htm g1 hfr best least B hSB hnx
    have ht : t < X.1 := by omega
    have hX1 := MC_of hX hfr
    rw [svI_succ] at hnx
    refine r_iload (i := 7) hK dX10_say_55 rfl ?_
    refine r_aload_n (i := 0) hK dX10_say_57 rfl rfl ?_
    refine r_getI hK flX10_121 to_91 rfl dX10_say_58 ?_
    refine r_top (y := nI X.1) ((hfr.2.1 0 rfl).trans x1) ?_
    refine r_icmp_ge (tgt := 152) hK dX10_say_61 (by decide) (fun h => absurd h (nI_ge ht (by omega))) (fun _ => ?_)
    refine r_aload_n (i := 0) hK dX10_say_64 rfl rfl ?_
    refine r_getA hK flX10_19 to_91 rfl dX10_say_65 ?_
    refine r_iload (i := 6) hK dX10_say_68 rfl ?_
    refine r_ialN hK to_95 rfl (by omega) (by decide) ((congrFun (hfr.1 95 (by decide)) _).trans r1) dX10_say_70 ?_
    refine r_iload_n (i := 1) hK dX10_say_71 rfl rfl ?_
    refine r_icmp_ne (tgt := 93) hK dX10_say_72 (by decide) (fun h72 => ?_) (fun h72 => ?_)
    · refine r_iconst (v := 0) hK dX10_say_93 (by decide) ?_
      have hn : svN X w a p t = -1 := by
        unfold svN
        first
          | exact if_neg (fun z => h72 (congrArg nI z.1))
          | exact if_neg (fun z => z.2 (nI_inj (by omega) (by omega) h78))
      refine r_istore (i := 8) hK hm dX10_say_94 (by decide) ?_
      refine r_iload (i := 8) hK dX10_say_96 rfl ?_
      refine r_if_le (tgt := 146) hK dX10_say_98 (by decide) (fun _ => ?_) (fun h => absurd (by decide) h)
      refine r_iincN (i := 7) hK hm dX10_say_146 rfl (by decide) ?_
      refine r_goto (tgt := 55) hK dX10_say_149 (by decide) ?_
      refine r_loc ?_ (ih (t + 1) (by omega) _ hfr _ _ _ (SB_A hSB hn) hnx)
      rfl
    · refine r_iload (i := 7) hK dX10_say_75 rfl ?_
      refine r_iload_n (i := 1) hK dX10_say_77 rfl rfl ?_
      refine r_icmp_eq (tgt := 93) hK dX10_say_78 (by decide) (fun h78 => ?_) (fun h78 => ?_)
      · refine r_iconst (v := 0) hK dX10_say_93 (by decide) ?_
        have hn : svN X w a p t = -1 := by
          unfold svN
          first
            | exact if_neg (fun z => h72 (congrArg nI z.1))
            | exact if_neg (fun z => z.2 (nI_inj (by omega) (by omega) h78))
        refine r_istore (i := 8) hK hm dX10_say_94 (by decide) ?_
        refine r_iload (i := 8) hK dX10_say_96 rfl ?_
        refine r_if_le (tgt := 146) hK dX10_say_98 (by decide) (fun _ => ?_) (fun h => absurd (by decide) h)
        refine r_iincN (i := 7) hK hm dX10_say_146 rfl (by decide) ?_
        refine r_goto (tgt := 55) hK dX10_say_149 (by decide) ?_
        refine r_loc ?_ (ih (t + 1) (by omega) _ hfr _ _ _ (SB_A hSB hn) hnx)
        rfl
      · refine r_aload_n (i := 0) hK dX10_say_81 rfl rfl ?_
        refine r_iload (i := 6) hK dX10_say_82 rfl ?_
        refine r_iload_n (i := 1) hK dX10_say_84 rfl rfl ?_
        refine r_iload (i := 7) hK dX10_say_85 rfl ?_
        refine r_ci3 hK hnn (c_mOwnBy (a := a) hX1 rfl hp rfl ha rfl ht) moX10_ownBy mlX10_292 to_91 rfl rfl dX10_say_87 (Nat.le_of_ble_eq_true rfl) (Nat.le_of_ble_eq_true rfl) (fun v87 g87 q87 => ?_)
        obtain ⟨f1, f2, f3, v2, rfl, hMP, rfl⟩ := q87
        have hha : X.2.2.1.2.1 p = a := nI_inj (by omega) (by omega) h72
        have hta : ¬ t = a := fun z => h78 (congrArg nI z)
        have hf9 : FM g (upI (pM g1 f1 f2 f3 v2) 91 36 (gG X p a t (owX X p a t))) := hfr.tr (FM_pM.fl rfl)
        have hol : (owX X p a t) ≤ rn0 X.2.1 (kN X p) t a := bD_le _
        have hrb := rt_b hok (kN X p) t ha
        have hm9 : (rM X.2.1 (kN X p) t a (owX X p a t)) ≤ 891 := (hrb.2 _ hol).2
        have hpl := (hrb.2 _ hol).1
        have hol9 := Nat.le_trans hol hrb.1
        have hnA : (nI (owX X p a t) ≤ 0 ∨ ¬ nI (rP X.2.1 (kN X p) t a (owX X p a t)) = nI w) → svN X w a p t = -1 := fun hor => by
          unfold svN mlV
          rw [if_pos ⟨hha, hta⟩]
          refine if_neg (fun z => ?_)
          rcases hor with hor | hor
          · exact absurd hor (nI_nle (show 0 < (owX X p a t) from z.1) (by omega))
          · exact hor (congrArg nI z.2)
        have hnB : ¬ nI (owX X p a t) ≤ 0 → nI (rP X.2.1 (kN X p) t a (owX X p a t)) = nI w → svN X w a p t = nI (rM X.2.1 (kN X p) t a (owX X p a t)) := fun h1 h2 => by
          unfold svN mlV
          rw [if_pos ⟨hha, hta⟩]
          exact if_pos ⟨Nat.pos_of_ne_zero (fun z => h1 (by rw [show (owX X p a t) = 0 from z]; decide)), show rP X.2.1 (kN X p) t a (owX X p a t) = w from nI_inj (by omega) (by omega) h2⟩
        refine r_goto (tgt := 94) hK dX10_say_90 (by decide) ?_
        refine r_istore (i := 8) hK hm dX10_say_94 (by decide) ?_
        refine r_iload (i := 8) hK dX10_say_96 rfl ?_
        refine r_if_le (tgt := 146) hK dX10_say_98 (by decide) (fun h98 => ?_) (fun h98 => ?_)
        · refine r_iincN (i := 7) hK hm dX10_say_146 rfl (by decide) ?_
          refine r_goto (tgt := 55) hK dX10_say_149 (by decide) ?_
          first
            | (refine r_loc ?_ (ih (t + 1) (by omega) _ hf9 _ _ _ (SB_A hSB (hnA (Or.inl h98))) hnx); rfl)
            | (refine r_loc ?_ (ih (t + 1) (by omega) _ hf9 _ _ _ (SB_A hSB (hnA (Or.inr h109))) hnx); rfl)
            | (refine r_loc ?_ (ih (t + 1) (by omega) _ hf9 _ _ _ (SB_B hSB (hnB h98 h109) hm9 (by omega) (by omega) (Or.inl h114)) hnx); rfl)
            | (refine r_loc ?_ (ih (t + 1) (by omega) _ hf9 _ _ _ (SB_B hSB (hnB h98 h109) hm9 (by omega) (by omega) (Or.inr (Int32.not_le.mp h125))) hnx); rfl)
            | (refine r_loc ?_ (ih (t + 1) (by omega) _ hf9 _ _ _ (SB_C hSB (hnB h98 h109) hm9 h114 h125) hnx); rfl)
        · refine r_aload_n (i := 0) hK dX10_say_101 rfl rfl ?_
          refine r_iload_n (i := 1) hK dX10_say_102 rfl rfl ?_
          refine r_iload (i := 8) hK dX10_say_103 rfl ?_
          refine r_ci2 hK hnn (c_mEndOf hok ha (MR_36 (MR_pM hMP)) rfl rfl hol) moX10_endOf mlX10_274 to_91 rfl rfl dX10_say_105 (Nat.le_of_ble_eq_true rfl) (Nat.le_of_ble_eq_true rfl) (eqI ?_)
          refine r_iload_n (i := 2) hK dX10_say_108 rfl rfl ?_
          refine r_icmp_ne (tgt := 146) hK dX10_say_109 (by decide) (fun h109 => ?_) (fun h109 => ?_)
          · refine r_iincN (i := 7) hK hm dX10_say_146 rfl (by decide) ?_
            refine r_goto (tgt := 55) hK dX10_say_149 (by decide) ?_
            first
              | (refine r_loc ?_ (ih (t + 1) (by omega) _ hf9 _ _ _ (SB_A hSB (hnA (Or.inl h98))) hnx); rfl)
              | (refine r_loc ?_ (ih (t + 1) (by omega) _ hf9 _ _ _ (SB_A hSB (hnA (Or.inr h109))) hnx); rfl)
              | (refine r_loc ?_ (ih (t + 1) (by omega) _ hf9 _ _ _ (SB_B hSB (hnB h98 h109) hm9 (by omega) (by omega) (Or.inl h114)) hnx); rfl)
              | (refine r_loc ?_ (ih (t + 1) (by omega) _ hf9 _ _ _ (SB_B hSB (hnB h98 h109) hm9 (by omega) (by omega) (Or.inr (Int32.not_le.mp h125))) hnx); rfl)
              | (refine r_loc ?_ (ih (t + 1) (by omega) _ hf9 _ _ _ (SB_C hSB (hnB h98 h109) hm9 h114 h125) hnx); rfl)
          · refine r_iload (i := 4) hK dX10_say_112 rfl ?_
            refine r_if_lt (tgt := 128) hK dX10_say_114 (by decide) (fun h114 => ?_) (fun h114 => ?_)
            · refine r_bipush (v := 10) hK dX10_say_128 (by decide) ?_
              refine r_iload (i := 6) hK dX10_say_130 rfl ?_
              refine r_imul hK dX10_say_132 ?_
              refine r_top (y := nI (10 * p)) (pk_mul 10 _) ?_
              refine r_iload (i := 7) hK dX10_say_133 rfl ?_
              refine r_iadd hK dX10_say_135 ?_
              refine r_top (y := nI (10 * p + t)) (nI_add _ _) ?_
              refine r_istore (i := 4) hK hm dX10_say_136 (by decide) ?_
              refine r_aload_n (i := 0) hK dX10_say_138 rfl rfl ?_
              refine r_iload (i := 8) hK dX10_say_139 rfl ?_
              refine r_ci1 hK hnn (c_mLongOf hok ha (MR_36 (MR_pM hMP)) rfl hol) moX10_longOf mlX10_267 to_91 rfl rfl dX10_say_141 (Nat.le_of_ble_eq_true rfl) (Nat.le_of_ble_eq_true rfl) (eqI ?_)
              refine r_istore (i := 5) hK hm dX10_say_144 (by decide) ?_
              refine r_iincN (i := 7) hK hm dX10_say_146 rfl (by decide) ?_
              refine r_goto (tgt := 55) hK dX10_say_149 (by decide) ?_
              first
                | (refine r_loc ?_ (ih (t + 1) (by omega) _ hf9 _ _ _ (SB_A hSB (hnA (Or.inl h98))) hnx); rfl)
                | (refine r_loc ?_ (ih (t + 1) (by omega) _ hf9 _ _ _ (SB_A hSB (hnA (Or.inr h109))) hnx); rfl)
                | (refine r_loc ?_ (ih (t + 1) (by omega) _ hf9 _ _ _ (SB_B hSB (hnB h98 h109) hm9 (by omega) (by omega) (Or.inl h114)) hnx); rfl)
                | (refine r_loc ?_ (ih (t + 1) (by omega) _ hf9 _ _ _ (SB_B hSB (hnB h98 h109) hm9 (by omega) (by omega) (Or.inr (Int32.not_le.mp h125))) hnx); rfl)
                | (refine r_loc ?_ (ih (t + 1) (by omega) _ hf9 _ _ _ (SB_C hSB (hnB h98 h109) hm9 h114 h125) hnx); rfl)
            · refine r_aload_n (i := 0) hK dX10_say_117 rfl rfl ?_
              refine r_iload (i := 8) hK dX10_say_118 rfl ?_
              refine r_ci1 hK hnn (c_mLongOf hok ha (MR_36 (MR_pM hMP)) rfl hol) moX10_longOf mlX10_267 to_91 rfl rfl dX10_say_120 (Nat.le_of_ble_eq_true rfl) (Nat.le_of_ble_eq_true rfl) (eqI ?_)
              refine r_iload (i := 5) hK dX10_say_123 rfl ?_
              refine r_icmp_ge (tgt := 146) hK dX10_say_125 (by decide) (fun h125 => ?_) (fun h125 => ?_)
              · refine r_iincN (i := 7) hK hm dX10_say_146 rfl (by decide) ?_
                refine r_goto (tgt := 55) hK dX10_say_149 (by decide) ?_
                first
                  | (refine r_loc ?_ (ih (t + 1) (by omega) _ hf9 _ _ _ (SB_A hSB (hnA (Or.inl h98))) hnx); rfl)
                  | (refine r_loc ?_ (ih (t + 1) (by omega) _ hf9 _ _ _ (SB_A hSB (hnA (Or.inr h109))) hnx); rfl)
                  | (refine r_loc ?_ (ih (t + 1) (by omega) _ hf9 _ _ _ (SB_B hSB (hnB h98 h109) hm9 (by omega) (by omega) (Or.inl h114)) hnx); rfl)
                  | (refine r_loc ?_ (ih (t + 1) (by omega) _ hf9 _ _ _ (SB_B hSB (hnB h98 h109) hm9 (by omega) (by omega) (Or.inr (Int32.not_le.mp h125))) hnx); rfl)
                  | (refine r_loc ?_ (ih (t + 1) (by omega) _ hf9 _ _ _ (SB_C hSB (hnB h98 h109) hm9 h114 h125) hnx); rfl)
              · refine r_bipush (v := 10) hK dX10_say_128 (by decide) ?_
                refine r_iload (i := 6) hK dX10_say_130 rfl ?_
                refine r_imul hK dX10_say_132 ?_
                refine r_top (y := nI (10 * p)) (pk_mul 10 _) ?_
                refine r_iload (i := 7) hK dX10_say_133 rfl ?_
                refine r_iadd hK dX10_say_135 ?_
                refine r_top (y := nI (10 * p + t)) (nI_add _ _) ?_
                refine r_istore (i := 4) hK hm dX10_say_136 (by decide) ?_
                refine r_aload_n (i := 0) hK dX10_say_138 rfl rfl ?_
                refine r_iload (i := 8) hK dX10_say_139 rfl ?_
                refine r_ci1 hK hnn (c_mLongOf hok ha (MR_36 (MR_pM hMP)) rfl hol) moX10_longOf mlX10_267 to_91 rfl rfl dX10_say_141 (Nat.le_of_ble_eq_true rfl) (Nat.le_of_ble_eq_true rfl) (eqI ?_)
                refine r_istore (i := 5) hK hm dX10_say_144 (by decide) ?_
                refine r_iincN (i := 7) hK hm dX10_say_146 rfl (by decide) ?_
                refine r_goto (tgt := 55) hK dX10_say_149 (by decide) ?_
                first
                  | (refine r_loc ?_ (ih (t + 1) (by omega) _ hf9 _ _ _ (SB_A hSB (hnA (Or.inl h98))) hnx); rfl)
                  | (refine r_loc ?_ (ih (t + 1) (by omega) _ hf9 _ _ _ (SB_A hSB (hnA (Or.inr h109))) hnx); rfl)
                  | (refine r_loc ?_ (ih (t + 1) (by omega) _ hf9 _ _ _ (SB_B hSB (hnB h98 h109) hm9 (by omega) (by omega) (Or.inl h114)) hnx); rfl)
                  | (refine r_loc ?_ (ih (t + 1) (by omega) _ hf9 _ _ _ (SB_B hSB (hnB h98 h109) hm9 (by omega) (by omega) (Or.inr (Int32.not_le.mp h125))) hnx); rfl)
                  | (refine r_loc ?_ (ih (t + 1) (by omega) _ hf9 _ _ _ (SB_C hSB (hnB h98 h109) hm9 h114 h125) hnx); rfl)
set_option maxHeartbeats 4000000 in
set_option maxRecDepth 100000 in
theorem lm_sO {K : KT} {ad : Nat → Nat} {g : St} {X : LN} (hX : MC g X) {w a : Nat} {x : Int32} (hw : w < 2 ^ 31) (ha : a < X.1) (hK : Cx K RX10 cX10_say 5 ad) (hm : K.2.2.1.2.maxLocals = 9) (hnn : Nn K 0 0) {R : BT}
    (h158 : ∀ g1 best least, FM g g1 → SB best least R → Wp K 0 0 TT ad g1 158 [(3, .int x), (4, .int best), (5, .int least)] []) :
    ∀ m p, p + m = X.2.2.1.1 → ∀ g1, FM g g1 → ∀ (best least : Int32) (B : BT), SB best least B → svO X w a m p B = R → Wp K 0 0 TT ad g1 43 [(0, .ref 91), (1, .int (nI a)), (2, .int (nI w)), (3, .int x), (4, .int best), (5, .int least), (6, .int (nI p))] [] := by
  obtain ⟨hok, hpo, hlaw, x1, hW, hPs, x4⟩ := id hX
  have h10 := hok.2.1
  have h6 := hpo.1
  have h14 := hok.1
  intro m
  induction m with
  | zero =>
    intro p hpm g1 hfr best least B hSB hnx
    have e : p = X.2.2.1.1 := by omega
    subst e
    have hB : B = R := hnx
    subst hB
    refine r_iload (i := 6) hK dX10_say_43 rfl ?_
    refine r_aload_n (i := 0) hK dX10_say_45 rfl rfl ?_
    refine r_getI hK flX10_131 to_91 rfl dX10_say_46 ?_
    refine r_top (y := nI X.2.2.1.1) ((hfr.2.1 5 rfl).trans hPs.1) ?_
    refine r_icmp_ge (tgt := 158) hK dX10_say_49 (by decide) (fun _ => ?_) (fun h => absurd (nI_le (Nat.le_refl _) (by omega)) h)
    refine r_loc ?_ (h158 g1 best least hfr hSB)
    rfl
  | succ m ih =>
    intro p hpm g1 hfr best least B hSB hnx
    have hp : p < X.2.2.1.1 := by omega
    rw [svO_succ] at hnx
    have h152 : ∀ g2 best2 least2, FM g g2 → SB best2 least2 (svI X w a p X.1 0 B) → Wp K 0 0 TT ad g2 152 [(0, .ref 91), (1, .int (nI a)), (2, .int (nI w)), (3, .int x), (4, .int best2), (5, .int least2), (6, .int (nI p))] [] := by
      intro g2 best2 least2 hf2 hSB2
      refine r_iincN (i := 6) hK hm dX10_say_152 rfl (by decide) ?_
      refine r_goto (tgt := 43) hK dX10_say_155 (by decide) ?_
      refine r_loc ?_ (ih (p + 1) (by omega) g2 hf2 best2 least2 _ hSB2 hnx)
      rfl
    refine r_iload (i := 6) hK dX10_say_43 rfl ?_
    refine r_aload_n (i := 0) hK dX10_say_45 rfl rfl ?_
    refine r_getI hK flX10_131 to_91 rfl dX10_say_46 ?_
    refine r_top (y := nI X.2.2.1.1) ((hfr.2.1 5 rfl).trans hPs.1) ?_
    refine r_icmp_ge (tgt := 158) hK dX10_say_49 (by decide) (fun h => absurd h (nI_ge hp (by omega))) (fun _ => ?_)
    refine r_iconst (v := 0) hK dX10_say_52 (by decide) ?_
    refine r_istore (i := 7) hK hm dX10_say_53 (by decide) ?_
    refine r_loc ?_ (lm_sy hX hw ha hp hK hm hnn h152 X.1 0 (by omega) g1 hfr best least B hSB rfl)
    rfl
set_option maxHeartbeats 4000000 in
set_option maxRecDepth 100000 in
theorem c_mSay {ad : Nat → Nat} {g : St} {X : LN} (hX : MC g X) {a w x : Int32} : Ci 5 mX10_say [.ref 91, .int a, .int w, .int x] ad g (fun v g' => v = aSy X a w x ∧ FM g g') := by
  obtain ⟨hok, hpo, hlaw, x1, hW, hPs, x4⟩ := id hX
  have h10 := hok.2.1
  have h6 := hpo.1
  have h14 := hok.1
  refine Cm.mk rfl (Nat.le_of_ble_eq_true rfl) (fun K hK hR hm hnn => ?_)
  refine r_aload_n (i := 0) hK dX10_say_0 rfl rfl ?_
  refine r_iload_n (i := 1) hK dX10_say_1 rfl rfl ?_
  refine r_ci1 hK hnn (c_misPlace x1 (by omega)) moX10_isPlace mlX10_256 to_91 rfl rfl dX10_say_2 (Nat.le_of_ble_eq_true rfl) (Nat.le_of_ble_eq_true rfl) (eqI ?_)
  refine r_if_eq (tgt := 16) hK dX10_say_5 (by decide) (fun h5 => ?_) (fun h5 => ?_)
  · refine r_ldc hK ckX10_242 dX10_say_16 ?_
    refine q_iret hK hR dX10_say_18 ?_
    refine ⟨?_, FM.rf⟩
    unfold aSy
    first
      | (rw [if_neg (by rw [B1_0.mp h5]; simp)]; done)
      | (rw [if_neg (by rw [B1_0.mp h13]; simp)]; done)
  · refine r_aload_n (i := 0) hK dX10_say_8 rfl rfl ?_
    refine r_iload_n (i := 2) hK dX10_say_9 rfl rfl ?_
    refine r_ci1 hK hnn (c_misPlace x1 (by omega)) moX10_isPlace mlX10_256 to_91 rfl rfl dX10_say_10 (Nat.le_of_ble_eq_true rfl) (Nat.le_of_ble_eq_true rfl) (eqI ?_)
    refine r_if_ne (tgt := 19) hK dX10_say_13 (by decide) (fun h13 => ?_) (fun h13 => ?_)
    · refine r_iload_n (i := 3) hK dX10_say_19 rfl rfl ?_
      refine r_i2l hK dX10_say_20 ?_
      refine r_lconst (v := 0) hK dX10_say_21 (by decide) ?_
      refine r_ldc2 hK ckX10_312 dX10_say_22 ?_
      refine r_si3 hK hnn c_mIn moX10_in mlX10_124 dX10_say_25 (Nat.le_of_ble_eq_true rfl) (Nat.le_of_ble_eq_true rfl) (eqI ?_)
      refine r_top (y := B1 (bI x 0 2)) (congrArg B1 (inL_b (lI := 0) (hI := 2) rfl rfl)) ?_
      refine r_if_ne (tgt := 34) hK dX10_say_28 (by decide) (fun h28 => ?_) (fun h28 => ?_)
      · refine r_iconst (v := (-1)) hK dX10_say_34 (by decide) ?_
        have hb1 := B1_n.mp h5
        have hb2 := B1_n.mp h13
        have hbb : (isB a X.1 && isB w X.1) = true := by rw [hb1, hb2]; rfl
        have hor := bI_t.mp (B1_n.mp h28)
        obtain ⟨ha1, ha2⟩ := isB_cl (by omega) hb1
        obtain ⟨hw1, hw2⟩ := isB_cl (by omega) hb2
        refine r_istore (i := 4) hK hm dX10_say_35 (by decide) ?_
        refine r_iconst (v := 0) hK dX10_say_37 (by decide) ?_
        refine r_istore (i := 5) hK hm dX10_say_38 (by decide) ?_
        refine r_iconst (v := 0) hK dX10_say_40 (by decide) ?_
        refine r_istore (i := 6) hK hm dX10_say_41 (by decide) ?_
        have h158 : ∀ g2 best2 least2, FM g g2 → SB best2 least2 (svR X (nC a) (nC w)) → Wp K 0 0 TT ad g2 158 [(3, .int x), (4, .int best2), (5, .int least2)] [] := by
          intro g2 best2 least2 hf2 hSB2
          refine r_iload (i := 4) hK dX10_say_158 rfl ?_
          refine r_if_ge (tgt := 167) hK dX10_say_160 (by decide) (fun h160 => ?_) (fun h160 => ?_)
          · refine r_iload_n (i := 3) hK dX10_say_167 rfl rfl ?_
            refine r_if_ne (tgt := 179) hK dX10_say_168 (by decide) (fun h168 => ?_) (fun h168 => ?_)
            · refine r_iload_n (i := 3) hK dX10_say_179 rfl rfl ?_
              refine r_iconst (v := 1) hK dX10_say_180 (by decide) ?_
              refine r_icmp_ne (tgt := 192) hK dX10_say_181 (by decide) (fun h181 => ?_) (fun h181 => ?_)
              · refine r_iload (i := 5) hK dX10_say_192 rfl ?_
                refine q_iret hK hR dX10_say_194 ?_
                refine ⟨?_, hf2⟩
                unfold aSy
                rw [if_pos hbb, if_neg hor]
                rcases hSB2 with ⟨s1, s2⟩ | ⟨q, u, mq, q1, q2, q3, q4, q5, q6⟩
                · rw [s2]
                  first
                    | (split; rfl; split; rfl; rfl)
                    | (exact absurd h160 (by rw [s1]; decide))
                · rw [q6]
                  first
                    | (exact absurd (by rw [q4]; exact nI_pos' (by omega)) h160)
                    | (rw [if_pos h168, q4]; exact (pk_div (a := 10 * q + u) (d := 10) (by omega) (by decide) (by decide)).trans (congrArg nI (by omega)))
                    | (rw [if_neg h168, if_pos h181, q4]; exact (pk_rem (a := 10 * q + u) (d := 10) (by omega) (by decide) (by decide)).trans (congrArg nI (by omega)))
                    | (rw [if_neg h168, if_neg h181]; exact q5)
              · refine r_iload (i := 4) hK dX10_say_184 rfl ?_
                refine r_bipush (v := 10) hK dX10_say_186 (by decide) ?_
                refine r_irem hK dX10_say_188 (by decide) ?_
                refine r_goto (tgt := 194) hK dX10_say_189 (by decide) ?_
                refine q_iret hK hR dX10_say_194 ?_
                refine ⟨?_, hf2⟩
                unfold aSy
                rw [if_pos hbb, if_neg hor]
                rcases hSB2 with ⟨s1, s2⟩ | ⟨q, u, mq, q1, q2, q3, q4, q5, q6⟩
                · rw [s2]
                  first
                    | (split; rfl; split; rfl; rfl)
                    | (exact absurd h160 (by rw [s1]; decide))
                · rw [q6]
                  first
                    | (exact absurd (by rw [q4]; exact nI_pos' (by omega)) h160)
                    | (rw [if_pos h168, q4]; exact (pk_div (a := 10 * q + u) (d := 10) (by omega) (by decide) (by decide)).trans (congrArg nI (by omega)))
                    | (rw [if_neg h168, if_pos h181, q4]; exact (pk_rem (a := 10 * q + u) (d := 10) (by omega) (by decide) (by decide)).trans (congrArg nI (by omega)))
                    | (rw [if_neg h168, if_neg h181]; exact q5)
            · refine r_iload (i := 4) hK dX10_say_171 rfl ?_
              refine r_bipush (v := 10) hK dX10_say_173 (by decide) ?_
              refine r_idiv hK dX10_say_175 (by decide) ?_
              refine r_goto (tgt := 194) hK dX10_say_176 (by decide) ?_
              refine q_iret hK hR dX10_say_194 ?_
              refine ⟨?_, hf2⟩
              unfold aSy
              rw [if_pos hbb, if_neg hor]
              rcases hSB2 with ⟨s1, s2⟩ | ⟨q, u, mq, q1, q2, q3, q4, q5, q6⟩
              · rw [s2]
                first
                  | (split; rfl; split; rfl; rfl)
                  | (exact absurd h160 (by rw [s1]; decide))
              · rw [q6]
                first
                  | (exact absurd (by rw [q4]; exact nI_pos' (by omega)) h160)
                  | (rw [if_pos h168, q4]; exact (pk_div (a := 10 * q + u) (d := 10) (by omega) (by decide) (by decide)).trans (congrArg nI (by omega)))
                  | (rw [if_neg h168, if_pos h181, q4]; exact (pk_rem (a := 10 * q + u) (d := 10) (by omega) (by decide) (by decide)).trans (congrArg nI (by omega)))
                  | (rw [if_neg h168, if_neg h181]; exact q5)
          · refine r_iconst (v := (-1)) hK dX10_say_163 (by decide) ?_
            refine r_goto (tgt := 194) hK dX10_say_164 (by decide) ?_
            refine q_iret hK hR dX10_say_194 ?_
            refine ⟨?_, hf2⟩
            unfold aSy
            rw [if_pos hbb, if_neg hor]
            rcases hSB2 with ⟨s1, s2⟩ | ⟨q, u, mq, q1, q2, q3, q4, q5, q6⟩
            · rw [s2]
              first
                | (split; rfl; split; rfl; rfl)
                | (exact absurd h160 (by rw [s1]; decide))
            · rw [q6]
              first
                | (exact absurd (by rw [q4]; exact nI_pos' (by omega)) h160)
                | (rw [if_pos h168, q4]; exact (pk_div (a := 10 * q + u) (d := 10) (by omega) (by decide) (by decide)).trans (congrArg nI (by omega)))
                | (rw [if_neg h168, if_pos h181, q4]; exact (pk_rem (a := 10 * q + u) (d := 10) (by omega) (by decide) (by decide)).trans (congrArg nI (by omega)))
                | (rw [if_neg h168, if_neg h181]; exact q5)
        refine r_loc ?_ (lm_sO hX (Nat.lt_of_lt_of_le hw1 (by omega)) ha1 hK hm hnn h158 X.2.2.1.1 0 (by omega) g FM.rf (-1) 0 (-1, -1, -1) (Or.inl ⟨rfl, rfl⟩) rfl)
        simp only [List.map_cons, List.map_nil]
        rw [← ha2, ← hw2]
        rfl
      · refine r_ldc hK ckX10_136 dX10_say_31 ?_
        refine q_iret hK hR dX10_say_33 ?_
        refine ⟨?_, FM.rf⟩
        unfold aSy
        rw [if_pos (by rw [B1_n.mp h5, B1_n.mp h13]; rfl), if_pos (bI_f.mp (B1_0.mp h28))]
    · refine r_ldc hK ckX10_242 dX10_say_16 ?_
      refine q_iret hK hR dX10_say_18 ?_
      refine ⟨?_, FM.rf⟩
      unfold aSy
      first
        | (rw [if_neg (by rw [B1_0.mp h5]; simp)]; done)
        | (rw [if_neg (by rw [B1_0.mp h13]; simp)]; done)
