/-! SAY: the dearest to be led -/
abbrev BT : Type := Int32 × Int32 × Int32
def svN (X : LN) (w a p t : Nat) : Int32 := if X.2.2.1.2.1 p = a ∧ t ≠ a then mlV X w p a t else -1
def svS (X : LN) (w a p t : Nat) (B : BT) : BT := if svN X w a p t = -1 then B else if B.2.2 = -1 ∨ svN X w a p t < B.2.2 then (nI p, nI t, svN X w a p t) else B
theorem svS_b {X : LN} {w a p t : Nat} {B : BT} (h : ¬ svN X w a p t = -1) (h2 : B.2.2 = -1) : svS X w a p t B = (nI p, nI t, svN X w a p t) := by unfold svS; rw [if_neg h, if_pos (Or.inl h2)]
theorem svS_c {X : LN} {w a p t : Nat} {B : BT} (h : ¬ svN X w a p t = -1) (h2 : ¬ B.2.2 ≤ svN X w a p t) : svS X w a p t B = (nI p, nI t, svN X w a p t) := by unfold svS; rw [if_neg h, if_pos (Or.inr (Int32.not_le.mp h2))]
theorem svS_d {X : LN} {w a p t : Nat} {B : BT} (h : ¬ svN X w a p t = -1) (h1 : ¬ B.2.2 = -1) (h2 : B.2.2 ≤ svN X w a p t) : svS X w a p t B = B := by unfold svS; rw [if_neg h, if_neg (fun z => z.elim h1 (fun y => absurd h2 (Int32.not_le.mpr y)))]
def svI (X : LN) (w a p : Nat) : Nat → Nat → BT → BT
  | 0, _, B => B
  | m + 1, t, B => svI X w a p m (t + 1) (svS X w a p t B)
theorem svI_succ (X : LN) (w a p m t : Nat) (B : BT) : svI X w a p (m + 1) t B = svI X w a p m (t + 1) (svS X w a p t B) := rfl
def svO (X : LN) (w a : Nat) : Nat → Nat → BT → BT
  | 0, _, B => B
  | m + 1, p, B => svO X w a m (p + 1) (svI X w a p X.1 0 B)
theorem svO_succ (X : LN) (w a m p : Nat) (B : BT) : svO X w a (m + 1) p B = svO X w a m (p + 1) (svI X w a p X.1 0 B) := rfl
def svR (X : LN) (a w : Nat) : BT := svO X w a X.2.2.1.1 0 (-1, -1, -1)
def aSy (X : LN) (a w x : Int32) : Int32 := if (isB a X.1 && isB w X.1) = true then (if x < 0 ∨ 2 < x then OUT else if x = 0 then (svR X (nC a) (nC w)).1 else if x = 1 then (svR X (nC a) (nC w)).2.1 else (svR X (nC a) (nC w)).2.2) else UNK

set_option maxHeartbeats 4000000 in
set_option maxRecDepth 100000 in
theorem l_sI {K : KT} {ad : Nat → Nat} {g : St} {X : LN} (hX : LC g X) {w a p : Nat} {x : Int32} (hw : w < 2 ^ 31) (ha : a < X.1) (hp : p < X.2.2.1.1) (hK : Cx K RX9 cX9_say 7 ad) (hm : K.2.2.1.2.maxLocals = 10) (hnn : Nn K 0 0) {R : BT}
    (hk : ∀ g2, Fr g g2 → Wp K 0 0 TT ad g2 151 [(0, .ref 0), (1, .int (nI a)), (2, .int (nI w)), (3, .int x), (4, .int R.1), (5, .int R.2.1), (6, .int R.2.2), (7, .int (nI p))] []) :
    ∀ m t, t + m = X.1 → ∀ (B : BT) (g1 : St), Fr g g1 → svI X w a p m t B = R → Wp K 0 0 TT ad g1 64 [(0, .ref 0), (1, .int (nI a)), (2, .int (nI w)), (3, .int x), (4, .int B.1), (5, .int B.2.1), (6, .int B.2.2), (7, .int (nI p)), (8, .int (nI t))] [] := by
  intro m
  induction m with
  | zero =>
    intro t htm B g1 hfr hnx
    obtain ⟨hok, hpo, hlaw, x1, hW, hPs, x4⟩ := LC_of hX hfr
    have h10 := hok.2.1
    refine r_iload (i := 8) hK dX9_say_64 rfl ?_
    refine r_aload_n (i := 0) hK dX9_say_66 rfl rfl ?_
    refine r_getA hK flX9_26 to_0 rfl dX9_say_67 ?_
    refine r_getI hK flX9_104 to_13 rfl dX9_say_70 ?_
    refine r_top (y := nI X.1) x1 ?_
    refine r_icmp_ge (tgt := 151) hK dX9_say_73 (by decide) (fun _ => ?_) (fun h => absurd (nI_le (by omega) (by omega)) h)
    have hB : B = R := hnx
    rw [hB]
    refine r_loc ?_ (hk g1 hfr)
    rfl
  | succ m ih =>
    intro t htm B g1 hfr hnx
    have hX1 := LC_of hX hfr
    obtain ⟨hok, hpo, hlaw, x1, hW, hPs, x4⟩ := id hX1
    have h10 := hok.2.1
    have h6 := hpo.1
    have ht : t < X.1 := by omega
    have hp1 := (hpo.2 _ hp).1
    rw [svI_succ] at hnx
    have h112 : ∀ g2 : St, Fr g g2 → Wp K 0 0 TT ad g2 112 [(0, .ref 0), (1, .int (nI a)), (2, .int (nI w)), (3, .int x), (4, .int B.1), (5, .int B.2.1), (6, .int B.2.2), (7, .int (nI p)), (8, .int (nI t))] [.int (svN X w a p t)] := by
      intro g2 hf2
      refine r_istore (i := 9) hK hm dX9_say_112 (by decide) ?_
      refine r_iload (i := 9) hK dX9_say_114 rfl ?_
      refine r_iconst (v := (-1)) hK dX9_say_116 (by decide) ?_
      refine r_icmp_eq (tgt := 145) hK dX9_say_117 (by decide) (fun h117 => ?_) (fun h117 => ?_)
      · refine r_iincN (i := 8) hK hm dX9_say_145 rfl (by decide) ?_
        refine r_goto (tgt := 64) hK dX9_say_148 (by decide) ?_
        first
          | (have e : svS X w a p t B = B := if_pos h117; rw [e] at hnx; refine r_loc ?_ (ih (t + 1) (by omega) _ g2 hf2 hnx); rfl)
          | (have e : svS X w a p t B = (nI p, nI t, svN X w a p t) := svS_b h117 h123; rw [e] at hnx; refine r_loc ?_ (ih (t + 1) (by omega) _ g2 hf2 hnx); rfl)
          | (have e : svS X w a p t B = (nI p, nI t, svN X w a p t) := svS_c h117 h130; rw [e] at hnx; refine r_loc ?_ (ih (t + 1) (by omega) _ g2 hf2 hnx); rfl)
          | (have e : svS X w a p t B = B := svS_d h117 h123 h130; rw [e] at hnx; refine r_loc ?_ (ih (t + 1) (by omega) _ g2 hf2 hnx); rfl)
      · refine r_iload (i := 6) hK dX9_say_120 rfl ?_
        refine r_iconst (v := (-1)) hK dX9_say_122 (by decide) ?_
        refine r_icmp_eq (tgt := 133) hK dX9_say_123 (by decide) (fun h123 => ?_) (fun h123 => ?_)
        · refine r_iload (i := 7) hK dX9_say_133 rfl ?_
          refine r_istore (i := 4) hK hm dX9_say_135 (by decide) ?_
          refine r_iload (i := 8) hK dX9_say_137 rfl ?_
          refine r_istore (i := 5) hK hm dX9_say_139 (by decide) ?_
          refine r_iload (i := 9) hK dX9_say_141 rfl ?_
          refine r_istore (i := 6) hK hm dX9_say_143 (by decide) ?_
          refine r_iincN (i := 8) hK hm dX9_say_145 rfl (by decide) ?_
          refine r_goto (tgt := 64) hK dX9_say_148 (by decide) ?_
          first
            | (have e : svS X w a p t B = B := if_pos h117; rw [e] at hnx; refine r_loc ?_ (ih (t + 1) (by omega) _ g2 hf2 hnx); rfl)
            | (have e : svS X w a p t B = (nI p, nI t, svN X w a p t) := svS_b h117 h123; rw [e] at hnx; refine r_loc ?_ (ih (t + 1) (by omega) _ g2 hf2 hnx); rfl)
            | (have e : svS X w a p t B = (nI p, nI t, svN X w a p t) := svS_c h117 h130; rw [e] at hnx; refine r_loc ?_ (ih (t + 1) (by omega) _ g2 hf2 hnx); rfl)
            | (have e : svS X w a p t B = B := svS_d h117 h123 h130; rw [e] at hnx; refine r_loc ?_ (ih (t + 1) (by omega) _ g2 hf2 hnx); rfl)
        · refine r_iload (i := 9) hK dX9_say_126 rfl ?_
          refine r_iload (i := 6) hK dX9_say_128 rfl ?_
          refine r_icmp_ge (tgt := 145) hK dX9_say_130 (by decide) (fun h130 => ?_) (fun h130 => ?_)
          · refine r_iincN (i := 8) hK hm dX9_say_145 rfl (by decide) ?_
            refine r_goto (tgt := 64) hK dX9_say_148 (by decide) ?_
            first
              | (have e : svS X w a p t B = B := if_pos h117; rw [e] at hnx; refine r_loc ?_ (ih (t + 1) (by omega) _ g2 hf2 hnx); rfl)
              | (have e : svS X w a p t B = (nI p, nI t, svN X w a p t) := svS_b h117 h123; rw [e] at hnx; refine r_loc ?_ (ih (t + 1) (by omega) _ g2 hf2 hnx); rfl)
              | (have e : svS X w a p t B = (nI p, nI t, svN X w a p t) := svS_c h117 h130; rw [e] at hnx; refine r_loc ?_ (ih (t + 1) (by omega) _ g2 hf2 hnx); rfl)
              | (have e : svS X w a p t B = B := svS_d h117 h123 h130; rw [e] at hnx; refine r_loc ?_ (ih (t + 1) (by omega) _ g2 hf2 hnx); rfl)
          · refine r_iload (i := 7) hK dX9_say_133 rfl ?_
            refine r_istore (i := 4) hK hm dX9_say_135 (by decide) ?_
            refine r_iload (i := 8) hK dX9_say_137 rfl ?_
            refine r_istore (i := 5) hK hm dX9_say_139 (by decide) ?_
            refine r_iload (i := 9) hK dX9_say_141 rfl ?_
            refine r_istore (i := 6) hK hm dX9_say_143 (by decide) ?_
            refine r_iincN (i := 8) hK hm dX9_say_145 rfl (by decide) ?_
            refine r_goto (tgt := 64) hK dX9_say_148 (by decide) ?_
            first
              | (have e : svS X w a p t B = B := if_pos h117; rw [e] at hnx; refine r_loc ?_ (ih (t + 1) (by omega) _ g2 hf2 hnx); rfl)
              | (have e : svS X w a p t B = (nI p, nI t, svN X w a p t) := svS_b h117 h123; rw [e] at hnx; refine r_loc ?_ (ih (t + 1) (by omega) _ g2 hf2 hnx); rfl)
              | (have e : svS X w a p t B = (nI p, nI t, svN X w a p t) := svS_c h117 h130; rw [e] at hnx; refine r_loc ?_ (ih (t + 1) (by omega) _ g2 hf2 hnx); rfl)
              | (have e : svS X w a p t B = B := svS_d h117 h123 h130; rw [e] at hnx; refine r_loc ?_ (ih (t + 1) (by omega) _ g2 hf2 hnx); rfl)
    refine r_iload (i := 8) hK dX9_say_64 rfl ?_
    refine r_aload_n (i := 0) hK dX9_say_66 rfl rfl ?_
    refine r_getA hK flX9_26 to_0 rfl dX9_say_67 ?_
    refine r_getI hK flX9_104 to_13 rfl dX9_say_70 ?_
    refine r_top (y := nI X.1) x1 ?_
    refine r_icmp_ge (tgt := 151) hK dX9_say_73 (by decide) (fun h => absurd h (nI_ge ht (by omega))) (fun _ => ?_)
    refine r_aload_n (i := 0) hK dX9_say_76 rfl rfl ?_
    refine r_getA hK flX9_26 to_0 rfl dX9_say_77 ?_
    refine r_getA hK flX9_147 to_13 rfl dX9_say_80 ?_
    refine r_iload (i := 7) hK dX9_say_83 rfl ?_
    refine r_si2 hK hnn (c_atE to_17 (by decide) rfl (by omega) (hPs.2 _ hp).1) moX9_at mlX9_134 dX9_say_85 (Nat.le_of_ble_eq_true rfl) (Nat.le_of_ble_eq_true rfl) (eqI ?_)
    refine r_iload_n (i := 1) hK dX9_say_88 rfl rfl ?_
    refine r_icmp_ne (tgt := 111) hK dX9_say_89 (by decide) (fun h89 => ?_) (fun h89 => ?_)
    · refine r_iconst (v := (-1)) hK dX9_say_111 (by decide) ?_
      first
        | (refine r_top (y := svN X w a p t) ((if_neg (fun z => h89 (by rw [z.1]))).symm) ?_; refine r_loc ?_ (h112 _ hfr); rfl)
        | (refine r_top (y := svN X w a p t) ((if_neg (fun z => z.2 (nI_inj (by omega) (by omega) h95))).symm) ?_; refine r_loc ?_ (h112 _ hfr); rfl)
        | (refine r_top (y := svN X w a p t) ((if_pos ⟨nI_inj (by omega) (by omega) (Classical.not_not.mp h89), fun z => h95 (by rw [z])⟩).symm) ?_; refine r_loc ?_ (h112 _ (hfr.tr hfr2)); rfl)
        | (refine r_top (y := svN X w a p t) ((if_pos ⟨nI_inj (by omega) (by omega) h89, fun z => h95 (by rw [z])⟩).symm) ?_; refine r_loc ?_ (h112 _ (hfr.tr hfr2)); rfl)
    · refine r_iload (i := 8) hK dX9_say_92 rfl ?_
      refine r_iload_n (i := 1) hK dX9_say_94 rfl rfl ?_
      refine r_icmp_eq (tgt := 111) hK dX9_say_95 (by decide) (fun h95 => ?_) (fun h95 => ?_)
      · refine r_iconst (v := (-1)) hK dX9_say_111 (by decide) ?_
        first
          | (refine r_top (y := svN X w a p t) ((if_neg (fun z => h89 (by rw [z.1]))).symm) ?_; refine r_loc ?_ (h112 _ hfr); rfl)
          | (refine r_top (y := svN X w a p t) ((if_neg (fun z => z.2 (nI_inj (by omega) (by omega) h95))).symm) ?_; refine r_loc ?_ (h112 _ hfr); rfl)
          | (refine r_top (y := svN X w a p t) ((if_pos ⟨nI_inj (by omega) (by omega) (Classical.not_not.mp h89), fun z => h95 (by rw [z])⟩).symm) ?_; refine r_loc ?_ (h112 _ (hfr.tr hfr2)); rfl)
          | (refine r_top (y := svN X w a p t) ((if_pos ⟨nI_inj (by omega) (by omega) h89, fun z => h95 (by rw [z])⟩).symm) ?_; refine r_loc ?_ (h112 _ (hfr.tr hfr2)); rfl)
      · refine r_aload_n (i := 0) hK dX9_say_98 rfl rfl ?_
        refine r_iload_n (i := 2) hK dX9_say_99 rfl rfl ?_
        refine r_iload (i := 7) hK dX9_say_100 rfl ?_
        refine r_iload_n (i := 1) hK dX9_say_102 rfl rfl ?_
        refine r_iload (i := 8) hK dX9_say_103 rfl ?_
        refine r_ci4 hK hnn (c_minutesIfLedTo (w := w) hX1 hw hp ha ht) moX9_minutesIfLedTo mlX9_250 to_0 rfl rfl dX9_say_105 (Nat.le_of_ble_eq_true rfl) (Nat.le_of_ble_eq_true rfl) (fun v105 g105 q105 => ?_)
        obtain ⟨rfl, hfr2⟩ := q105
        refine r_goto (tgt := 112) hK dX9_say_108 (by decide) ?_
        first
          | (refine r_top (y := svN X w a p t) ((if_neg (fun z => h89 (by rw [z.1]))).symm) ?_; refine r_loc ?_ (h112 _ hfr); rfl)
          | (refine r_top (y := svN X w a p t) ((if_neg (fun z => z.2 (nI_inj (by omega) (by omega) h95))).symm) ?_; refine r_loc ?_ (h112 _ hfr); rfl)
          | (refine r_top (y := svN X w a p t) ((if_pos ⟨nI_inj (by omega) (by omega) (Classical.not_not.mp h89), fun z => h95 (by rw [z])⟩).symm) ?_; refine r_loc ?_ (h112 _ (hfr.tr hfr2)); rfl)
          | (refine r_top (y := svN X w a p t) ((if_pos ⟨nI_inj (by omega) (by omega) h89, fun z => h95 (by rw [z])⟩).symm) ?_; refine r_loc ?_ (h112 _ (hfr.tr hfr2)); rfl)
set_option maxHeartbeats 4000000 in
set_option maxRecDepth 100000 in
theorem l_sO {K : KT} {ad : Nat → Nat} {g : St} {X : LN} (hX : LC g X) {w a : Nat} {x : Int32} (hw : w < 2 ^ 31) (ha : a < X.1) (hK : Cx K RX9 cX9_say 7 ad) (hm : K.2.2.1.2.maxLocals = 10) (hnn : Nn K 0 0) {R : BT}
    (hk : ∀ g2, Fr g g2 → Wp K 0 0 TT ad g2 157 [(0, .ref 0), (1, .int (nI a)), (2, .int (nI w)), (3, .int x), (4, .int R.1), (5, .int R.2.1), (6, .int R.2.2)] []) :
    ∀ m p, p + m = X.2.2.1.1 → ∀ (B : BT) (g1 : St), Fr g g1 → svO X w a m p B = R → Wp K 0 0 TT ad g1 49 [(0, .ref 0), (1, .int (nI a)), (2, .int (nI w)), (3, .int x), (4, .int B.1), (5, .int B.2.1), (6, .int B.2.2), (7, .int (nI p))] [] := by
  intro m
  induction m with
  | zero =>
    intro p hpm B g1 hfr hnx
    obtain ⟨hok, hpo, hlaw, x1, hW, hPs, x4⟩ := LC_of hX hfr
    have h6 := hpo.1
    refine r_iload (i := 7) hK dX9_say_49 rfl ?_
    refine r_aload_n (i := 0) hK dX9_say_51 rfl rfl ?_
    refine r_getA hK flX9_26 to_0 rfl dX9_say_52 ?_
    refine r_getI hK flX9_113 to_13 rfl dX9_say_55 ?_
    refine r_top (y := nI X.2.2.1.1) hPs.1 ?_
    refine r_icmp_ge (tgt := 157) hK dX9_say_58 (by decide) (fun _ => ?_) (fun h => absurd (nI_le (by omega) (by omega)) h)
    have hB : B = R := hnx
    rw [hB]
    refine r_loc ?_ (hk g1 hfr)
    rfl
  | succ m ih =>
    intro p hpm B g1 hfr hnx
    have hX1 := LC_of hX hfr
    obtain ⟨hok, hpo, hlaw, x1, hW, hPs, x4⟩ := id hX1
    have h10 := hok.2.1
    have h6 := hpo.1
    have hp : p < X.2.2.1.1 := by omega
    rw [svO_succ] at hnx
    have h151 : ∀ g2 : St, Fr g g2 → Wp K 0 0 TT ad g2 151 [(0, .ref 0), (1, .int (nI a)), (2, .int (nI w)), (3, .int x), (4, .int (svI X w a p X.1 0 B).1), (5, .int (svI X w a p X.1 0 B).2.1), (6, .int (svI X w a p X.1 0 B).2.2), (7, .int (nI p))] [] := by
      intro g2 hf2
      refine r_iincN (i := 7) hK hm dX9_say_151 rfl (by decide) ?_
      refine r_goto (tgt := 49) hK dX9_say_154 (by decide) ?_
      refine r_loc ?_ (ih (p + 1) (by omega) (svI X w a p X.1 0 B) g2 hf2 hnx)
      rfl
    refine r_iload (i := 7) hK dX9_say_49 rfl ?_
    refine r_aload_n (i := 0) hK dX9_say_51 rfl rfl ?_
    refine r_getA hK flX9_26 to_0 rfl dX9_say_52 ?_
    refine r_getI hK flX9_113 to_13 rfl dX9_say_55 ?_
    refine r_top (y := nI X.2.2.1.1) hPs.1 ?_
    refine r_icmp_ge (tgt := 157) hK dX9_say_58 (by decide) (fun h => absurd h (nI_ge hp (by omega))) (fun _ => ?_)
    refine r_iconst (v := 0) hK dX9_say_61 (by decide) ?_
    refine r_istore (i := 8) hK hm dX9_say_62 (by decide) ?_
    refine r_loc ?_ (l_sI hX hw ha hp hK hm hnn h151 X.1 0 (by omega) B g1 hfr rfl)
    rfl
set_option maxHeartbeats 4000000 in
set_option maxRecDepth 100000 in
theorem c_say {ad : Nat → Nat} {g : St} {X : LN} (hX : LC g X) {a w x : Int32} : Ci 7 mX9_say [.ref 0, .int a, .int w, .int x] ad g (fun v g' => v = aSy X a w x ∧ Fr g g') := by
  obtain ⟨hok, hpo, hlaw, x1, hW, hPs, x4⟩ := id hX
  have h10 := hok.2.1
  have h6 := hpo.1
  have h14 := hok.1
  refine Cm.mk rfl (Nat.le_of_ble_eq_true rfl) (fun K hK hR hm hnn => ?_)
  refine r_aload_n (i := 0) hK dX9_say_0 rfl rfl ?_
  refine r_getA hK flX9_26 to_0 rfl dX9_say_1 ?_
  refine r_iload_n (i := 1) hK dX9_say_4 rfl rfl ?_
  refine r_ci1 hK hnn (c_hasPlace lp_13 x1) moX4_hasPlace mlX9_162 to_13 rfl rfl dX9_say_5 (Nat.le_of_ble_eq_true rfl) (Nat.le_of_ble_eq_true rfl) (eqI ?_)
  refine r_if_eq (tgt := 22) hK dX9_say_8 (by decide) (fun h8 => ?_) (fun h8 => ?_)
  · refine r_ldc hK ckX9_129 dX9_say_22 ?_
    refine q_iret hK hR dX9_say_24 ?_
    refine ⟨?_, Fr.rf⟩
    have hbf : ¬ (isB a X.1 && isB w X.1) = true := by first | (rw [B1_0.mp h8]; simp; done) | (rw [B1_0.mp h19]; simp; done)
    unfold aSy
    rw [if_neg hbf]
  · refine r_aload_n (i := 0) hK dX9_say_11 rfl rfl ?_
    refine r_getA hK flX9_26 to_0 rfl dX9_say_12 ?_
    refine r_iload_n (i := 2) hK dX9_say_15 rfl rfl ?_
    refine r_ci1 hK hnn (c_hasPlace lp_13 x1) moX4_hasPlace mlX9_162 to_13 rfl rfl dX9_say_16 (Nat.le_of_ble_eq_true rfl) (Nat.le_of_ble_eq_true rfl) (eqI ?_)
    refine r_if_ne (tgt := 25) hK dX9_say_19 (by decide) (fun h19 => ?_) (fun h19 => ?_)
    · refine r_iload_n (i := 3) hK dX9_say_25 rfl rfl ?_
      refine r_if_lt (tgt := 34) hK dX9_say_26 (by decide) (fun h26 => ?_) (fun h26 => ?_)
      · refine r_ldc hK ckX9_76 dX9_say_34 ?_
        refine q_iret hK hR dX9_say_36 ?_
        refine ⟨?_, Fr.rf⟩
        unfold aSy
        first
          | (rw [if_pos (by rw [B1_n.mp h8, B1_n.mp h19]; rfl), if_pos (Or.inl h26)]; done)
          | (rw [if_pos (by rw [B1_n.mp h8, B1_n.mp h19]; rfl), if_pos (Or.inr (Int32.not_le.mp h31))]; done)
      · refine r_iload_n (i := 3) hK dX9_say_29 rfl rfl ?_
        refine r_iconst (v := 2) hK dX9_say_30 (by decide) ?_
        refine r_icmp_le (tgt := 37) hK dX9_say_31 (by decide) (fun h31 => ?_) (fun h31 => ?_)
        · refine r_iconst (v := (-1)) hK dX9_say_37 (by decide) ?_
          have hb1 := B1_n.mp h8
          have hb2 := B1_n.mp h19
          have hbb : (isB a X.1 && isB w X.1) = true := by rw [hb1, hb2]; rfl
          obtain ⟨ha1, ha2⟩ := isB_cl (by omega) hb1
          obtain ⟨hw1, hw2⟩ := isB_cl (by omega) hb2
          have hor : ¬ (x < 0 ∨ 2 < x) := (fun z => z.elim h26 (fun y => absurd h31 (Int32.not_le.mpr y)))
          refine r_istore (i := 4) hK hm dX9_say_38 (by decide) ?_
          refine r_iconst (v := (-1)) hK dX9_say_40 (by decide) ?_
          refine r_istore (i := 5) hK hm dX9_say_41 (by decide) ?_
          refine r_iconst (v := (-1)) hK dX9_say_43 (by decide) ?_
          refine r_istore (i := 6) hK hm dX9_say_44 (by decide) ?_
          refine r_iconst (v := 0) hK dX9_say_46 (by decide) ?_
          refine r_istore (i := 7) hK hm dX9_say_47 (by decide) ?_
          have hk : ∀ g2, Fr g g2 → Wp K 0 0 TT ad g2 157 [(0, .ref 0), (1, .int (nI a.toNatClampNeg)), (2, .int (nI w.toNatClampNeg)), (3, .int x), (4, .int (svR X a.toNatClampNeg w.toNatClampNeg).1), (5, .int (svR X a.toNatClampNeg w.toNatClampNeg).2.1), (6, .int (svR X a.toNatClampNeg w.toNatClampNeg).2.2)] [] := by
            intro g2 hf2
            refine r_iload_n (i := 3) hK dX9_say_157 rfl rfl ?_
            refine r_if_ne (tgt := 166) hK dX9_say_158 (by decide) (fun h158 => ?_) (fun h158 => ?_)
            · refine r_iload_n (i := 3) hK dX9_say_166 rfl rfl ?_
              refine r_iconst (v := 1) hK dX9_say_167 (by decide) ?_
              refine r_icmp_ne (tgt := 176) hK dX9_say_168 (by decide) (fun h168 => ?_) (fun h168 => ?_)
              · refine r_iload (i := 6) hK dX9_say_176 rfl ?_
                refine q_iret hK hR dX9_say_178 ?_
                refine ⟨?_, hf2⟩
                unfold aSy
                first
                  | (rw [if_pos hbb, if_neg hor, if_pos (Classical.not_not.mp h158)]; try rfl; done)
                  | (rw [if_pos hbb, if_neg hor, if_pos h158]; try rfl; done)
                  | (rw [if_pos hbb, if_neg hor, if_neg h158, if_pos (Classical.not_not.mp h168)]; try rfl; done)
                  | (rw [if_pos hbb, if_neg hor, if_neg h158, if_pos h168]; try rfl; done)
                  | (rw [if_pos hbb, if_neg hor, if_neg h158, if_neg h168]; try rfl; done)
              · refine r_iload (i := 5) hK dX9_say_171 rfl ?_
                refine r_goto (tgt := 178) hK dX9_say_173 (by decide) ?_
                refine q_iret hK hR dX9_say_178 ?_
                refine ⟨?_, hf2⟩
                unfold aSy
                first
                  | (rw [if_pos hbb, if_neg hor, if_pos (Classical.not_not.mp h158)]; try rfl; done)
                  | (rw [if_pos hbb, if_neg hor, if_pos h158]; try rfl; done)
                  | (rw [if_pos hbb, if_neg hor, if_neg h158, if_pos (Classical.not_not.mp h168)]; try rfl; done)
                  | (rw [if_pos hbb, if_neg hor, if_neg h158, if_pos h168]; try rfl; done)
                  | (rw [if_pos hbb, if_neg hor, if_neg h158, if_neg h168]; try rfl; done)
            · refine r_iload (i := 4) hK dX9_say_161 rfl ?_
              refine r_goto (tgt := 178) hK dX9_say_163 (by decide) ?_
              refine q_iret hK hR dX9_say_178 ?_
              refine ⟨?_, hf2⟩
              unfold aSy
              first
                | (rw [if_pos hbb, if_neg hor, if_pos (Classical.not_not.mp h158)]; try rfl; done)
                | (rw [if_pos hbb, if_neg hor, if_pos h158]; try rfl; done)
                | (rw [if_pos hbb, if_neg hor, if_neg h158, if_pos (Classical.not_not.mp h168)]; try rfl; done)
                | (rw [if_pos hbb, if_neg hor, if_neg h158, if_pos h168]; try rfl; done)
                | (rw [if_pos hbb, if_neg hor, if_neg h158, if_neg h168]; try rfl; done)
          refine r_loc ?_ (l_sO hX (by omega) ha1 hK hm hnn hk X.2.2.1.1 0 (by omega) (-1, -1, -1) g Fr.rf rfl)
          simp only [List.map_cons, List.map_nil]
          rw [← ha2, ← hw2]
          rfl
        · refine r_ldc hK ckX9_76 dX9_say_34 ?_
          refine q_iret hK hR dX9_say_36 ?_
          refine ⟨?_, Fr.rf⟩
          unfold aSy
          first
            | (rw [if_pos (by rw [B1_n.mp h8, B1_n.mp h19]; rfl), if_pos (Or.inl h26)]; done)
            | (rw [if_pos (by rw [B1_n.mp h8, B1_n.mp h19]; rfl), if_pos (Or.inr (Int32.not_le.mp h31))]; done)
    · refine r_ldc hK ckX9_129 dX9_say_22 ?_
      refine q_iret hK hR dX9_say_24 ?_
      refine ⟨?_, Fr.rf⟩
      have hbf : ¬ (isB a X.1 && isB w X.1) = true := by first | (rw [B1_0.mp h8]; simp; done) | (rw [B1_0.mp h19]; simp; done)
      unfold aSy
      rw [if_neg hbf]
