/-! DRIFT -/
theorem LC_lo {g g' : St} {X : LN} (h : LC g X) (hf : ∀ j, j ≤ 21 → g'.1 j = g.1 j) : LC g' X := by
  obtain ⟨h1, h2, h3, h4, h5, h6, h7⟩ := h
  exact ⟨h1, h2, h3, by rw [hf 13 (by omega)]; exact h4, WyC_of h5 hf, PsC_of h6 hf, by rw [hf 0 (by omega)]; exact h7⟩
/-- what a drift leaves as it was, and the seed after it -/
def FrD (g : St) (s : Nat) (g' : St) : Prop := (∀ j, (j ≤ 21 ∨ 76 < j) → g'.1 j = g.1 j) ∧ (∀ j, (j ≤ 21 ∨ 76 < j) → g'.2 j = g.2 j) ∧ g'.1 76 0 = nI s
abbrev DS : Type := Nat × Nat × Nat
def drA (X : LN) (s : Nat) : Nat := sdN s / 65536 % X.1
def drT (X : LN) (s : Nat) : Nat := sdN (sdN s) / 65536 % X.1
def drL (X : LN) (s : Nat) : LSt := ldF X.2.2.1 (vX X (drT X s) false) (drT X s) true 6 (0, drA X s, 0, 0, sdN (sdN s))
def drQ (S : LSt) (t : Nat) (A : DS) : DS := if S.2.1 = t then (A.1 + 1, A.2.1 + S.2.2.1, S.2.2.2.2) else (A.1, A.2.1, S.2.2.2.2)
theorem drQ_s (S : LSt) (t : Nat) (A : DS) : (drQ S t A).2.2 = S.2.2.2.2 := by unfold drQ; split <;> rfl
theorem drQ_p {S : LSt} {t : Nat} {A : DS} (h : S.2.1 = t) : drQ S t A = (A.1 + 1, A.2.1 + S.2.2.1, S.2.2.2.2) := if_pos h
theorem drQ_n {S : LSt} {t : Nat} {A : DS} (h : ¬ S.2.1 = t) : drQ S t A = (A.1, A.2.1, S.2.2.2.2) := if_neg h
def drS (X : LN) (A : DS) : DS := drQ (drL X A.2.2) (drT X A.2.2) A
def itD (f : DS → DS) : Nat → DS → DS
  | 0, A => A
  | n + 1, A => itD f n (f A)
theorem itD_succ (f : DS → DS) (n : Nat) (A : DS) : itD f (n + 1) A = itD f n (f A) := rfl
def drF (X : LN) (n : Nat) (A : DS) : DS := itD (drS X) n A
theorem drF_succ (X : LN) (n : Nat) (A : DS) : drF X (n + 1) A = drF X n (drS X A) := by unfold drF; exact itD_succ _ n A
theorem drF_zero (X : LN) (A : DS) : drF X 0 A = A := by unfold drF; rfl
abbrev drE (n x : Int32) : Prop := (n < 1 ∨ 99 < n) ∨ (x < 0 ∨ 1 < x)
def aDri (X : LN) (s : Nat) (n x : Int32) : Int32 := if drE n x then OUT else if X.1 = 0 then NTT else if x = 0 then nI (drF X (nC n) (0, 0, s)).1 else nI (drF X (nC n) (0, 0, s)).2.1
def sDri (X : LN) (s : Nat) (n x : Int32) : Nat := if drE n x then s else if X.1 = 0 then s else (drF X (nC n) (0, 0, s)).2.2
theorem ldF_ok {np : Nat} {P : PD} {V : VT} (hv : vOk np P V) {t : Nat} {dr : Bool} : ∀ n S, lsOk np S → S.2.2.2.1 + n ≤ 6 → lsOk np (ldF P V t dr n S)
  | 0, S, h, _ => h
  | n + 1, S, h, h6 => by
    rw [ldF_succ]
    split
    · exact h
    · split
      · exact h
      · rename_i c1 c2
        obtain ⟨p1, p2, p3, p4⟩ := ldP_is (dr := dr) c2
        obtain ⟨k1, k2, k3, k4, k5⟩ := h
        have hpv := hv.2.2 _ p1
        have hp6 := hv.2.1
        refine ldF_ok hv n _ ⟨bit6 k1 (by omega), hpv.2.1 p3, ?_, ?_, ?_⟩ ?_
        · show S.2.2.1 + V.2 (ldP P V dr S) ≤ 891 * (S.2.2.2.1 + 1)
          omega
        · show S.2.2.2.1 + 1 ≤ 6
          omega
        · show (if dr = true then sdN S.2.2.2.2 else S.2.2.2.2) < 2147483648
          split
          · exact sdN_lt
          · exact k5
        · show S.2.2.2.1 + 1 + n ≤ 6
          omega
theorem drL_ok {X : LN} (hok : wOk X.1 X.2.1) (hpo : pOk X.1 X.2.2.1 X.2.2.2.1 X.2.2.2.2.1) {a t s : Nat} (ha : a < X.1) (hs : s < 2147483648) : lsOk X.1 (ldF X.2.2.1 (vX X t false) t true 6 (0, a, 0, 0, s)) :=
  ldF_ok (VV_ok hok hpo _ _ _) 6 _ ⟨by show 0 < 64; omega, ha, by show 0 ≤ 891 * 0; omega, by show 0 ≤ 6; omega, hs⟩ (by show 0 + 6 ≤ 6; omega)
theorem orb_lt {h t : Nat} (hh : h < 1024) (ht : t < 10) : h ||| 1 <<< t < 1024 := by
  rw [Nat.one_shiftLeft]
  exact Nat.or_lt_two_pow (n := 10) hh (Nat.pow_lt_pow_right (by decide) ht)
theorem orb_tb {h t j : Nat} : (h ||| 1 <<< t).testBit j = true ↔ h.testBit j = true ∨ j = t := by
  rw [Nat.testBit_or, Nat.one_shiftLeft, Nat.testBit_two_pow]
  simp only [Bool.or_eq_true, decide_eq_true_eq]
  constructor
  · rintro (q | q)
    · exact Or.inl q
    · exact Or.inr q.symm
  · rintro (q | q)
    · exact Or.inl q
    · exact Or.inr q.symm

set_option maxHeartbeats 4000000 in
set_option maxRecDepth 100000 in
theorem l_dri {K : KT} {ad : Nat → Nat} {g : St} {X : LN} (hX : LC g X) {s N : Nat} {x : Int32} (h0 : X.1 ≠ 0) (hN : N ≤ 99) (hK : Cx K RX9 cX9_drift 8 ad) (hm : K.2.2.1.2.maxLocals = 10) (hnn : Nn K 0 0)
    (hR : Rt K 0 0 TT ad (some .int) (Qi ad (fun v g' => v = (if x = 0 then nI (drF X N (0, 0, s)).1 else nI (drF X N (0, 0, s)).2.1) ∧ FrD g (drF X N (0, 0, s)).2.2 g'))) :
    ∀ m i, i + m = N → ∀ (A : DS) (h : Nat) (g1 : St), FrD g A.2.2 g1 → (∀ u, u < X.1 → (h).testBit u = true → GsC g1 (27 + 4 * u) X.1 X.2.2.1 (vX X u false)) → h < 1024 → A.1 ≤ i → A.2.1 ≤ 5346 * i → A.2.2 < 2147483648 → drF X m A = drF X N (0, 0, s) → Wp K 0 0 TT ad g1 48 [(0, .ref 0), (1, .int (nI N)), (2, .int x), (3, .int (nI A.1)), (4, .int (nI A.2.1)), (5, .int (nI h)), (6, .int (nI i))] [] := by
  intro m
  induction m with
  | zero =>
    intro i him A h g1 hfd hH hh hc hmn hsA hnx
    refine r_iload (i := 6) hK dX9_drift_48 rfl ?_
    refine r_iload_n (i := 1) hK dX9_drift_50 rfl rfl ?_
    refine r_icmp_ge (tgt := 166) hK dX9_drift_51 (by decide) (fun _ => ?_) (fun h => absurd (nI_le (by omega) (by omega)) h)
    have hA : A = drF X N (0, 0, s) := (drF_zero X A).symm.trans hnx

    refine r_iload_n (i := 2) hK dX9_drift_166 rfl rfl ?_
    refine r_if_ne (tgt := 174) hK dX9_drift_167 (by decide) (fun h167 => ?_) (fun h167 => ?_)
    · refine r_iload (i := 4) hK dX9_drift_174 rfl ?_
      refine q_iret hK hR dX9_drift_176 ?_
      refine ⟨?_, hA ▸ hfd⟩
      first
        | (rw [if_pos (Classical.not_not.mp h167), ← hA]; done)
        | (rw [if_pos h167, ← hA]; done)
        | (rw [if_neg h167, ← hA]; done)
    · refine r_iload_n (i := 3) hK dX9_drift_170 rfl rfl ?_
      refine r_goto (tgt := 176) hK dX9_drift_171 (by decide) ?_
      refine q_iret hK hR dX9_drift_176 ?_
      refine ⟨?_, hA ▸ hfd⟩
      first
        | (rw [if_pos (Classical.not_not.mp h167), ← hA]; done)
        | (rw [if_pos h167, ← hA]; done)
        | (rw [if_neg h167, ← hA]; done)
  | succ m ih =>
    intro i him A h g1 hfd hH hh hc hmn hsA hnx
    have hX1 : LC g1 X := LC_lo hX (fun j hj => hfd.1 j (by omega))
    obtain ⟨hok, hpo, hlaw, x1, hW, hPs, x4⟩ := id hX1
    have h10 := hok.2.1
    have hi : i < N := by omega
    have hsd := hfd.2.2
    rw [drF_succ] at hnx
    unfold drS drL drT drA at hnx
    obtain ⟨s1, hs1⟩ : ∃ s1, s1 = sdN A.2.2 := ⟨_, rfl⟩
    rw [← hs1] at hnx
    obtain ⟨s2, hs2⟩ : ∃ s2, s2 = sdN s1 := ⟨_, rfl⟩
    rw [← hs2] at hnx
    obtain ⟨a, hae⟩ : ∃ a, a = s1 / 65536 % X.1 := ⟨_, rfl⟩
    obtain ⟨t, hte⟩ : ∃ t, t = s2 / 65536 % X.1 := ⟨_, rfl⟩
    rw [← hae, ← hte] at hnx
    have hs1l : s1 < 2147483648 := by rw [hs1]; exact sdN_lt
    have hs2l : s2 < 2147483648 := by rw [hs2]; exact sdN_lt
    have ha : a < X.1 := by rw [hae]; exact Nat.mod_lt _ (by omega)
    have ht1 : t < X.1 := by rw [hte]; exact Nat.mod_lt _ (by omega)
    have ht : t < 10 := by omega
    have hSok := drL_ok (t := t) hok hpo ha hs2l
    obtain ⟨S, hSe⟩ : ∃ S, ldF X.2.2.1 (vX X t false) t true 6 (0, a, 0, 0, s2) = S := ⟨_, rfl⟩
    rw [hSe] at hnx hSok
    obtain ⟨hS1, hS2, hS3, hS4, hS5⟩ := hSok
    have h113 : ∀ g2 : St, FrD g (s2) g2 → (∀ u, u < X.1 → (h ||| 1 <<< t).testBit u = true → GsC g2 (27 + 4 * u) X.1 X.2.2.1 (vX X u false)) → Wp K 0 0 TT ad g2 113 [(0, .ref 0), (1, .int (nI N)), (2, .int x), (3, .int (nI A.1)), (4, .int (nI A.2.1)), (5, .int (nI h)), (6, .int (nI i)), (7, .int (nI (a))), (8, .int (nI (t)))] [.ref (27 + 4 * t)] := by
      intro g2 hg2 hgs2
      have hgs := hgs2 _ ht1 (orb_tb.mpr (Or.inr rfl))
      have hG := gp_t ht
      obtain ⟨o1, o2, o3, t0, t1, t2, t3⟩ := id hG
      refine r_astore (i := 9) hK hm dX9_drift_113 (by decide) ?_
      refine r_iload (i := 5) hK dX9_drift_115 rfl ?_
      refine r_iconst (v := 1) hK dX9_drift_117 (by decide) ?_
      refine r_iload (i := 8) hK dX9_drift_118 rfl ?_
      refine r_ishl hK dX9_drift_120 ?_
      refine r_ior hK dX9_drift_121 ?_
      refine r_top (y := nI (h ||| 1 <<< t)) (setbit (by omega)) ?_
      refine r_istore (i := 5) hK hm dX9_drift_122 (by decide) ?_
      refine r_aload (i := 9) hK dX9_drift_124 rfl ?_
      refine r_iload (i := 7) hK dX9_drift_126 rfl ?_
      refine r_iload (i := 8) hK dX9_drift_128 rfl ?_
      refine r_aload_n (i := 0) hK dX9_drift_130 rfl rfl ?_
      refine r_getA hK flX9_58 to_0 rfl dX9_drift_131 ?_
      refine r_cv3 hK hnn (c_leadD hG hgs ha ht hg2.2.2 hs2l) moX1_lead mlX9_212 t0 rfl rfl dX9_drift_134 (Nat.le_of_ble_eq_true rfl) (Nat.le_of_ble_eq_true rfl) (eqV ?_)
      rw [hSe]
      have hfd3 : FrD g (drQ S t A).2.2 (lGS g2 (27 + 4 * t) (S)) := by
        refine ⟨fun j hj => (lG_n (by omega) (by omega)).trans (hg2.1 j hj), fun j hj => hg2.2.1 j hj, ?_⟩
        rw [drQ_s]; exact lG_s (by omega)
      have hH3 : ∀ u, u < X.1 → (h ||| 1 <<< t).testBit u = true → GsC (lGS g2 (27 + 4 * t) (S)) (27 + 4 * u) X.1 X.2.2.1 (vX X u false) := fun u q1 q2 => GsC_of (hgs2 u q1 q2) (lG_n (by omega) (by omega)) (lG_n (by omega) (by omega)) (lG_n (by omega) (by omega)) (lG_n (by omega) (by omega))
      refine r_aload (i := 9) hK dX9_drift_137 rfl ?_
      refine r_getI hK flX9_219 t0 rfl dX9_drift_139 ?_
      refine r_top (y := nI (S).2.1) lG_6 ?_
      refine r_iload (i := 8) hK dX9_drift_142 rfl ?_
      refine r_icmp_ne (tgt := 160) hK dX9_drift_144 (by decide) (fun h144 => ?_) (fun h144 => ?_)
      · refine r_iincN (i := 6) hK hm dX9_drift_160 rfl (by decide) ?_
        refine r_goto (tgt := 48) hK dX9_drift_163 (by decide) ?_
        first
          | (have hst : S.2.1 = t := nI_inj (by omega) (by omega) (Classical.not_not.mp h144); rw [drQ_p hst] at hfd3 hnx; refine r_loc ?_ (ih (i + 1) (by omega) _ (h ||| 1 <<< t) _ hfd3 hH3 (orb_lt hh (by omega)) (by show A.1 + 1 ≤ i + 1; omega) (by show A.2.1 + S.2.2.1 ≤ 5346 * (i + 1); omega) hS5 hnx); rfl)
          | (have hst : S.2.1 = t := nI_inj (by omega) (by omega) h144; rw [drQ_p hst] at hfd3 hnx; refine r_loc ?_ (ih (i + 1) (by omega) _ (h ||| 1 <<< t) _ hfd3 hH3 (orb_lt hh (by omega)) (by show A.1 + 1 ≤ i + 1; omega) (by show A.2.1 + S.2.2.1 ≤ 5346 * (i + 1); omega) hS5 hnx); rfl)
          | (have hst : ¬ S.2.1 = t := fun z => h144 (by rw [z]); rw [drQ_n hst] at hfd3 hnx; refine r_loc ?_ (ih (i + 1) (by omega) _ (h ||| 1 <<< t) _ hfd3 hH3 (orb_lt hh (by omega)) (by show A.1 ≤ i + 1; omega) (by show A.2.1 ≤ 5346 * (i + 1); omega) hS5 hnx); rfl)
      · refine r_iincN (i := 3) hK hm dX9_drift_147 rfl (by decide) ?_
        refine r_iload (i := 4) hK dX9_drift_150 rfl ?_
        refine r_aload (i := 9) hK dX9_drift_152 rfl ?_
        refine r_getI hK flX9_216 t0 rfl dX9_drift_154 ?_
        refine r_top (y := nI (S).2.2.1) lG_7 ?_
        refine r_iadd hK dX9_drift_157 ?_
        refine r_top (nI_add _ _) ?_
        refine r_istore (i := 4) hK hm dX9_drift_158 (by decide) ?_
        refine r_iincN (i := 6) hK hm dX9_drift_160 rfl (by decide) ?_
        refine r_goto (tgt := 48) hK dX9_drift_163 (by decide) ?_
        first
          | (have hst : S.2.1 = t := nI_inj (by omega) (by omega) (Classical.not_not.mp h144); rw [drQ_p hst] at hfd3 hnx; refine r_loc ?_ (ih (i + 1) (by omega) _ (h ||| 1 <<< t) _ hfd3 hH3 (orb_lt hh (by omega)) (by show A.1 + 1 ≤ i + 1; omega) (by show A.2.1 + S.2.2.1 ≤ 5346 * (i + 1); omega) hS5 hnx); rfl)
          | (have hst : S.2.1 = t := nI_inj (by omega) (by omega) h144; rw [drQ_p hst] at hfd3 hnx; refine r_loc ?_ (ih (i + 1) (by omega) _ (h ||| 1 <<< t) _ hfd3 hH3 (orb_lt hh (by omega)) (by show A.1 + 1 ≤ i + 1; omega) (by show A.2.1 + S.2.2.1 ≤ 5346 * (i + 1); omega) hS5 hnx); rfl)
          | (have hst : ¬ S.2.1 = t := fun z => h144 (by rw [z]); rw [drQ_n hst] at hfd3 hnx; refine r_loc ?_ (ih (i + 1) (by omega) _ (h ||| 1 <<< t) _ hfd3 hH3 (orb_lt hh (by omega)) (by show A.1 ≤ i + 1; omega) (by show A.2.1 ≤ 5346 * (i + 1); omega) hS5 hnx); rfl)
    refine r_iload (i := 6) hK dX9_drift_48 rfl ?_
    refine r_iload_n (i := 1) hK dX9_drift_50 rfl rfl ?_
    refine r_icmp_ge (tgt := 166) hK dX9_drift_51 (by decide) (fun h => absurd h (nI_ge hi (by omega))) (fun _ => ?_)
    refine r_aload_n (i := 0) hK dX9_drift_54 rfl rfl ?_
    refine r_getA hK flX9_58 to_0 rfl dX9_drift_55 ?_
    refine r_aload_n (i := 0) hK dX9_drift_58 rfl rfl ?_
    refine r_getA hK flX9_26 to_0 rfl dX9_drift_59 ?_
    refine r_getI hK flX9_104 to_13 rfl dX9_drift_62 ?_
    refine r_top (y := nI X.1) x1 ?_
    refine r_ci1 hK hnn (c_next hsd hsA rfl (by omega) (by omega)) moX0_next mlX9_299 to_76 rfl rfl dX9_drift_65 (Nat.le_of_ble_eq_true rfl) (Nat.le_of_ble_eq_true rfl) (eqI ?_)
    rw [← hs1, ← hae]
    refine r_istore (i := 7) hK hm dX9_drift_68 (by decide) ?_
    refine r_aload_n (i := 0) hK dX9_drift_70 rfl rfl ?_
    refine r_getA hK flX9_58 to_0 rfl dX9_drift_71 ?_
    refine r_aload_n (i := 0) hK dX9_drift_74 rfl rfl ?_
    refine r_getA hK flX9_26 to_0 rfl dX9_drift_75 ?_
    refine r_getI hK flX9_104 to_13 rfl dX9_drift_78 ?_
    refine r_top (y := nI X.1) ((congrFun (upI_n (by decide)) _).trans x1) ?_
    refine r_ci1 hK hnn (c_next (s := s1) (by rw [upI_s, upd_s]) hs1l rfl (by omega) (by omega)) moX0_next mlX9_299 to_76 rfl rfl dX9_drift_81 (Nat.le_of_ble_eq_true rfl) (Nat.le_of_ble_eq_true rfl) (eqI ?_)
    rw [← hs2, ← hte]
    have hg1 : FrD g (s2) (upI (upI g1 76 0 (nI s1)) 76 0 (nI (s2))) := ⟨fun j hj => (upI_n (by omega)).trans ((upI_n (by omega)).trans (hfd.1 j hj)), fun j hj => hfd.2.1 j hj, by rw [upI_s, upd_s]⟩
    have hX2 : LC (upI (upI g1 76 0 (nI s1)) 76 0 (nI (s2))) X := LC_lo hX1 (fun j hj => (upI_n (by omega)).trans (upI_n (by omega)))
    have hH1 : ∀ u, u < X.1 → h.testBit u = true → GsC (upI (upI g1 76 0 (nI s1)) 76 0 (nI (s2))) (27 + 4 * u) X.1 X.2.2.1 (vX X u false) := fun u q1 q2 => GsC_of (hH u q1 q2) ((upI_n (by omega)).trans (upI_n (by omega))) ((upI_n (by omega)).trans (upI_n (by omega))) ((upI_n (by omega)).trans (upI_n (by omega))) ((upI_n (by omega)).trans (upI_n (by omega)))
    refine r_istore (i := 8) hK hm dX9_drift_84 (by decide) ?_
    refine r_iload (i := 5) hK dX9_drift_86 rfl ?_
    refine r_iload (i := 8) hK dX9_drift_88 rfl ?_
    refine r_ishr hK dX9_drift_90 ?_
    refine r_iconst (v := 1) hK dX9_drift_91 (by decide) ?_
    refine r_iand hK dX9_drift_92 ?_
    refine r_top (tb_if (k := h) (w := t) (by omega) (by omega)) ?_
    refine r_iconst (v := 1) hK dX9_drift_93 (by decide) ?_
    refine r_icmp_ne (tgt := 106) hK dX9_drift_94 (by decide) (fun h94 => ?_) (fun h94 => ?_)
    · refine r_aload_n (i := 0) hK dX9_drift_106 rfl rfl ?_
      refine r_iload (i := 8) hK dX9_drift_107 rfl ?_
      refine r_iconst (v := 0) hK dX9_drift_109 (by decide) ?_
      refine r_ca2 hK hnn (c_gathered (t := t) (own := false) hX2 rfl ht1) moX9_gathered mlX9_208 to_0 rfl rfl dX9_drift_110 (Nat.le_of_ble_eq_true rfl) (Nat.le_of_ble_eq_true rfl) (fun v110 g110 q110 => ?_)
      obtain ⟨rfl, hfo, hgs⟩ := q110
      refine r_loc ?_ (h113 g110 ⟨fun j hj => (hfo.1 j (by omega) (by omega)).trans (hg1.1 j hj), fun j hj => (hfo.2 j (by omega)).trans (hg1.2.1 j hj), (congrFun (hfo.1 76 (by omega) (by omega)) 0).trans hg1.2.2⟩ ?_)
      · rfl
      · intro u q1 q2
        by_cases q : u = t
        · rw [q]; exact hgs
        · have q3 := (orb_tb.mp q2).resolve_right q
          exact GsC_of (hH1 u q1 q3) (hfo.1 _ (by omega) (by omega)) (hfo.1 _ (by omega) (by omega)) (hfo.1 _ (by omega) (by omega)) (hfo.1 _ (by omega) (by omega))
    · refine r_aload_n (i := 0) hK dX9_drift_97 rfl rfl ?_
      refine r_iload (i := 8) hK dX9_drift_98 rfl ?_
      refine r_ca1 hK hnn (c_guidesTo (t := t) rfl (by omega)) moX9_guidesTo mlX9_302 to_0 rfl rfl dX9_drift_100 (Nat.le_of_ble_eq_true rfl) (Nat.le_of_ble_eq_true rfl) (eqA ?_)
      refine r_goto (tgt := 113) hK dX9_drift_103 (by decide) ?_
      refine r_loc ?_ (h113 _ hg1 ?_)
      · rfl
      · intro u q1 q2
        rcases orb_tb.mp q2 with q | q
        · exact hH1 u q1 q
        · rw [q]; exact hH1 _ ht1 (by by_cases z : h.testBit (t) = true; exact z; rw [if_neg z] at h94; exact absurd h94 (by decide))
theorem FrD_rf {g : St} {s : Nat} (h : g.1 76 0 = nI s) : FrD g s g := ⟨fun _ _ => rfl, fun _ _ => rfl, h⟩
theorem l1I {n : Int32} (h : ¬ n < 1) (h2 : ¬ 99 < n) : n.toNatClampNeg ≤ 99 ∧ n = nI n.toNatClampNeg := by
  have h3 : isB n 100 = true := by
    unfold isB
    have e0 : ¬ n < 0 := by
      rw [Int32.lt_iff_toInt_lt] at h ⊢
      rw [Int32.toInt_zero]
      rw [show (1 : Int32) = nI 1 from rfl, nI_toInt (by decide)] at h
      omega
    have e1 : n < nI 100 := by
      rw [Int32.lt_iff_toInt_lt] at h2 ⊢
      rw [show (99 : Int32) = nI 99 from rfl, nI_toInt (by decide)] at h2
      rw [nI_toInt (by decide)]
      omega
    rw [decide_eq_false e0, decide_eq_true e1]; rfl
  obtain ⟨k1, k2⟩ := isB_cl (by decide) h3
  exact ⟨by omega, k2⟩
set_option maxHeartbeats 4000000 in
set_option maxRecDepth 100000 in
theorem c_drift {ad : Nat → Nat} {g : St} {X : LN} (hX : LC g X) {n x : Int32} {s : Nat} (hsd : g.1 76 0 = nI s) (hs0 : s < 2147483648) : Ci 8 mX9_drift [.ref 0, .int n, .int x] ad g (fun v g' => v = aDri X s n x ∧ FrD g (sDri X s n x) g') := by
  obtain ⟨hok, hpo, hlaw, x1, hW, hPs, x4⟩ := id hX
  have h10 := hok.2.1
  have h6 := hpo.1
  have h14 := hok.1
  refine Cm.mk rfl (Nat.le_of_ble_eq_true rfl) (fun K hK hR hm hnn => ?_)
  refine r_iload_n (i := 1) hK dX9_drift_0 rfl rfl ?_
  refine r_iconst (v := 1) hK dX9_drift_1 (by decide) ?_
  refine r_icmp_lt (tgt := 20) hK dX9_drift_2 (by decide) (fun h2 => ?_) (fun h2 => ?_)
  · refine r_ldc hK ckX9_76 dX9_drift_20 ?_
    refine q_iret hK hR dX9_drift_22 ?_
    unfold aDri sDri
    first
      | (have hE : drE n x := Or.inl (Or.inl h2); rw [if_pos hE, if_pos hE]; exact ⟨rfl, FrD_rf hsd⟩)
      | (have hE : drE n x := Or.inl (Or.inr h8); rw [if_pos hE, if_pos hE]; exact ⟨rfl, FrD_rf hsd⟩)
      | (have hE : drE n x := Or.inr (Or.inl h12); rw [if_pos hE, if_pos hE]; exact ⟨rfl, FrD_rf hsd⟩)
      | (have hE : drE n x := Or.inr (Or.inr (Int32.not_le.mp h17)); rw [if_pos hE, if_pos hE]; exact ⟨rfl, FrD_rf hsd⟩)
  · refine r_iload_n (i := 1) hK dX9_drift_5 rfl rfl ?_
    refine r_bipush (v := 99) hK dX9_drift_6 (by decide) ?_
    refine r_icmp_gt (tgt := 20) hK dX9_drift_8 (by decide) (fun h8 => ?_) (fun h8 => ?_)
    · refine r_ldc hK ckX9_76 dX9_drift_20 ?_
      refine q_iret hK hR dX9_drift_22 ?_
      unfold aDri sDri
      first
        | (have hE : drE n x := Or.inl (Or.inl h2); rw [if_pos hE, if_pos hE]; exact ⟨rfl, FrD_rf hsd⟩)
        | (have hE : drE n x := Or.inl (Or.inr h8); rw [if_pos hE, if_pos hE]; exact ⟨rfl, FrD_rf hsd⟩)
        | (have hE : drE n x := Or.inr (Or.inl h12); rw [if_pos hE, if_pos hE]; exact ⟨rfl, FrD_rf hsd⟩)
        | (have hE : drE n x := Or.inr (Or.inr (Int32.not_le.mp h17)); rw [if_pos hE, if_pos hE]; exact ⟨rfl, FrD_rf hsd⟩)
    · refine r_iload_n (i := 2) hK dX9_drift_11 rfl rfl ?_
      refine r_if_lt (tgt := 20) hK dX9_drift_12 (by decide) (fun h12 => ?_) (fun h12 => ?_)
      · refine r_ldc hK ckX9_76 dX9_drift_20 ?_
        refine q_iret hK hR dX9_drift_22 ?_
        unfold aDri sDri
        first
          | (have hE : drE n x := Or.inl (Or.inl h2); rw [if_pos hE, if_pos hE]; exact ⟨rfl, FrD_rf hsd⟩)
          | (have hE : drE n x := Or.inl (Or.inr h8); rw [if_pos hE, if_pos hE]; exact ⟨rfl, FrD_rf hsd⟩)
          | (have hE : drE n x := Or.inr (Or.inl h12); rw [if_pos hE, if_pos hE]; exact ⟨rfl, FrD_rf hsd⟩)
          | (have hE : drE n x := Or.inr (Or.inr (Int32.not_le.mp h17)); rw [if_pos hE, if_pos hE]; exact ⟨rfl, FrD_rf hsd⟩)
      · refine r_iload_n (i := 2) hK dX9_drift_15 rfl rfl ?_
        refine r_iconst (v := 1) hK dX9_drift_16 (by decide) ?_
        refine r_icmp_le (tgt := 23) hK dX9_drift_17 (by decide) (fun h17 => ?_) (fun h17 => ?_)
        · refine r_aload_n (i := 0) hK dX9_drift_23 rfl rfl ?_
          refine r_getA hK flX9_26 to_0 rfl dX9_drift_24 ?_
          refine r_getI hK flX9_104 to_13 rfl dX9_drift_27 ?_
          refine r_top (y := nI X.1) x1 ?_
          have hE : ¬ drE n x := fun z => z.elim (fun y => y.elim h2 h8) (fun y => y.elim h12 (fun y => absurd h17 (Int32.not_le.mpr y)))
          obtain ⟨hn1, hn2⟩ := l1I h2 h8
          refine r_if_ne (tgt := 37) hK dX9_drift_30 (by decide) (fun h30 => ?_) (fun h30 => ?_)
          · refine r_iconst (v := 0) hK dX9_drift_37 (by decide) ?_
            refine r_istore_n (i := 3) hK hm dX9_drift_38 rfl (by decide) ?_
            refine r_iconst (v := 0) hK dX9_drift_39 (by decide) ?_
            refine r_istore (i := 4) hK hm dX9_drift_40 (by decide) ?_
            refine r_iconst (v := 0) hK dX9_drift_42 (by decide) ?_
            refine r_istore (i := 5) hK hm dX9_drift_43 (by decide) ?_
            refine r_iconst (v := 0) hK dX9_drift_45 (by decide) ?_
            refine r_istore (i := 6) hK hm dX9_drift_46 (by decide) ?_
            have h0 : X.1 ≠ 0 := fun z => h30 (by rw [z]; rfl)
            unfold aDri sDri at hR
            simp only [if_neg hE, if_neg h0] at hR
            refine r_loc ?_ (l_dri hX h0 hn1 hK hm hnn hR n.toNatClampNeg 0 (by omega) (0, 0, s) 0 g (FrD_rf hsd) (fun u q1 q2 => absurd q2 (by rw [Nat.zero_testBit]; decide)) (by omega) (Nat.le_refl _) (by show 0 ≤ 5346 * 0; omega) hs0 rfl)
            simp only [List.map_cons, List.map_nil]
            rw [← hn2]
            rfl
          · refine r_ldcw hK ckX9_298 dX9_drift_33 ?_
            refine q_iret hK hR dX9_drift_36 ?_
            unfold aDri sDri
            have h0 : X.1 = 0 := by
              first
                | exact nI_inj (by omega) (by decide) (Classical.not_not.mp h30)
                | exact nI_inj (by omega) (by decide) h30
            rw [if_neg hE, if_pos h0, if_neg hE, if_pos h0]
            exact ⟨rfl, FrD_rf hsd⟩
        · refine r_ldc hK ckX9_76 dX9_drift_20 ?_
          refine q_iret hK hR dX9_drift_22 ?_
          unfold aDri sDri
          first
            | (have hE : drE n x := Or.inl (Or.inl h2); rw [if_pos hE, if_pos hE]; exact ⟨rfl, FrD_rf hsd⟩)
            | (have hE : drE n x := Or.inl (Or.inr h8); rw [if_pos hE, if_pos hE]; exact ⟨rfl, FrD_rf hsd⟩)
            | (have hE : drE n x := Or.inr (Or.inl h12); rw [if_pos hE, if_pos hE]; exact ⟨rfl, FrD_rf hsd⟩)
            | (have hE : drE n x := Or.inr (Or.inr (Int32.not_le.mp h17)); rw [if_pos hE, if_pos hE]; exact ⟨rfl, FrD_rf hsd⟩)
