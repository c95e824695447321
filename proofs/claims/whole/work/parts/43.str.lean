/-! ANSWERS of strangers -/
theorem r_lk2 {K : KT} {n1 n2 : Nat} {T : List TC} {ad : Nat → Nat} {g : St} {pc : Nat} {lv : List (Nat × Value)} {st : List Value} {own : String} {cc : ByteArray} {d : Nat} (hK : Cx K own cc d ad) {dflt ai oa bi ob : Int} {len : Nat} {a b x : Int32} {ta tb td : Nat} (hd : decode cc pc = .ok (.lookupswitch dflt #[(ai, oa), (bi, ob)], len)) (ha : a.toInt = ai) (hb : b.toInt = bi) (hlt : (([(ai, oa), (bi, ob)] : List (Int × Int)).zip ([(bi, ob)] : List (Int × Int))).all (fun (a, next) => a.1 < next.1) = true) (hta : (pc : Int) + oa = (ta : Int)) (htb : (pc : Int) + ob = (tb : Int)) (htd : (pc : Int) + dflt = (td : Int)) (k1 : x = a → Wp K n1 n2 T ad g ta lv st) (k2 : ¬ x = a → x = b → Wp K n1 n2 T ad g tb lv st) (k3 : ¬ x = a → ¬ x = b → Wp K n1 n2 T ad g td lv st) : Wp K n1 n2 T ad g pc lv (.int x :: st) := by
  by_cases h1 : x = a
  · refine r_lsw hK hd hlt (off := oa) ?_ hta (k1 h1)
    show Op.lookupswitch.offset [(ai, oa), (bi, ob)] dflt x.toInt = oa
    rw [Op.lookupswitch.offset_cons, if_pos (by rw [h1, ha])]
  · by_cases h2 : x = b
    · refine r_lsw hK hd hlt (off := ob) ?_ htb (k2 h1 h2)
      show Op.lookupswitch.offset [(ai, oa), (bi, ob)] dflt x.toInt = ob
      rw [lv_osw h1 ha, Op.lookupswitch.offset_cons, if_pos (by rw [h2, hb])]
    · refine r_lsw hK hd hlt (off := dflt) ?_ htd (k3 h1 h2)
      show Op.lookupswitch.offset [(ai, oa), (bi, ob)] dflt x.toInt = dflt
      rw [lv_osw h1 ha, lv_osw h2 hb]
      rfl
theorem gp_t {t : Nat} (ht : t < 10) : GdP (27 + 4 * t) := by
  obtain rfl | rfl | rfl | rfl | rfl | rfl | rfl | rfl | rfl | rfl : t = 0 ∨ t = 1 ∨ t = 2 ∨ t = 3 ∨ t = 4 ∨ t = 5 ∨ t = 6 ∨ t = 7 ∨ t = 8 ∨ t = 9 := by omega
  · exact gp_27
  · exact gp_31
  · exact gp_35
  · exact gp_39
  · exact gp_43
  · exact gp_47
  · exact gp_51
  · exact gp_55
  · exact gp_59
  · exact gp_63
theorem gl_t {t : Nat} (ht : t < 10) : ([27, 31, 35, 39, 43, 47, 51, 55, 59, 63] : List Nat)[(nI t).toNatClampNeg]? = some (27 + 4 * t) := by
  rw [nI_clamp (by omega)]
  obtain rfl | rfl | rfl | rfl | rfl | rfl | rfl | rfl | rfl | rfl : t = 0 ∨ t = 1 ∨ t = 2 ∨ t = 3 ∨ t = 4 ∨ t = 5 ∨ t = 6 ∨ t = 7 ∨ t = 8 ∨ t = 9 := by omega
  all_goals rfl
/-- what the guides at o leave as it was -/
def FrO (o : Nat) (g g' : St) : Prop := (∀ j, (j ≤ 21 ∨ 26 ≤ j) → (j < o ∨ o + 3 < j) → g'.1 j = g.1 j) ∧ ∀ j, (j < o ∨ o + 3 < j) → g'.2 j = g.2 j
theorem FrO.fr {o : Nat} {g g' : St} (h : FrO o g g') (h1 : 22 ≤ o) (h2 : o + 3 ≤ 75) : Fr g g' := ⟨fun j hj => h.1 j (by omega) (by omega), fun j hj => h.2 j (by omega)⟩
theorem FrO.tr {o : Nat} {g g' g2 : St} (h : FrO o g g') (h2 : FrO o g' g2) : FrO o g g2 := ⟨fun j h3 h4 => (h2.1 j h3 h4).trans (h.1 j h3 h4), fun j h3 => (h2.2 j h3).trans (h.2 j h3)⟩
theorem FrO_gE {g : St} {o : Nat} {f1 f2 f3 e m : Nat → Int32} {v : Int32} : FrO o g (gE (pG g f1 f2 f3 v) o e m) := ⟨fun j h1 h2 => (gE_n (by omega) (by omega)).trans (pG_n (by omega)), fun _ _ => rfl⟩
theorem FrO_upR {g : St} {o : Nat} {f : Nat → Int32} : FrO o g (upR g (o + 3) f) := ⟨fun j h1 h2 => upR_n (by omega), fun _ _ => rfl⟩
theorem FrO_cG {g : St} {o : Nat} {x y v : Int32} {z : Int64} : FrO o g (cG (upI g o 5 v) o x y z) := ⟨fun j h1 h2 => (cG_n (by omega)).trans (upI_n (by omega)), fun j h2 => by show (if j = o then _ else _) = _; rw [if_neg (by omega)]; rfl⟩
theorem ldF_seed {P : PD} {V : VT} {t s : Nat} : ∀ n (a b c d s0 : Nat), ldF P V t false n (a, b, c, d, s) = ((ldF P V t false n (a, b, c, d, s0)).1, (ldF P V t false n (a, b, c, d, s0)).2.1, (ldF P V t false n (a, b, c, d, s0)).2.2.1, (ldF P V t false n (a, b, c, d, s0)).2.2.2.1, s)
  | 0, a, b, c, d, s0 => rfl
  | n + 1, a, b, c, d, s0 => by
    unfold ldF
    by_cases h1 : b = t
    · rw [if_pos h1, if_pos h1]
    · rw [if_neg h1, if_neg h1]
      have hM : ldM P V (a, b, c, d, s) = ldM P V (a, b, c, d, s0) := rfl
      rw [hM]
      by_cases h2 : ldM P V (a, b, c, d, s0) = 0
      · rw [if_pos h2, if_pos h2]
      · rw [if_neg h2, if_neg h2]
        have hS : ∀ s, ldS P V false (a, b, c, d, s) = (a ||| 1 <<< ldP P V false (a, b, c, d, s0), V.1 (ldP P V false (a, b, c, d, s0)), c + V.2 (ldP P V false (a, b, c, d, s0)), d + 1, s) := fun s => by simp only [ldS, ldP, ldM, Bool.false_eq_true, if_false]
        rw [hS s, hS s0]
        exact ldF_seed n _ _ _ _ s0
theorem FrO_lG {g : St} {o s : Nat} {x y z : Int32} (hs : g.1 76 0 = nI s) (ho : o + 3 < 76) : FrO o g (lG g o x y z (nI s)) := by
  refine ⟨fun j h1 h2 => ?_, fun _ _ => rfl⟩
  by_cases h : j = 76
  · subst h
    unfold lG
    dsimp only
    rw [if_neg (by omega), if_pos rfl, ← hs]
    funext k
    unfold upd
    split
    · rename_i e; rw [e]
    · rfl
  · exact lG_n (by omega) h
abbrev vX (X : LN) (t : Nat) (own : Bool) : VT := VV X.2.1 X.2.2.1 X.2.2.2.1 X.2.2.2.2.1 X.2.2.2.2.2 t own

set_option maxHeartbeats 4000000 in
set_option maxRecDepth 100000 in
theorem c_guidesTo {ad : Nat → Nat} {g : St} {t : Nat} {x : Int32} (hx : x = nI t) (ht : t < 10) : Ca 1 mX9_guidesTo [.ref 0, .int x] ad g (fun v g' => v = 27 + 4 * t ∧ g' = g) := by
  subst hx
  refine Cm.mk rfl (Nat.le_of_ble_eq_true rfl) (fun K hK hR hm hnn => ?_)
  refine r_aload_n (i := 0) hK dX9_guidesTo_0 rfl rfl ?_
  refine r_getA hK flX9_39 to_0 rfl dX9_guidesTo_1 ?_
  refine r_iload_n (i := 1) hK dX9_guidesTo_4 rfl rfl ?_
  refine r_if_lt (tgt := 21) hK dX9_guidesTo_5 (by decide) (fun h => absurd h (nI_pos (by omega))) (fun _ => ?_)
  refine r_iload_n (i := 1) hK dX9_guidesTo_8 rfl rfl ?_
  refine r_aload_n (i := 0) hK dX9_guidesTo_9 rfl rfl ?_
  refine r_getA hK flX9_39 to_0 rfl dX9_guidesTo_10 ?_
  refine r_alen (v := 10) hK to_26 (by decide) (by first | rfl | decide) dX9_guidesTo_13 ?_
  refine r_icmp_ge (tgt := 21) hK dX9_guidesTo_14 (by decide) (fun h => absurd h (fun z => absurd ((nI_leI (a := 10) (by decide) (by omega)).mp z) (by omega))) (fun _ => ?_)
  refine r_iload_n (i := 1) hK dX9_guidesTo_17 rfl rfl ?_
  refine r_goto (tgt := 22) hK dX9_guidesTo_18 (by decide) ?_
  refine r_aald3 hK to_26 (vp_in_nI ht (by decide)) (gl_t ht) dX9_guidesTo_22 ?_
  refine q_aret hK hR dX9_guidesTo_23 ?_
  exact ⟨rfl, rfl⟩
set_option maxHeartbeats 4000000 in
set_option maxRecDepth 100000 in
theorem c_gathered {ad : Nat → Nat} {g : St} {X : LN} (hX : LC g X) {t : Nat} {x : Int32} {own : Bool} (hx : x = nI t) (ht : t < X.1) : Ca 7 mX9_gathered [.ref 0, .int x, .int (B1 own)] ad g (fun v g' => v = 27 + 4 * t ∧ FrO (27 + 4 * t) g g' ∧ GsC g' (27 + 4 * t) X.1 X.2.2.1 (vX X t own)) := by
  subst hx
  obtain ⟨hok, hpo, hlaw, x1, hW, hPs, x4⟩ := id hX
  have h10 := hok.2.1
  have h6 := hpo.1
  have h14 := hok.1
  have hG := gp_t (t := t) (by omega)
  obtain ⟨o1, o2, o3, t0, t1, t2, t3⟩ := id hG
  refine Cm.mk rfl (Nat.le_of_ble_eq_true rfl) (fun K hK hR hm hnn => ?_)
  refine r_aload_n (i := 0) hK dX9_gathered_0 rfl rfl ?_
  refine r_iload_n (i := 1) hK dX9_gathered_1 rfl rfl ?_
  refine r_ca1 hK hnn (c_guidesTo rfl (by omega)) moX9_guidesTo mlX9_302 to_0 rfl rfl dX9_gathered_2 (Nat.le_of_ble_eq_true rfl) (Nat.le_of_ble_eq_true rfl) (eqA ?_)
  refine r_astore_n (i := 3) hK hm dX9_gathered_5 rfl (by decide) ?_
  refine r_aload_n (i := 3) hK dX9_gathered_6 rfl rfl ?_
  refine r_iload_n (i := 1) hK dX9_gathered_7 rfl rfl ?_
  refine r_iload_n (i := 2) hK dX9_gathered_8 rfl rfl ?_
  refine r_aload_n (i := 0) hK dX9_gathered_9 rfl rfl ?_
  refine r_getI hK flX9_116 to_0 rfl dX9_gathered_10 ?_
  refine r_top (y := nI X.2.2.2.2.2) x4 ?_
  refine r_cv3 hK hnn (c_gather hok hpo hW hPs ht hlaw hG) moX1_gather mlX9_322 t0 rfl rfl dX9_gathered_13 (Nat.le_of_ble_eq_true rfl) (Nat.le_of_ble_eq_true rfl) (fun g13 q13 => ?_)
  refine r_aload_n (i := 3) hK dX9_gathered_16 rfl rfl ?_
  refine q_aret hK hR dX9_gathered_17 ?_
  obtain ⟨f1, f2, f3, v, e, m, rfl, hem⟩ := q13
  refine ⟨rfl, FrO_gE, VV_ok hok hpo _ _ _, ?_, ?_, ?_⟩
  · exact (congrFun ((gE_n (by omega) (by omega)).trans (pG_n (by decide))) _).trans hPs.1
  · intro p hp
    exact (congrFun ((gE_n (by omega) (by omega)).trans (pG_n (by decide))) _).trans (hPs.2 p hp).1
  · intro p hp
    rw [gE_1, gE_2]
    exact hem p hp
