/-! ANSWERS of led, soonest, guide, lot -/
def lX (X : LN) (a t : Nat) (own : Bool) : LSt := ldF X.2.2.1 (vX X t own) t false 6 (0, a, 0, 0, 0)
def aLed (X : LN) (a t : Int32) (own : Bool) (x : Int32) : Int32 := if (isB a X.1 && isB t X.1) = true then (if x < 0 ∨ 3 < x then OUT else if x = 0 then nI (lX X (nC a) (nC t) own).2.2.1 else if x = 1 then nI (lX X (nC a) (nC t) own).2.1 else if x = 2 then (if (lX X (nC a) (nC t) own).2.1 = nC t then 0 else 1) else nI (lX X (nC a) (nC t) own).2.2.2.1) else UNK
abbrev kX (X : LN) (t : Nat) : Nat → Nat := kP X.2.2.1 (vX X t false) FC t
def aSoon (X : LN) (a t : Int32) : Int32 := if (isB a X.1 && isB t X.1) = true then (if kX X (nC t) (nC a) < FC then nI (kX X (nC t) (nC a) / 16) else -1) else UNK
def aGui (X : LN) (a t i : Int32) : Int32 := if (isB a X.1 && isB t X.1) = true then (if kX X (nC t) (nC a) < FC then (if i = -1 then nI (kX X (nC t) (nC a) % 16) else if ¬ i < 0 ∧ i.toNatClampNeg < kX X (nC t) (nC a) % 16 then nI (gdN X.2.2.1 (vX X (nC t) false) (kX X (nC t)) (gdA X.2.2.1 (vX X (nC t) false) (kX X (nC t)) (nC a) i.toNatClampNeg)) else -1) else -1) else UNK
def cX (X : LN) (a t : Nat) : CA := ctF X.2.2.1 (vX X t false) t 7 0 a 1000000000 0 (0, 0, 0)
def aLot (X : LN) (a t x : Int32) : Int32 := if (isB a X.1 && isB t X.1) = true then (if x < 0 ∨ 2 < x then OUT else if x = 0 then nI (cX X (nC a) (nC t)).1 else if x = 1 then lgI (cX X (nC a) (nC t)).2.1 else (lN (cX X (nC a) (nC t)).2.2 / 1000000).toInt32) else UNK
theorem lX_np {X : LN} (hok : wOk X.1 X.2.1) (hpo : pOk X.1 X.2.2.1 X.2.2.2.1 X.2.2.2.2.1) {a t : Nat} {own : Bool} (ha : a < X.1) : (lX X a t own).2.1 < X.1 := by
  have key : ∀ n S, S.2.1 < X.1 → (ldF X.2.2.1 (vX X t own) t false n S).2.1 < X.1 := by
    intro n
    induction n with
    | zero => intro S h; exact h
    | succ n ih =>
      intro S h
      unfold ldF
      split
      · exact h
      · split
        · exact h
        · rename_i h1 h2
          refine ih _ ?_
          have hv := VV_ok hok hpo X.2.2.2.2.2 t own
          show (vX X t own).1 (ldP X.2.2.1 (vX X t own) false S) < X.1
          obtain ⟨p1, p2, p3, p4⟩ := ldP_is (dr := false) h2
          exact (hv.2.2 _ p1).2.1 p3
  exact key 6 (0, a, 0, 0, 0) ha
theorem c_leadX {ad : Nat → Nat} {g : St} {np : Nat} {P : PD} {V : VT} {o : Nat} (hG : GdP o) (hs : GsC g o np P V) {a t s : Nat} {x y : Int32} (hx : x = nI a) (ha : a < np) (hy : y = nI t) (ht : t < 10) (hsd : g.1 76 0 = nI s) (hs0 : s < 2147483648) : Cv 4 mX1_lead [.ref o, .int x, .int y, .null] ad g (fun g' => g' = lGS g o (ldF P V t false 6 (0, a, 0, 0, s))) := by subst hx; subst hy; exact c_leadN hG hs ha ht hsd hs0
theorem c_fewX {ad : Nat → Nat} {g : St} {np : Nat} {P : PD} {V : VT} {o : Nat} (hG : GdP o) (hs : GsC g o np P V) {a t : Nat} {x y : Int32} (hx : x = nI a) (ha : a < 10) (hy : y = nI t) (ht : t < 10) : Ci 3 mX1_fewestMinutes [.ref o, .int x, .int y] ad g (fun v g' => ∃ f, g' = upR g (o + 3) f ∧ (∀ x, x < 10 → f x = nI (kP P V FC t x)) ∧ v = (if kP P V FC t a < FC then nI (kP P V FC t a / 16) else -1)) := by subst hx; subst hy; exact c_fewestMinutes hG hs ha ht
theorem c_bestX {ad : Nat → Nat} {g : St} {np : Nat} {P : PD} {V : VT} {o : Nat} (hG : GdP o) (hs : GsC g o np P V) {a t : Nat} {x y i : Int32} (hk : ∀ q, q < 10 → g.1 (o + 3) q = nI (kP P V FC t q)) (hx : x = nI a) (ha : a < np) (hy : y = nI t) (ht : t < 10) (hl : kP P V FC t a < FC) : Ci 4 mX1_bestGuide [.ref o, .int x, .int y, .int i] ad g (fun v g' => v = (if ¬ i < 0 ∧ i.toNatClampNeg < kP P V FC t a % 16 then nI (gdN P V (kP P V FC t) (gdA P V (kP P V FC t) a i.toNatClampNeg)) else -1) ∧ g' = g) := by subst hx; subst hy; exact c_bestGuide hG hs hk ha ht hl
theorem c_lotsX {ad : Nat → Nat} {g : St} {np : Nat} {P : PD} {V : VT} {o : Nat} (hG : GdP o) (hs : GsC g o np P V) {a t : Nat} {x y : Int32} (hx : x = nI a) (ha : a < np) (hy : y = nI t) (ht : t < 10) : Cv 12 mX1_lots [.ref o, .int x, .int y] ad g (fun g' => g' = cGA (upI g o 5 (nI t)) o (ctF P V t 7 0 a 1000000000 0 (0, 0, 0))) := by subst hx; subst hy; exact c_lots hG hs ha ht

set_option maxHeartbeats 4000000 in
set_option maxRecDepth 100000 in
theorem c_led {ad : Nat → Nat} {g : St} {X : LN} (hX : LC g X) {a t x : Int32} {own : Bool} {s : Nat} (hsd : g.1 76 0 = nI s) (hs0 : s < 2147483648) : Ci 8 mX9_led [.ref 0, .int a, .int t, .int (B1 own), .int x] ad g (fun v g' => v = aLed X a t own x ∧ Fr g g') := by
  obtain ⟨hok, hpo, hlaw, x1, hW, hPs, x4⟩ := id hX
  have h10 := hok.2.1
  have h6 := hpo.1
  have h14 := hok.1
  refine Cm.mk rfl (Nat.le_of_ble_eq_true rfl) (fun K hK hR hm hnn => ?_)
  refine r_aload_n (i := 0) hK dX9_led_0 rfl rfl ?_
  refine r_getA hK flX9_26 to_0 rfl dX9_led_1 ?_
  refine r_iload_n (i := 1) hK dX9_led_4 rfl rfl ?_
  refine r_ci1 hK hnn (c_hasPlace lp_13 x1) moX4_hasPlace mlX9_162 to_13 rfl rfl dX9_led_5 (Nat.le_of_ble_eq_true rfl) (Nat.le_of_ble_eq_true rfl) (eqI ?_)
  refine r_if_eq (tgt := 22) hK dX9_led_8 (by decide) (fun h8 => ?_) (fun h8 => ?_)
  · refine r_ldc hK ckX9_129 dX9_led_22 ?_
    refine q_iret hK hR dX9_led_24 ?_
    refine ⟨?_, Fr.rf⟩
    have hbf : ¬ (isB a X.1 && isB t X.1) = true := by first | (rw [B1_0.mp h8]; simp; done) | (rw [B1_0.mp h19]; simp; done)
    unfold aLed
    rw [if_neg hbf]
  · refine r_aload_n (i := 0) hK dX9_led_11 rfl rfl ?_
    refine r_getA hK flX9_26 to_0 rfl dX9_led_12 ?_
    refine r_iload_n (i := 2) hK dX9_led_15 rfl rfl ?_
    refine r_ci1 hK hnn (c_hasPlace lp_13 x1) moX4_hasPlace mlX9_162 to_13 rfl rfl dX9_led_16 (Nat.le_of_ble_eq_true rfl) (Nat.le_of_ble_eq_true rfl) (eqI ?_)
    refine r_if_ne (tgt := 25) hK dX9_led_19 (by decide) (fun h19 => ?_) (fun h19 => ?_)
    · refine r_iload (i := 4) hK dX9_led_25 rfl ?_
      refine r_if_lt (tgt := 36) hK dX9_led_27 (by decide) (fun h27 => ?_) (fun h27 => ?_)
      · refine r_ldc hK ckX9_76 dX9_led_36 ?_
        refine q_iret hK hR dX9_led_38 ?_
        refine ⟨?_, Fr.rf⟩
        unfold aLed
        first
          | (rw [if_pos (by rw [B1_n.mp h8, B1_n.mp h19]; rfl), if_pos (Or.inl h27)]; done)
          | (rw [if_pos (by rw [B1_n.mp h8, B1_n.mp h19]; rfl), if_pos (Or.inr (Int32.not_le.mp h33))]; done)
      · refine r_iload (i := 4) hK dX9_led_30 rfl ?_
        refine r_iconst (v := 3) hK dX9_led_32 (by decide) ?_
        refine r_icmp_le (tgt := 39) hK dX9_led_33 (by decide) (fun h33 => ?_) (fun h33 => ?_)
        · refine r_aload_n (i := 0) hK dX9_led_39 rfl rfl ?_
          have hb1 := B1_n.mp h8
          have hb2 := B1_n.mp h19
          have hbb : (isB a X.1 && isB t X.1) = true := by rw [hb1, hb2]; rfl
          obtain ⟨ha1, ha2⟩ := isB_cl (by omega) hb1
          obtain ⟨ht1, ht2⟩ := isB_cl (by omega) hb2
          have hor : ¬ (x < 0 ∨ 3 < x) := (fun z => z.elim h27 (fun y => absurd h33 (Int32.not_le.mpr y)))
          refine r_iload_n (i := 2) hK dX9_led_40 rfl rfl ?_
          refine r_iload_n (i := 3) hK dX9_led_41 rfl rfl ?_
          refine r_ca2 hK hnn (c_gathered (own := own) hX ht2 ht1) moX9_gathered mlX9_208 to_0 rfl rfl dX9_led_42 (Nat.le_of_ble_eq_true rfl) (Nat.le_of_ble_eq_true rfl) (fun v42 g42 q42 => ?_)
          obtain ⟨hv0, hfo, hgs⟩ := q42
          rw [← hv0] at hfo hgs
          have hG : GdP v42 := by rw [hv0]; exact gp_t (by omega)
          obtain ⟨o1, o2, o3, t0, t1, t2, t3⟩ := id hG
          refine r_astore (i := 5) hK hm dX9_led_45 (by decide) ?_
          refine r_aload (i := 5) hK dX9_led_47 rfl ?_
          have hsd2 : g42.1 76 0 = nI s := (congrFun (hfo.1 76 (by omega) (by omega)) 0).trans hsd
          refine r_iload_n (i := 1) hK dX9_led_49 rfl rfl ?_
          refine r_iload_n (i := 2) hK dX9_led_50 rfl rfl ?_
          refine r_null hK dX9_led_51 ?_
          refine r_cv3 hK hnn (c_leadX hG hgs ha2 ha1 ht2 (by omega) hsd2 hs0) moX1_lead mlX9_212 t0 rfl rfl dX9_led_52 (Nat.le_of_ble_eq_true rfl) (Nat.le_of_ble_eq_true rfl) (eqV ?_)
          have hfr : Fr g (lGS g42 v42 (ldF X.2.2.1 (vX X t.toNatClampNeg own) t.toNatClampNeg false 6 (0, a.toNatClampNeg, 0, 0, s))) := by rw [ldF_seed 6 0 _ 0 0 0]; exact (hfo.tr (FrO_lG hsd2 (by omega))).fr (by omega) (by omega)
          have hS : ldF X.2.2.1 (vX X t.toNatClampNeg own) t.toNatClampNeg false 6 (0, a.toNatClampNeg, 0, 0, s) = ((lX X (nC a) (nC t) own).1, (lX X (nC a) (nC t) own).2.1, (lX X (nC a) (nC t) own).2.2.1, (lX X (nC a) (nC t) own).2.2.2.1, s) := ldF_seed 6 0 _ 0 0 0
          have hS1 : (ldF X.2.2.1 (vX X t.toNatClampNeg own) t.toNatClampNeg false 6 (0, a.toNatClampNeg, 0, 0, s)).2.2.1 = (lX X (nC a) (nC t) own).2.2.1 := by rw [hS]
          have hS2 : (ldF X.2.2.1 (vX X t.toNatClampNeg own) t.toNatClampNeg false 6 (0, a.toNatClampNeg, 0, 0, s)).2.1 = (lX X (nC a) (nC t) own).2.1 := by rw [hS]
          have hS3 : (ldF X.2.2.1 (vX X t.toNatClampNeg own) t.toNatClampNeg false 6 (0, a.toNatClampNeg, 0, 0, s)).2.2.2.1 = (lX X (nC a) (nC t) own).2.2.2.1 := by rw [hS]
          have hnp : nI (lX X (nC a) (nC t) own).2.1 = t → (lX X (nC a) (nC t) own).2.1 = nC t := by
            intro z
            have hb3 : (lX X (nC a) (nC t) own).2.1 < X.1 := lX_np hok hpo ha1
            have z2 : (nI (lX X (nC a) (nC t) own).2.1).toNatClampNeg = nC t := by rw [z]
            rw [nI_clamp (by omega)] at z2
            exact z2
          refine r_iload (i := 4) hK dX9_led_55 rfl ?_
          refine r_sw (n := 3) (lo := 0) (tgt0 := 111) hK dX9_led_57 (by decide) (by decide) (by decide) (by decide) (fun h57 => ?_) (fun i57 hi57 h57 => ?_)
          · refine r_aload (i := 5) hK dX9_led_111 rfl ?_
            refine r_getI hK flX9_222 t0 rfl dX9_led_113 ?_
            refine q_iret hK hR dX9_led_116 ?_
            refine ⟨?_, hfr⟩
            unfold aLed
            first
              | (rw [if_pos hbb, if_neg hor, (show x = 0 from h57)]; rw [if_pos rfl]; rw [lG_7, hS1]; done)
              | (rw [if_pos hbb, if_neg hor, (show x = 1 from h57)]; rw [if_neg (by decide)]; rw [if_pos rfl]; rw [lG_6, hS2]; done)
              | (rw [if_pos hbb, if_neg hor, (show x = 2 from h57)]; rw [if_neg (by decide)]; rw [if_neg (by decide)]; rw [if_pos rfl]; rw [lG_6, hS2] at h102; rw [if_pos (hnp h102)]; done)
              | (rw [if_pos hbb, if_neg hor, (show x = 2 from h57)]; rw [if_neg (by decide)]; rw [if_neg (by decide)]; rw [if_pos rfl]; rw [lG_6, hS2] at h102; rw [if_neg (fun z => h102 (by rw [z, ← ht2]))]; done)
              | (rw [if_pos hbb, if_neg hor, if_neg (show ¬ x = 0 from swn 0 h57 (by decide) (by decide)), if_neg (show ¬ x = 1 from swn 1 h57 (by decide) (by decide)), if_neg (show ¬ x = 2 from swn 2 h57 (by decide) (by decide))]; rw [lG_8, hS3]; done)
          · obtain rfl | rfl | rfl : i57 = 0 ∨ i57 = 1 ∨ i57 = 2 := by omega
            · refine ⟨_, 84, rfl, by decide, ?_⟩
              refine r_aload (i := 5) hK dX9_led_84 rfl ?_
              refine r_getI hK flX9_216 t0 rfl dX9_led_86 ?_
              refine q_iret hK hR dX9_led_89 ?_
              refine ⟨?_, hfr⟩
              unfold aLed
              first
                | (rw [if_pos hbb, if_neg hor, (show x = 0 from h57)]; rw [if_pos rfl]; rw [lG_7, hS1]; done)
                | (rw [if_pos hbb, if_neg hor, (show x = 1 from h57)]; rw [if_neg (by decide)]; rw [if_pos rfl]; rw [lG_6, hS2]; done)
                | (rw [if_pos hbb, if_neg hor, (show x = 2 from h57)]; rw [if_neg (by decide)]; rw [if_neg (by decide)]; rw [if_pos rfl]; rw [lG_6, hS2] at h102; rw [if_pos (hnp h102)]; done)
                | (rw [if_pos hbb, if_neg hor, (show x = 2 from h57)]; rw [if_neg (by decide)]; rw [if_neg (by decide)]; rw [if_pos rfl]; rw [lG_6, hS2] at h102; rw [if_neg (fun z => h102 (by rw [z, ← ht2]))]; done)
                | (rw [if_pos hbb, if_neg hor, if_neg (show ¬ x = 0 from swn 0 h57 (by decide) (by decide)), if_neg (show ¬ x = 1 from swn 1 h57 (by decide) (by decide)), if_neg (show ¬ x = 2 from swn 2 h57 (by decide) (by decide))]; rw [lG_8, hS3]; done)
            · refine ⟨_, 90, rfl, by decide, ?_⟩
              refine r_aload (i := 5) hK dX9_led_90 rfl ?_
              refine r_getI hK flX9_219 t0 rfl dX9_led_92 ?_
              refine q_iret hK hR dX9_led_95 ?_
              refine ⟨?_, hfr⟩
              unfold aLed
              first
                | (rw [if_pos hbb, if_neg hor, (show x = 0 from h57)]; rw [if_pos rfl]; rw [lG_7, hS1]; done)
                | (rw [if_pos hbb, if_neg hor, (show x = 1 from h57)]; rw [if_neg (by decide)]; rw [if_pos rfl]; rw [lG_6, hS2]; done)
                | (rw [if_pos hbb, if_neg hor, (show x = 2 from h57)]; rw [if_neg (by decide)]; rw [if_neg (by decide)]; rw [if_pos rfl]; rw [lG_6, hS2] at h102; rw [if_pos (hnp h102)]; done)
                | (rw [if_pos hbb, if_neg hor, (show x = 2 from h57)]; rw [if_neg (by decide)]; rw [if_neg (by decide)]; rw [if_pos rfl]; rw [lG_6, hS2] at h102; rw [if_neg (fun z => h102 (by rw [z, ← ht2]))]; done)
                | (rw [if_pos hbb, if_neg hor, if_neg (show ¬ x = 0 from swn 0 h57 (by decide) (by decide)), if_neg (show ¬ x = 1 from swn 1 h57 (by decide) (by decide)), if_neg (show ¬ x = 2 from swn 2 h57 (by decide) (by decide))]; rw [lG_8, hS3]; done)
            · refine ⟨_, 96, rfl, by decide, ?_⟩
              refine r_aload (i := 5) hK dX9_led_96 rfl ?_
              refine r_getI hK flX9_219 t0 rfl dX9_led_98 ?_
              refine r_iload_n (i := 2) hK dX9_led_101 rfl rfl ?_
              refine r_icmp_ne (tgt := 109) hK dX9_led_102 (by decide) (fun h102 => ?_) (fun h102 => ?_)
              · refine r_iconst (v := 1) hK dX9_led_109 (by decide) ?_
                refine q_iret hK hR dX9_led_110 ?_
                refine ⟨?_, hfr⟩
                unfold aLed
                first
                  | (rw [if_pos hbb, if_neg hor, (show x = 0 from h57)]; rw [if_pos rfl]; rw [lG_7, hS1]; done)
                  | (rw [if_pos hbb, if_neg hor, (show x = 1 from h57)]; rw [if_neg (by decide)]; rw [if_pos rfl]; rw [lG_6, hS2]; done)
                  | (rw [if_pos hbb, if_neg hor, (show x = 2 from h57)]; rw [if_neg (by decide)]; rw [if_neg (by decide)]; rw [if_pos rfl]; rw [lG_6, hS2] at h102; rw [if_pos (hnp h102)]; done)
                  | (rw [if_pos hbb, if_neg hor, (show x = 2 from h57)]; rw [if_neg (by decide)]; rw [if_neg (by decide)]; rw [if_pos rfl]; rw [lG_6, hS2] at h102; rw [if_neg (fun z => h102 (by rw [z, ← ht2]))]; done)
                  | (rw [if_pos hbb, if_neg hor, if_neg (show ¬ x = 0 from swn 0 h57 (by decide) (by decide)), if_neg (show ¬ x = 1 from swn 1 h57 (by decide) (by decide)), if_neg (show ¬ x = 2 from swn 2 h57 (by decide) (by decide))]; rw [lG_8, hS3]; done)
              · refine r_iconst (v := 0) hK dX9_led_105 (by decide) ?_
                refine r_goto (tgt := 110) hK dX9_led_106 (by decide) ?_
                refine q_iret hK hR dX9_led_110 ?_
                refine ⟨?_, hfr⟩
                unfold aLed
                first
                  | (rw [if_pos hbb, if_neg hor, (show x = 0 from h57)]; rw [if_pos rfl]; rw [lG_7, hS1]; done)
                  | (rw [if_pos hbb, if_neg hor, (show x = 1 from h57)]; rw [if_neg (by decide)]; rw [if_pos rfl]; rw [lG_6, hS2]; done)
                  | (rw [if_pos hbb, if_neg hor, (show x = 2 from h57)]; rw [if_neg (by decide)]; rw [if_neg (by decide)]; rw [if_pos rfl]; rw [lG_6, hS2] at h102; rw [if_pos (hnp h102)]; done)
                  | (rw [if_pos hbb, if_neg hor, (show x = 2 from h57)]; rw [if_neg (by decide)]; rw [if_neg (by decide)]; rw [if_pos rfl]; rw [lG_6, hS2] at h102; rw [if_neg (fun z => h102 (by rw [z, ← ht2]))]; done)
                  | (rw [if_pos hbb, if_neg hor, if_neg (show ¬ x = 0 from swn 0 h57 (by decide) (by decide)), if_neg (show ¬ x = 1 from swn 1 h57 (by decide) (by decide)), if_neg (show ¬ x = 2 from swn 2 h57 (by decide) (by decide))]; rw [lG_8, hS3]; done)
        · refine r_ldc hK ckX9_76 dX9_led_36 ?_
          refine q_iret hK hR dX9_led_38 ?_
          refine ⟨?_, Fr.rf⟩
          unfold aLed
          first
            | (rw [if_pos (by rw [B1_n.mp h8, B1_n.mp h19]; rfl), if_pos (Or.inl h27)]; done)
            | (rw [if_pos (by rw [B1_n.mp h8, B1_n.mp h19]; rfl), if_pos (Or.inr (Int32.not_le.mp h33))]; done)
    · refine r_ldc hK ckX9_129 dX9_led_22 ?_
      refine q_iret hK hR dX9_led_24 ?_
      refine ⟨?_, Fr.rf⟩
      have hbf : ¬ (isB a X.1 && isB t X.1) = true := by first | (rw [B1_0.mp h8]; simp; done) | (rw [B1_0.mp h19]; simp; done)
      unfold aLed
      rw [if_neg hbf]
set_option maxHeartbeats 4000000 in
set_option maxRecDepth 100000 in
theorem c_soonest {ad : Nat → Nat} {g : St} {X : LN} (hX : LC g X) {a t : Int32} : Ci 8 mX9_soonest [.ref 0, .int a, .int t] ad g (fun v g' => v = aSoon X a t ∧ Fr g g') := by
  obtain ⟨hok, hpo, hlaw, x1, hW, hPs, x4⟩ := id hX
  have h10 := hok.2.1
  have h6 := hpo.1
  have h14 := hok.1
  refine Cm.mk rfl (Nat.le_of_ble_eq_true rfl) (fun K hK hR hm hnn => ?_)
  refine r_aload_n (i := 0) hK dX9_soonest_0 rfl rfl ?_
  refine r_getA hK flX9_26 to_0 rfl dX9_soonest_1 ?_
  refine r_iload_n (i := 1) hK dX9_soonest_4 rfl rfl ?_
  refine r_ci1 hK hnn (c_hasPlace lp_13 x1) moX4_hasPlace mlX9_162 to_13 rfl rfl dX9_soonest_5 (Nat.le_of_ble_eq_true rfl) (Nat.le_of_ble_eq_true rfl) (eqI ?_)
  refine r_if_eq (tgt := 22) hK dX9_soonest_8 (by decide) (fun h8 => ?_) (fun h8 => ?_)
  · refine r_ldc hK ckX9_129 dX9_soonest_22 ?_
    refine q_iret hK hR dX9_soonest_24 ?_
    refine ⟨?_, Fr.rf⟩
    have hbf : ¬ (isB a X.1 && isB t X.1) = true := by first | (rw [B1_0.mp h8]; simp; done) | (rw [B1_0.mp h19]; simp; done)
    unfold aSoon
    rw [if_neg hbf]
  · refine r_aload_n (i := 0) hK dX9_soonest_11 rfl rfl ?_
    refine r_getA hK flX9_26 to_0 rfl dX9_soonest_12 ?_
    refine r_iload_n (i := 2) hK dX9_soonest_15 rfl rfl ?_
    refine r_ci1 hK hnn (c_hasPlace lp_13 x1) moX4_hasPlace mlX9_162 to_13 rfl rfl dX9_soonest_16 (Nat.le_of_ble_eq_true rfl) (Nat.le_of_ble_eq_true rfl) (eqI ?_)
    refine r_if_ne (tgt := 25) hK dX9_soonest_19 (by decide) (fun h19 => ?_) (fun h19 => ?_)
    · refine r_aload_n (i := 0) hK dX9_soonest_25 rfl rfl ?_
      have hb1 := B1_n.mp h8
      have hb2 := B1_n.mp h19
      have hbb : (isB a X.1 && isB t X.1) = true := by rw [hb1, hb2]; rfl
      obtain ⟨ha1, ha2⟩ := isB_cl (by omega) hb1
      obtain ⟨ht1, ht2⟩ := isB_cl (by omega) hb2
      refine r_iload_n (i := 2) hK dX9_soonest_26 rfl rfl ?_
      refine r_iconst (v := 0) hK dX9_soonest_27 (by decide) ?_
      refine r_ca2 hK hnn (c_gathered (own := false) hX ht2 ht1) moX9_gathered mlX9_208 to_0 rfl rfl dX9_soonest_28 (Nat.le_of_ble_eq_true rfl) (Nat.le_of_ble_eq_true rfl) (fun v28 g28 q28 => ?_)
      obtain ⟨hv0, hfo, hgs⟩ := q28
      rw [← hv0] at hfo hgs
      have hG : GdP v28 := by rw [hv0]; exact gp_t (by omega)
      obtain ⟨o1, o2, o3, t0, t1, t2, t3⟩ := id hG
      refine r_iload_n (i := 1) hK dX9_soonest_31 rfl rfl ?_
      have hax : a = nI a.toNatClampNeg := ha2
      refine r_iload_n (i := 2) hK dX9_soonest_32 rfl rfl ?_
      refine r_ci2 hK hnn (c_fewX hG hgs ha2 (by omega) ht2 (by omega)) moX1_fewestMinutes mlX9_225 t0 rfl rfl dX9_soonest_33 (Nat.le_of_ble_eq_true rfl) (Nat.le_of_ble_eq_true rfl) (fun v33 g33 q33 => ?_)
      obtain ⟨f, rfl, hf, rfl⟩ := q33
      refine q_iret hK hR dX9_soonest_36 ?_
      refine ⟨?_, (hfo.tr FrO_upR).fr (by omega) (by omega)⟩
      unfold aSoon
      rw [if_pos hbb]
    · refine r_ldc hK ckX9_129 dX9_soonest_22 ?_
      refine q_iret hK hR dX9_soonest_24 ?_
      refine ⟨?_, Fr.rf⟩
      have hbf : ¬ (isB a X.1 && isB t X.1) = true := by first | (rw [B1_0.mp h8]; simp; done) | (rw [B1_0.mp h19]; simp; done)
      unfold aSoon
      rw [if_neg hbf]
set_option maxHeartbeats 4000000 in
set_option maxRecDepth 100000 in
theorem c_guide {ad : Nat → Nat} {g : St} {X : LN} (hX : LC g X) {a t i : Int32} : Ci 8 mX9_guide [.ref 0, .int a, .int t, .int i] ad g (fun v g' => v = aGui X a t i ∧ Fr g g') := by
  obtain ⟨hok, hpo, hlaw, x1, hW, hPs, x4⟩ := id hX
  have h10 := hok.2.1
  have h6 := hpo.1
  have h14 := hok.1
  refine Cm.mk rfl (Nat.le_of_ble_eq_true rfl) (fun K hK hR hm hnn => ?_)
  refine r_aload_n (i := 0) hK dX9_guide_0 rfl rfl ?_
  refine r_getA hK flX9_26 to_0 rfl dX9_guide_1 ?_
  refine r_iload_n (i := 1) hK dX9_guide_4 rfl rfl ?_
  refine r_ci1 hK hnn (c_hasPlace lp_13 x1) moX4_hasPlace mlX9_162 to_13 rfl rfl dX9_guide_5 (Nat.le_of_ble_eq_true rfl) (Nat.le_of_ble_eq_true rfl) (eqI ?_)
  refine r_if_eq (tgt := 22) hK dX9_guide_8 (by decide) (fun h8 => ?_) (fun h8 => ?_)
  · refine r_ldc hK ckX9_129 dX9_guide_22 ?_
    refine q_iret hK hR dX9_guide_24 ?_
    refine ⟨?_, Fr.rf⟩
    have hbf : ¬ (isB a X.1 && isB t X.1) = true := by first | (rw [B1_0.mp h8]; simp; done) | (rw [B1_0.mp h19]; simp; done)
    unfold aGui
    rw [if_neg hbf]
  · refine r_aload_n (i := 0) hK dX9_guide_11 rfl rfl ?_
    refine r_getA hK flX9_26 to_0 rfl dX9_guide_12 ?_
    refine r_iload_n (i := 2) hK dX9_guide_15 rfl rfl ?_
    refine r_ci1 hK hnn (c_hasPlace lp_13 x1) moX4_hasPlace mlX9_162 to_13 rfl rfl dX9_guide_16 (Nat.le_of_ble_eq_true rfl) (Nat.le_of_ble_eq_true rfl) (eqI ?_)
    refine r_if_ne (tgt := 25) hK dX9_guide_19 (by decide) (fun h19 => ?_) (fun h19 => ?_)
    · refine r_aload_n (i := 0) hK dX9_guide_25 rfl rfl ?_
      have hb1 := B1_n.mp h8
      have hb2 := B1_n.mp h19
      have hbb : (isB a X.1 && isB t X.1) = true := by rw [hb1, hb2]; rfl
      obtain ⟨ha1, ha2⟩ := isB_cl (by omega) hb1
      obtain ⟨ht1, ht2⟩ := isB_cl (by omega) hb2
      refine r_iload_n (i := 2) hK dX9_guide_26 rfl rfl ?_
      refine r_iconst (v := 0) hK dX9_guide_27 (by decide) ?_
      refine r_ca2 hK hnn (c_gathered (own := false) hX ht2 ht1) moX9_gathered mlX9_208 to_0 rfl rfl dX9_guide_28 (Nat.le_of_ble_eq_true rfl) (Nat.le_of_ble_eq_true rfl) (fun v28 g28 q28 => ?_)
      obtain ⟨hv0, hfo, hgs⟩ := q28
      rw [← hv0] at hfo hgs
      have hG : GdP v28 := by rw [hv0]; exact gp_t (by omega)
      obtain ⟨o1, o2, o3, t0, t1, t2, t3⟩ := id hG
      refine r_astore (i := 4) hK hm dX9_guide_31 (by decide) ?_
      refine r_aload (i := 4) hK dX9_guide_33 rfl ?_
      refine r_iload_n (i := 1) hK dX9_guide_35 rfl rfl ?_
      refine r_iload_n (i := 2) hK dX9_guide_36 rfl rfl ?_
      refine r_ci2 hK hnn (c_fewX hG hgs ha2 (by omega) ht2 (by omega)) moX1_fewestMinutes mlX9_225 t0 rfl rfl dX9_guide_37 (Nat.le_of_ble_eq_true rfl) (Nat.le_of_ble_eq_true rfl) (fun v37 g37 q37 => ?_)
      obtain ⟨f, rfl, hf, rfl⟩ := q37
      have hfr : Fr g (upR g28 (v28 + 3) f) := (hfo.tr FrO_upR).fr (by omega) (by omega)
      have hgs2 : GsC (upR g28 (v28 + 3) f) v28 X.1 X.2.2.1 (vX X t.toNatClampNeg false) := GsC_of hgs (upR_n (by omega)) (upR_n (by omega)) (upR_n (by omega)) (upR_n (by omega))
      have hqk : ∀ q, q < 10 → (upR g28 (v28 + 3) f).1 (v28 + 3) q = nI (kP X.2.2.1 (vX X t.toNatClampNeg false) FC t.toNatClampNeg q) := fun q hq => by rw [upR_s]; exact hf q hq
      refine r_iconst (v := (-1)) hK dX9_guide_40 (by decide) ?_
      refine r_icmp_ne (tgt := 46) hK dX9_guide_41 (by decide) (fun h41 => ?_) (fun h41 => ?_)
      · refine r_iload_n (i := 3) hK dX9_guide_46 rfl rfl ?_
        have hl : kX X (nC t) (nC a) < FC := by
          by_cases z : kX X (nC t) (nC a) < FC
          · exact z
          · rw [if_neg z] at h41; exact absurd rfl h41
        refine r_iconst (v := (-1)) hK dX9_guide_47 (by decide) ?_
        refine r_icmp_ne (tgt := 60) hK dX9_guide_48 (by decide) (fun h48 => ?_) (fun h48 => ?_)
        · refine r_aload (i := 4) hK dX9_guide_60 rfl ?_
          refine r_iload_n (i := 1) hK dX9_guide_62 rfl rfl ?_
          refine r_iload_n (i := 2) hK dX9_guide_63 rfl rfl ?_
          refine r_iload_n (i := 3) hK dX9_guide_64 rfl rfl ?_
          refine r_ci3 hK hnn (c_bestX hG hgs2 hqk ha2 ha1 ht2 (by omega) hl) moX1_bestGuide mlX9_231 t0 rfl rfl dX9_guide_65 (Nat.le_of_ble_eq_true rfl) (Nat.le_of_ble_eq_true rfl) (eqI ?_)
          refine q_iret hK hR dX9_guide_68 ?_
          refine ⟨?_, hfr⟩
          unfold aGui
          rw [if_pos hbb, if_pos hl]
          first
            | (rw [if_pos (Classical.not_not.mp h48)]; done)
            | (rw [if_pos h48]; done)
            | (rw [if_neg h48]; done)
        · refine r_aload (i := 4) hK dX9_guide_51 rfl ?_
          refine r_iload_n (i := 1) hK dX9_guide_53 rfl rfl ?_
          refine r_ci1 hK hnn (c_fewestGuides hG hqk (fun q => kP_le q) ha2 (by omega)) moX1_fewestGuides mlX9_228 t0 rfl rfl dX9_guide_54 (Nat.le_of_ble_eq_true rfl) (Nat.le_of_ble_eq_true rfl) (eqI ?_)
          refine r_goto (tgt := 68) hK dX9_guide_57 (by decide) ?_
          refine q_iret hK hR dX9_guide_68 ?_
          refine ⟨?_, hfr⟩
          unfold aGui
          rw [if_pos hbb, if_pos hl]
          first
            | (rw [if_pos (Classical.not_not.mp h48)]; done)
            | (rw [if_pos h48]; done)
            | (rw [if_neg h48]; done)
      · refine r_iconst (v := (-1)) hK dX9_guide_44 (by decide) ?_
        refine q_iret hK hR dX9_guide_45 ?_
        refine ⟨?_, hfr⟩
        unfold aGui
        rw [if_pos hbb]
        by_cases hl : kX X (nC t) (nC a) < FC
        · rw [if_pos hl] at h41
          exact absurd (Classical.not_not.mp (fun z => z h41)) (nI_m1 (by have hl2 : kP X.2.2.1 (vX X t.toNatClampNeg false) FC t.toNatClampNeg a.toNatClampNeg < 1000000000 := hl; omega))
        · rw [if_neg hl]
    · refine r_ldc hK ckX9_129 dX9_guide_22 ?_
      refine q_iret hK hR dX9_guide_24 ?_
      refine ⟨?_, Fr.rf⟩
      have hbf : ¬ (isB a X.1 && isB t X.1) = true := by first | (rw [B1_0.mp h8]; simp; done) | (rw [B1_0.mp h19]; simp; done)
      unfold aGui
      rw [if_neg hbf]
set_option maxHeartbeats 4000000 in
set_option maxRecDepth 100000 in
theorem c_lot {ad : Nat → Nat} {g : St} {X : LN} (hX : LC g X) {a t x : Int32} : Ci 13 mX9_lot [.ref 0, .int a, .int t, .int x] ad g (fun v g' => v = aLot X a t x ∧ Fr g g') := by
  obtain ⟨hok, hpo, hlaw, x1, hW, hPs, x4⟩ := id hX
  have h10 := hok.2.1
  have h6 := hpo.1
  have h14 := hok.1
  refine Cm.mk rfl (Nat.le_of_ble_eq_true rfl) (fun K hK hR hm hnn => ?_)
  refine r_aload_n (i := 0) hK dX9_lot_0 rfl rfl ?_
  refine r_getA hK flX9_26 to_0 rfl dX9_lot_1 ?_
  refine r_iload_n (i := 1) hK dX9_lot_4 rfl rfl ?_
  refine r_ci1 hK hnn (c_hasPlace lp_13 x1) moX4_hasPlace mlX9_162 to_13 rfl rfl dX9_lot_5 (Nat.le_of_ble_eq_true rfl) (Nat.le_of_ble_eq_true rfl) (eqI ?_)
  refine r_if_eq (tgt := 22) hK dX9_lot_8 (by decide) (fun h8 => ?_) (fun h8 => ?_)
  · refine r_ldc hK ckX9_129 dX9_lot_22 ?_
    refine q_iret hK hR dX9_lot_24 ?_
    refine ⟨?_, Fr.rf⟩
    have hbf : ¬ (isB a X.1 && isB t X.1) = true := by first | (rw [B1_0.mp h8]; simp; done) | (rw [B1_0.mp h19]; simp; done)
    unfold aLot
    rw [if_neg hbf]
  · refine r_aload_n (i := 0) hK dX9_lot_11 rfl rfl ?_
    refine r_getA hK flX9_26 to_0 rfl dX9_lot_12 ?_
    refine r_iload_n (i := 2) hK dX9_lot_15 rfl rfl ?_
    refine r_ci1 hK hnn (c_hasPlace lp_13 x1) moX4_hasPlace mlX9_162 to_13 rfl rfl dX9_lot_16 (Nat.le_of_ble_eq_true rfl) (Nat.le_of_ble_eq_true rfl) (eqI ?_)
    refine r_if_ne (tgt := 25) hK dX9_lot_19 (by decide) (fun h19 => ?_) (fun h19 => ?_)
    · refine r_iload_n (i := 3) hK dX9_lot_25 rfl rfl ?_
      refine r_if_lt (tgt := 34) hK dX9_lot_26 (by decide) (fun h26 => ?_) (fun h26 => ?_)
      · refine r_ldc hK ckX9_76 dX9_lot_34 ?_
        refine q_iret hK hR dX9_lot_36 ?_
        refine ⟨?_, Fr.rf⟩
        unfold aLot
        first
          | (rw [if_pos (by rw [B1_n.mp h8, B1_n.mp h19]; rfl), if_pos (Or.inl h26)]; done)
          | (rw [if_pos (by rw [B1_n.mp h8, B1_n.mp h19]; rfl), if_pos (Or.inr (Int32.not_le.mp h31))]; done)
      · refine r_iload_n (i := 3) hK dX9_lot_29 rfl rfl ?_
        refine r_iconst (v := 2) hK dX9_lot_30 (by decide) ?_
        refine r_icmp_le (tgt := 37) hK dX9_lot_31 (by decide) (fun h31 => ?_) (fun h31 => ?_)
        · refine r_aload_n (i := 0) hK dX9_lot_37 rfl rfl ?_
          have hb1 := B1_n.mp h8
          have hb2 := B1_n.mp h19
          have hbb : (isB a X.1 && isB t X.1) = true := by rw [hb1, hb2]; rfl
          obtain ⟨ha1, ha2⟩ := isB_cl (by omega) hb1
          obtain ⟨ht1, ht2⟩ := isB_cl (by omega) hb2
          have hor : ¬ (x < 0 ∨ 2 < x) := (fun z => z.elim h26 (fun y => absurd h31 (Int32.not_le.mpr y)))
          refine r_iload_n (i := 2) hK dX9_lot_38 rfl rfl ?_
          refine r_iconst (v := 0) hK dX9_lot_39 (by decide) ?_
          refine r_ca2 hK hnn (c_gathered (own := false) hX ht2 ht1) moX9_gathered mlX9_208 to_0 rfl rfl dX9_lot_40 (Nat.le_of_ble_eq_true rfl) (Nat.le_of_ble_eq_true rfl) (fun v40 g40 q40 => ?_)
          obtain ⟨hv0, hfo, hgs⟩ := q40
          rw [← hv0] at hfo hgs
          have hG : GdP v40 := by rw [hv0]; exact gp_t (by omega)
          obtain ⟨o1, o2, o3, t0, t1, t2, t3⟩ := id hG
          refine r_astore (i := 4) hK hm dX9_lot_43 (by decide) ?_
          refine r_aload (i := 4) hK dX9_lot_45 rfl ?_
          refine r_iload_n (i := 1) hK dX9_lot_47 rfl rfl ?_
          refine r_iload_n (i := 2) hK dX9_lot_48 rfl rfl ?_
          refine r_cv2 hK hnn (c_lotsX hG hgs ha2 ha1 ht2 (by omega)) moX1_lots mlX9_234 t0 rfl rfl dX9_lot_49 (Nat.le_of_ble_eq_true rfl) (Nat.le_of_ble_eq_true rfl) (eqV ?_)
          have hfr : Fr g (cGA (upI g40 v40 5 (nI t.toNatClampNeg)) v40 (cX X (nC a) (nC t))) := (hfo.tr FrO_cG).fr (by omega) (by omega)
          refine r_iload_n (i := 3) hK dX9_lot_52 rfl rfl ?_
          refine r_lk2 (a := 0) (b := 1) (ta := 80) (tb := 86) (td := 92) hK dX9_lot_53 (by decide) (by decide) (by decide) (by decide) (by decide) (by decide) (fun h53 => ?_) (fun i53 h53 => ?_) (fun i53 h53 => ?_)
          · refine r_aload (i := 4) hK dX9_lot_80 rfl ?_
            refine r_getI hK flX9_238 t0 rfl dX9_lot_82 ?_
            refine q_iret hK hR dX9_lot_85 ?_
            refine ⟨?_, hfr⟩
            unfold aLot
            rw [if_pos hbb, if_neg hor, if_pos h53]
            exact cG_9
          · refine r_aload (i := 4) hK dX9_lot_86 rfl ?_
            refine r_getI hK flX9_241 t0 rfl dX9_lot_88 ?_
            refine q_iret hK hR dX9_lot_91 ?_
            refine ⟨?_, hfr⟩
            unfold aLot
            rw [if_pos hbb, if_neg hor, if_neg i53, if_pos h53]
            exact cG_10
          · refine r_aload (i := 4) hK dX9_lot_92 rfl ?_
            refine r_getL hK flX9_244 t0 rfl dX9_lot_94 ?_
            refine r_ldc2 hK ckX9_248 dX9_lot_97 ?_
            refine r_ldiv hK dX9_lot_100 (by decide) ?_
            refine r_l2i hK dX9_lot_101 ?_
            refine q_iret hK hR dX9_lot_102 ?_
            refine ⟨?_, hfr⟩
            unfold aLot
            rw [if_pos hbb, if_neg hor, if_neg i53, if_neg h53]
            rw [cG_L]
            rfl
        · refine r_ldc hK ckX9_76 dX9_lot_34 ?_
          refine q_iret hK hR dX9_lot_36 ?_
          refine ⟨?_, Fr.rf⟩
          unfold aLot
          first
            | (rw [if_pos (by rw [B1_n.mp h8, B1_n.mp h19]; rfl), if_pos (Or.inl h26)]; done)
            | (rw [if_pos (by rw [B1_n.mp h8, B1_n.mp h19]; rfl), if_pos (Or.inr (Int32.not_le.mp h31))]; done)
    · refine r_ldc hK ckX9_129 dX9_lot_22 ?_
      refine q_iret hK hR dX9_lot_24 ?_
      refine ⟨?_, Fr.rf⟩
      have hbf : ¬ (isB a X.1 && isB t X.1) = true := by first | (rw [B1_0.mp h8]; simp; done) | (rw [B1_0.mp h19]; simp; done)
      unfold aLot
      rw [if_neg hbf]
