/-! THE MODEL: needs, rounds -/
theorem sp_iv_le {D : WD} {kn : Nat → Bool} {t : Nat} (r a : Nat) : sp_it (wE D kn) (sp_in FR t) r a ≤ 1000000 := (sp_iv_it r).2.1 a

set_option maxHeartbeats 4000000 in
set_option maxRecDepth 100000 in
theorem l_nO {K : KT} {ad : Nat → Nat} {g : St} {D : WD} {np k t : Nat} (hok : wOk np D) (hW : MWC g D) (hk : k < 2 ^ 31) (hK : Cx K RX10 cX10_findNeeds 2 ad) (hm : K.2.2.1.2.maxLocals = 7) (hnn : Nn K 0 0)
    (hR : Rt K 0 0 TT ad none (Qv ad (fun g' => ∃ f, g' = upR g 109 f ∧ ∀ a, a < 10 → f a = nI (kW D (knb k) t a)))) :
    ∀ m r, r + m = 9 → ∀ f : Nat → Int32, (∀ a, a < 10 → f a = nI (sp_it (wE D (knb k)) (sp_in FR t) r a)) → Wp K 0 0 TT ad (upR g 109 f) 33 [(0, .ref 91), (1, .int (nI k)), (2, .int (nI t)), (3, .int 1)] [] := by
  intro m
  induction m with
  | zero =>
    intro r hr f hf
    have e : r = 9 := by omega
    subst e
    have hch := sp_nine (F := FR) (t := t) (wE_ok hok (knb k))
    have h33 : ∀ f : Nat → Int32, (∀ a, a < 10 → f a = nI (sp_rd (wE D (knb k)) (2 * D.1) (sp_it (wE D (knb k)) (sp_in FR t) 9) a)) → Wp K 0 0 TT ad (upR g 109 f) 33 [(0, .ref 91), (1, .int (nI k)), (2, .int (nI t)), (3, .int (B1 (sp_ch (wE D (knb k)) (2 * D.1) (sp_it (wE D (knb k)) (sp_in FR t) 9))))] [] := by
      intro f2 hf2
      have hch' : sp_ch (wE D (knb k)) (2 * D.1) (sp_it (wE D (knb k)) (sp_in FR t) 9) = false := hch
      rw [hch']
      refine r_iload_n (i := 3) hK dX10_findNeeds_33 rfl rfl ?_
      refine r_if_eq (tgt := 259) hK dX10_findNeeds_34 (by decide) (fun _ => ?_) (fun h => absurd rfl h)
      refine q_vret hK hR dX10_findNeeds_259 ?_
      exact ⟨f2, rfl, fun a ha => by rw [hf2 a ha, (sp_ch_fix (2 * D.1) hch').1]; rfl⟩
    refine r_iload_n (i := 3) hK dX10_findNeeds_33 rfl rfl ?_
    refine r_if_eq (tgt := 259) hK dX10_findNeeds_34 (by decide) (fun h => absurd h (by decide)) (fun _ => ?_)
    refine r_iconst (v := 0) hK dX10_findNeeds_37 (by decide) ?_
    refine r_istore_n (i := 3) hK hm dX10_findNeeds_38 rfl (by decide) ?_
    refine r_iconst (v := 0) hK dX10_findNeeds_39 (by decide) ?_
    refine r_istore (i := 4) hK hm dX10_findNeeds_40 (by decide) ?_
    refine r_loc ?_ (l_nI hok hW hk (fun a => sp_iv_le _ a) hK hm hnn h33 D.1 0 (by omega) f hf)
    rfl
  | succ m ih =>
    intro r hr f hf
    have h33 : ∀ f : Nat → Int32, (∀ a, a < 10 → f a = nI (sp_rd (wE D (knb k)) (2 * D.1) (sp_it (wE D (knb k)) (sp_in FR t) r) a)) → Wp K 0 0 TT ad (upR g 109 f) 33 [(0, .ref 91), (1, .int (nI k)), (2, .int (nI t)), (3, .int (B1 (sp_ch (wE D (knb k)) (2 * D.1) (sp_it (wE D (knb k)) (sp_in FR t) r))))] [] := by
      intro f2 hf2
      by_cases hch' : sp_ch (wE D (knb k)) (2 * D.1) (sp_it (wE D (knb k)) (sp_in FR t) r) = true
      · rw [hch']
        exact ih (r + 1) (by omega) f2 hf2
      · rw [Bool.not_eq_true] at hch'
        rw [hch']
        refine r_iload_n (i := 3) hK dX10_findNeeds_33 rfl rfl ?_
        refine r_if_eq (tgt := 259) hK dX10_findNeeds_34 (by decide) (fun _ => ?_) (fun h => absurd rfl h)
        refine q_vret hK hR dX10_findNeeds_259 ?_
        exact ⟨f2, rfl, fun a ha => by rw [hf2 a ha, (sp_ch_fix (2 * D.1) hch').1]; exact congrArg nI (congrFun (sp_K_of (wE_ok hok (knb k)) (Or.inr hch')) a)⟩
    refine r_iload_n (i := 3) hK dX10_findNeeds_33 rfl rfl ?_
    refine r_if_eq (tgt := 259) hK dX10_findNeeds_34 (by decide) (fun h => absurd h (by decide)) (fun _ => ?_)
    refine r_iconst (v := 0) hK dX10_findNeeds_37 (by decide) ?_
    refine r_istore_n (i := 3) hK hm dX10_findNeeds_38 rfl (by decide) ?_
    refine r_iconst (v := 0) hK dX10_findNeeds_39 (by decide) ?_
    refine r_istore (i := 4) hK hm dX10_findNeeds_40 (by decide) ?_
    refine r_loc ?_ (l_nI hok hW hk (fun a => sp_iv_le _ a) hK hm hnn h33 D.1 0 (by omega) f hf)
    rfl
set_option maxHeartbeats 4000000 in
set_option maxRecDepth 100000 in
theorem l_nF {K : KT} {ad : Nat → Nat} {g : St} {D : WD} {np k t : Nat} (hok : wOk np D) (hW : MWC g D) (hk : k < 2 ^ 31) (ht : t < 10) (hK : Cx K RX10 cX10_findNeeds 2 ad) (hm : K.2.2.1.2.maxLocals = 7) (hnn : Nn K 0 0)
    (hR : Rt K 0 0 TT ad none (Qv ad (fun g' => ∃ f, g' = upR g 109 f ∧ ∀ a, a < 10 → f a = nI (kW D (knb k) t a)))) :
    ∀ m a, a + m = 10 → ∀ f : Nat → Int32, (∀ x, x < a → f x = nI (sp_in FR t x)) → Wp K 0 0 TT ad (upR g 109 f) 2 [(0, .ref 91), (1, .int (nI k)), (2, .int (nI t)), (3, .int (nI a))] [] := by
  intro m
  induction m with
  | zero =>
    intro a ham f hf
    have e : a = 10 := by omega
    subst e
    refine r_iload_n (i := 3) hK dX10_findNeeds_2 rfl rfl ?_
    refine r_bipush (v := 10) hK dX10_findNeeds_3 (by decide) ?_
    refine r_icmp_ge (tgt := 31) hK dX10_findNeeds_5 (by decide) (fun _ => ?_) (fun h => absurd (by decide) h)
    refine r_iconst (v := 1) hK dX10_findNeeds_31 (by decide) ?_
    refine r_istore_n (i := 3) hK hm dX10_findNeeds_32 rfl (by decide) ?_
    refine r_loc ?_ (l_nO hok hW hk hK hm hnn hR 9 0 (by omega) f hf)
    rfl
  | succ m ih =>
    intro a ham f hf
    have ha : a < 10 := by omega
    refine r_iload_n (i := 3) hK dX10_findNeeds_2 rfl rfl ?_
    refine r_bipush (v := 10) hK dX10_findNeeds_3 (by decide) ?_
    refine r_icmp_ge (tgt := 31) hK dX10_findNeeds_5 (by decide) (fun h => absurd h (nI_ge ha (by decide))) (fun _ => ?_)
    refine r_aload_n (i := 0) hK dX10_findNeeds_8 rfl rfl ?_
    refine r_getA hK flX10_65 to_91 rfl dX10_findNeeds_9 ?_
    refine r_iload_n (i := 3) hK dX10_findNeeds_12 rfl rfl ?_
    refine r_iload_n (i := 3) hK dX10_findNeeds_13 rfl rfl ?_
    refine r_iload_n (i := 2) hK dX10_findNeeds_14 rfl rfl ?_
    refine r_icmp_ne (tgt := 22) hK dX10_findNeeds_15 (by decide) (fun h15 => ?_) (fun h15 => ?_)
    · refine r_ldc hK ckX10_248 dX10_findNeeds_22 ?_
      refine r_iasN hK to_109 rfl ha (by decide) dX10_findNeeds_24 ?_
      refine r_g upR_upI ?_
      refine r_iincN (i := 3) hK hm dX10_findNeeds_25 rfl (by decide) ?_
      refine r_goto (tgt := 2) hK dX10_findNeeds_28 (by decide) ?_
      first
        | (refine r_loc ?_ (ih (a + 1) (by omega) _ (fun x hx => ?_)); rfl; unfold upd; by_cases e : x = a; (rw [if_pos e, e]; unfold sp_in; rw [if_neg (fun z => h15 (by rw [z]))]; rfl); (rw [if_neg e]; exact hf x (by omega)))
        | (refine r_loc ?_ (ih (a + 1) (by omega) _ (fun x hx => ?_)); rfl; unfold upd; by_cases e : x = a; (rw [if_pos e, e]; unfold sp_in; rw [if_pos (nI_inj (by omega) (by omega) h15)]; rfl); (rw [if_neg e]; exact hf x (by omega)))
    · refine r_iconst (v := 0) hK dX10_findNeeds_18 (by decide) ?_
      refine r_goto (tgt := 24) hK dX10_findNeeds_19 (by decide) ?_
      refine r_iasN hK to_109 rfl ha (by decide) dX10_findNeeds_24 ?_
      refine r_g upR_upI ?_
      refine r_iincN (i := 3) hK hm dX10_findNeeds_25 rfl (by decide) ?_
      refine r_goto (tgt := 2) hK dX10_findNeeds_28 (by decide) ?_
      first
        | (refine r_loc ?_ (ih (a + 1) (by omega) _ (fun x hx => ?_)); rfl; unfold upd; by_cases e : x = a; (rw [if_pos e, e]; unfold sp_in; rw [if_neg (fun z => h15 (by rw [z]))]; rfl); (rw [if_neg e]; exact hf x (by omega)))
        | (refine r_loc ?_ (ih (a + 1) (by omega) _ (fun x hx => ?_)); rfl; unfold upd; by_cases e : x = a; (rw [if_pos e, e]; unfold sp_in; rw [if_pos (nI_inj (by omega) (by omega) h15)]; rfl); (rw [if_neg e]; exact hf x (by omega)))
set_option maxHeartbeats 4000000 in
set_option maxRecDepth 100000 in
theorem c_mNeeds {ad : Nat → Nat} {g : St} {D : WD} {np k t : Nat} {x y : Int32} (hok : wOk np D) (hW : MWC g D) (hx : x = nI k) (hk : k < 2 ^ 31) (hy : y = nI t) (ht : t < 10) : Cv 2 mX10_findNeeds [.ref 91, .int x, .int y] ad g (fun g' => ∃ f, g' = upR g 109 f ∧ ∀ a, a < 10 → f a = nI (kW D (knb k) t a)) := by
  subst hx; subst hy
  refine Cm.mk rfl (Nat.le_of_ble_eq_true rfl) (fun K hK hR hm hnn => ?_)
  refine r_iconst (v := 0) hK dX10_findNeeds_0 (by decide) ?_
  refine r_istore_n (i := 3) hK hm dX10_findNeeds_1 rfl (by decide) ?_
  refine r_g (upR_id (g := g) (r := 109)).symm ?_
  refine r_loc ?_ (l_nF hok hW hk ht hK hm hnn hR 10 0 (by omega) _ (fun x hx => absurd hx (Nat.not_lt_zero _)))
  rfl
