set_option maxHeartbeats 4000000 in
theorem l_fill {K : KT} {ad : Nat → Nat} {g : St} {r n : Nat} {rs : List Nat} {x : Int32} {own : String} {d : Nat} (hr : TT[r]? = some (.inr (0, n, rs))) (hn : n < 2 ^ 31) (hK : Cx K own cJ7_fill_53178 d ad) (hm : K.2.2.1.2.maxLocals = 4) (hnn : Nn K 0 0) (hR : Rt K 0 0 TT ad none (Qv ad (fun g' => ∃ f, g' = upR g r f ∧ ∀ j, j < n → f j = x))) : ∀ m i, i + m = n → i ≤ n → ∀ f : Nat → Int32, (∀ j, j < i → f j = x) → Wp K 0 0 TT ad (upR g r f) 5 [(2, .int (nI i)), (3, .int (nI n)), (0, .ref r), (1, .int x)] [] := by
  intro m
  induction m with
  | zero =>
    intro i him hin f hf
    refine r_iload_n (i := 2) hK dJ7_fill_53178_5 rfl rfl ?_
    refine r_iload_n (i := 3) hK dJ7_fill_53178_6 rfl rfl ?_
    refine r_icmp_ge (tgt := 20) hK dJ7_fill_53178_7 (by decide) (fun _ => ?_) (fun h => absurd (nI_le (by omega) (by omega)) h)
    refine q_vret hK hR dJ7_fill_53178_20 ?_
    exact ⟨f, rfl, fun j hj => hf j (by omega)⟩
  | succ m ih =>
    intro i him hin f hf
    refine r_iload_n (i := 2) hK dJ7_fill_53178_5 rfl rfl ?_
    refine r_iload_n (i := 3) hK dJ7_fill_53178_6 rfl rfl ?_
    refine r_icmp_ge (tgt := 20) hK dJ7_fill_53178_7 (by decide) (fun h => absurd h (nI_ge (by omega) (by omega))) (fun _ => ?_)
    refine r_aload_n (i := 0) hK dJ7_fill_53178_10 rfl rfl ?_
    refine r_iload_n (i := 2) hK dJ7_fill_53178_11 rfl rfl ?_
    refine r_iload_n (i := 1) hK dJ7_fill_53178_12 rfl rfl ?_
    refine r_iast hK hr (vp_in_nI (by omega) hn) dJ7_fill_53178_13 ?_
    refine r_g upR_upI ?_
    refine r_iincN (i := 2) hK hm dJ7_fill_53178_14 rfl (by decide) ?_
    refine r_goto (tgt := 5) hK dJ7_fill_53178_17 (by decide) ?_
    refine r_loc ?_ (ih (i + 1) (by omega) (by omega) _ (fun j hj => ?_))
    · rfl
    · by_cases q : j = i
      · subst q; rw [nI_clamp (by omega), upd_s]
      · rw [nI_clamp (by omega), upd_n q]; exact hf j (by omega)
set_option maxHeartbeats 4000000 in
set_option maxRecDepth 100000 in
theorem c_fill {ad : Nat → Nat} {g : St} {r n : Nat} {rs : List Nat} {x : Int32} (hr : TT[r]? = some (.inr (0, n, rs))) (hn : n < 2 ^ 31) : Cv 1 mJ7_fill_53178 [.ref r, .int x] ad g (fun g' => ∃ f, g' = upR g r f ∧ ∀ j, j < n → f j = x) := by
  refine Cm.mk rfl (Nat.le_of_ble_eq_true rfl) (fun K hK hR hm hnn => ?_)
  refine r_iconst (v := 0) hK dJ7_fill_53178_0 (by decide) ?_
  refine r_istore_n (i := 2) hK hm dJ7_fill_53178_1 rfl (by decide) ?_
  refine r_aload_n (i := 0) hK dJ7_fill_53178_2 rfl rfl ?_
  refine r_alen (v := (nI n)) hK hr (by decide) (by first | rfl | decide) dJ7_fill_53178_3 ?_
  refine r_istore_n (i := 3) hK hm dJ7_fill_53178_4 rfl (by decide) ?_
  refine r_g (g' := upR g r (g.1 r)) upR_id.symm ?_
  refine r_loc ?_ (l_fill hr hn hK hm hnn hR n 0 (by omega) (by omega) (g.1 r) (fun j hj => by omega))
  rfl
