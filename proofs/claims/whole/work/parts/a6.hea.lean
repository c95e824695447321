/-! THE LAW, from its entry, over the machine around it -/
theorem r_cI2 {K : KT} {n1 n2 : Nat} {T : List TC} {ad : Nat → Nat} {g : St} {pc : Nat} {lv : List (Nat × Value)} {st : List Value} {own : String} {cc : ByteArray} {d : Nat} (hK : Cx K own cc d ad) {mt : MT} {idx d' mc ms n N : Nat} {as : List Value} {o : Nat} {T9 : List TC} {g9 : St} (hao : va_AO RX1 K.2.1.1 ∧ va_AO RX2 K.2.1.1) (hC : Cn2 d' mc ms mt (.ref o :: as) T ad g (QN T9 g9)) (hMt : MtN mt n) (hLk : Ml own idx mt.1) (hN : T.length = N) (hd : decode cc pc = .ok (.invokespecial idx, 3)) (hcells : n1 + mc ≤ K.1.2.2.2.cells ∧ n2 + ms ≤ K.1.2.2.2.slots) (hn : as.length = n) (hdd : d' + 1 ≤ d) (hsum : (st.map fun v => v.category).sum ≤ 8) (hlv : ∀ q ∈ lv, lr N q.2) (hst : ∀ v ∈ st, lr N v) (k : ∀ ad', (∀ o, o < N ∨ 1000 ≤ o → ad' o = ad o) → Cx K own cc d ad' → Wp K (n1 + mc) (n2 + ms) T9 ad' g9 (pc + 3) lv st) : Wp K n1 n2 T ad g pc lv (as.reverse ++ .ref o :: st) := by
  subst hN
  obtain ⟨y, bytes, maxL, ret⟩ := mt
  obtain rfl : ret = none := hMt.2.2.2
  refine r_callI2 hK hao hC hMt hLk hd hcells hn hdd hsum (fun r T' ad' g' hq ha => ⟨(List.map_congr_left (fun v hv => (vv_lr ha (hst v hv)).symm)), (List.map_congr_left (fun q hq => by rw [vv_lr ha (hlv q hq)]))⟩) (fun r T' ad' g' hq ha _ hCx => ?_)
  obtain ⟨rfl, rfl, rfl⟩ := hq
  exact k ad' ha hCx
abbrev g0 : St := (fun _ _ => 0, fun _ _ => 0)
abbrev g9 : St := upI (upI g0 3 3 (-1)) 22 3 (-1)
abbrev g10 : St := upI (upI g9 91 15 (-1)) 91 0 0
abbrev σ0 : SG := ((0, (0, f0, f0, f0), (0, f0, f0, f0), f0, f0, 0), J0, 0, (0, c9), -1, fun _ => none)
theorem wOk_0 : wOk 0 (0, f0, f0, f0) := ⟨Nat.zero_le _, Nat.zero_le _, fun w hw => absurd hw (Nat.not_lt_zero _)⟩
theorem pOk_0 : pOk 0 (0, f0, f0, f0) f0 f0 := ⟨Nat.zero_le _, fun w hw => absurd hw (Nat.not_lt_zero _)⟩
theorem g10_0 {j k : Nat} (h1 : ¬ (j = 3 ∧ k = 3)) (h2 : ¬ (j = 22 ∧ k = 3)) (h3 : ¬ (j = 91 ∧ k = 15)) : g10.1 j k = 0 := by
  have u : ∀ {g : St} {a b c e : Nat} {x : Int32}, ¬ (c = a ∧ e = b) → (upI g a b x).1 c e = g.1 c e := fun {g a b c e x} h => by
    by_cases q : c = a
    · rw [q]; exact upd_n2 (fun z => h ⟨q, z⟩)
    · exact congrFun (upI_n q) e
  by_cases e : j = 91 ∧ k = 0
  · rw [e.1, e.2, upI_s, upd_s]
  · exact (u e).trans ((u h3).trans ((u h2).trans (u h1)))
theorem CS_0 : CS g10 σ0 := by
  refine ⟨⟨wOk_0, pOk_0, by decide, ?_, ⟨?_, fun w hw => absurd hw (Nat.not_lt_zero _)⟩, ⟨?_, fun w hw => absurd hw (Nat.not_lt_zero _)⟩, ?_⟩, JC_0 ?_ ?_, ⟨?_, by decide⟩, ⟨tOk_0, ?_, fun i hi => absurd hi (Nat.not_lt_zero i)⟩, ?_, fun i hi => ?_⟩
  · exact g10_0 (by omega) (by omega) (by omega)
  · exact g10_0 (by omega) (by omega) (by omega)
  · exact g10_0 (by omega) (by omega) (by omega)
  · exact g10_0 (by omega) (by omega) (by omega)
  · exact g10_0 (by omega) (by omega) (by omega)
  · exact g10_0 (by omega) (by omega) (by omega)
  · exact g10_0 (by omega) (by omega) (by omega)
  · exact g10_0 (by omega) (by omega) (by omega)
  · rw [upI_n (by decide), upI_n (by decide), upI_n (by decide), upI_s, upd_s]
  · exact g10_0 (by omega) (by omega) (by omega)
theorem MS_0 : MS g10 σ0 := by
  refine ⟨⟨wOk_0, pOk_0, by decide, ?_, ⟨?_, fun w hw => absurd hw (Nat.not_lt_zero _)⟩, ⟨?_, fun w hw => absurd hw (Nat.not_lt_zero _)⟩, ?_⟩, MJ_0 ?_ ?_, ⟨?_, by decide⟩, ⟨tOk_0, ?_, fun i hi => absurd hi (Nat.not_lt_zero i)⟩, ?_, fun i hi => ?_⟩
  · exact g10_0 (by omega) (by omega) (by omega)
  · exact g10_0 (by omega) (by omega) (by omega)
  · exact g10_0 (by omega) (by omega) (by omega)
  · exact g10_0 (by omega) (by omega) (by omega)
  · exact g10_0 (by omega) (by omega) (by omega)
  · exact g10_0 (by omega) (by omega) (by omega)
  · exact g10_0 (by omega) (by omega) (by omega)
  · exact g10_0 (by omega) (by omega) (by omega)
  · rw [upd_n2 (by decide), upI_s, upd_s]
  · exact g10_0 (by omega) (by omega) (by omega)
set_option maxHeartbeats 4000000 in
set_option maxRecDepth 100000 in
theorem law_walk {K : KT} {ad : Nat → Nat} {L : Nat} {xs : Nat → Int32} (hK : Cx K RL cL_law 1000 ad) (hm : K.2.2.1.2.maxLocals = 4) (hc1 : K.1.2.2.2.cells = 600000) (hc2 : K.1.2.2.2.slots = 7302250) (hao : va_AO RX1 K.2.1.1 ∧ va_AO RX2 K.2.1.1) (hX : va_X (ad 2000) L xs K.2.1.1 K.2.1.1.heap ∧ ad 2000 < K.2.1.1.heap.size ∧ ¬ K.2.2.2.1.2.2 (ad 2000)) (hL : L ≤ 320) (hret : ∀ n1 n2 ad g lv, n1 ≤ 600000 → n2 ≤ 7302250 → Wp K n1 n2 TT ad g 1200 lv [.int 1]) : Wp K 0 0 [] ad g0 0 [(0, .ref 2000)] [] := by
  refine r_nw (n := 0) (ty := tyX9) (fs := fr9) hK (ci := 9) rfl hinX9 tyX9_ok (gT_of 19 (by decide +kernel) rfl) (gT_of 20 (by decide +kernel) rfl) (gT_of 1 (by decide +kernel) rfl) rfl (by decide +kernel) rfl (by decide) (by decide +kernel) (by decide +kernel) ⟨rfl, rfl⟩ ⟨by omega, by omega⟩ dL_law_0 (nr_of rfl) (sr_of rfl) (fun ad1 a1 hK => ?_)
  refine r_T (show _ = [(.inl (9, fr9) : TC)] from rfl) ?_
  refine r_dup hK dL_law_3 rfl ?_
  refine r_cI2 (as := []) (N := 1) hK hao (c_iX9 (fun j hj => ⟨rfl, rfl⟩)) moX9_init mlL_9 rfl dL_law_4 ⟨by omega, by omega⟩ rfl (Nat.le_of_ble_eq_true rfl) (Nat.le_of_ble_eq_true rfl) (lr_of rfl) (slr_of rfl) (fun ad2 a2 hK => ?_)
  refine r_astore_n (i := 1) hK hm dL_law_7 rfl (by decide) ?_
  have z91 : ∀ j, 91 ≤ j → g9.1 j = z0 ∧ g9.2 j = z1 := fun j hj => ⟨(upI_n (by omega)).trans (upI_n (by omega)), rfl⟩
  refine r_nw (n := 91) (ty := tyX10) (fs := fr10) hK (ci := 10) rfl hinX10 tyX10_ok (gT_of 902 (by decide +kernel) rfl) (gT_of 903 (by decide +kernel) rfl) (gT_of 11 (by decide +kernel) rfl) rfl (by decide +kernel) rfl (by decide) (by decide +kernel) (by decide +kernel) (z91 91 (Nat.le_refl _)) ⟨by omega, by omega⟩ dL_law_8 (nr_of rfl) (sr_of rfl) (fun ad3 a3 hK => ?_)
  refine r_dup hK dL_law_11 rfl ?_
  refine r_cI (as := []) (N := 92) hK (c_iX10 (o := 91) (n := 92) rfl (by decide) rfl (by decide +kernel) (fun j hj => z91 j (by omega))) moX10_init mlL_12 rfl dL_law_12 ⟨by omega, by omega⟩ rfl (Nat.le_of_ble_eq_true rfl) (Nat.le_of_ble_eq_true rfl) (lr_of rfl) (slr_of rfl) (fun ad4 a4 hK => ?_)
  refine r_T (show _ = TT from rfl) ?_
  refine r_astore_n (i := 2) hK hm dL_law_15 rfl (by decide) ?_
  refine r_iconst (v := 0) hK dL_law_16 (by decide) ?_
  refine r_istore_n (i := 3) hK hm dL_law_17 rfl (by decide) ?_
  have e : ad4 2000 = ad 2000 := (a4 2000 (by omega)).trans ((a3 2000 (by omega)).trans ((a2 2000 (by omega)).trans (a1 2000 (by omega))))
  rw [← e] at hX
  refine r_loc ?_ (law_loop hK hm ⟨by omega, by omega⟩ hX hL (fun g lv => hret _ _ _ _ _ (by omega) (by omega)) (L + 1) 0 g10 σ0 (by omega) (Nat.zero_le L) CS_0 MS_0)
  rfl
