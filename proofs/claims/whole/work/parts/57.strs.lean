/-! STRINGS -/
theorem r_ldS {K : KT} {n1 n2 : Nat} {T : List TC} {ad : Nat → Nat} {g : St} {pc : Nat} {lv : List (Nat × Value)} {st : List Value} {cc : ByteArray} {d : Nat} (hK : Cx K RX7 cc d ad) {k : Nat} (hk : k < 8) (hd : decode cc pc = .ok (.ldc (sxI.getD k 0), 2)) (kk : Wp K n1 n2 T ad g (pc + 2) lv (.ref (1000 + k) :: st)) : Wp K n1 n2 T ad g pc lv st := by
  intro H locs ls hP hD hS hl
  obtain ⟨hx, hb, hown, hts, hN, hKK, hA, hE, hdf⟩ := hK
  exact va_ldcS hx hb hown (hE.2.1 k hk) hd (kk H locs ls hP hD hS hl)
theorem r_str41 {K : KT} {n1 n2 : Nat} {T : List TC} {ad : Nat → Nat} {g : St} {pc : Nat} {lv : List (Nat × Value)} {st : List Value} {cc : ByteArray} {d : Nat} (hK : Cx K RX7 cc d ad) {nL : Nat} (_ : K.2.2.1.2.maxLocals = nL) (hd : decode cc pc = .ok (.ldc 41, 2)) (kk : Wp K n1 n2 T ad g (pc + 2) lv (.ref 1000 :: st)) : Wp K n1 n2 T ad g pc lv st := r_ldS (k := 0) hK (by decide) hd kk
theorem r_str52 {K : KT} {n1 n2 : Nat} {T : List TC} {ad : Nat → Nat} {g : St} {pc : Nat} {lv : List (Nat × Value)} {st : List Value} {cc : ByteArray} {d : Nat} (hK : Cx K RX7 cc d ad) {nL : Nat} (_ : K.2.2.1.2.maxLocals = nL) (hd : decode cc pc = .ok (.ldc 52, 2)) (kk : Wp K n1 n2 T ad g (pc + 2) lv (.ref 1001 :: st)) : Wp K n1 n2 T ad g pc lv st := r_ldS (k := 1) hK (by decide) hd kk
theorem r_str57 {K : KT} {n1 n2 : Nat} {T : List TC} {ad : Nat → Nat} {g : St} {pc : Nat} {lv : List (Nat × Value)} {st : List Value} {cc : ByteArray} {d : Nat} (hK : Cx K RX7 cc d ad) {nL : Nat} (_ : K.2.2.1.2.maxLocals = nL) (hd : decode cc pc = .ok (.ldc 57, 2)) (kk : Wp K n1 n2 T ad g (pc + 2) lv (.ref 1002 :: st)) : Wp K n1 n2 T ad g pc lv st := r_ldS (k := 2) hK (by decide) hd kk
theorem r_str125 {K : KT} {n1 n2 : Nat} {T : List TC} {ad : Nat → Nat} {g : St} {pc : Nat} {lv : List (Nat × Value)} {st : List Value} {cc : ByteArray} {d : Nat} (hK : Cx K RX7 cc d ad) {nL : Nat} (_ : K.2.2.1.2.maxLocals = nL) (hd : decode cc pc = .ok (.ldc 125, 2)) (kk : Wp K n1 n2 T ad g (pc + 2) lv (.ref 1003 :: st)) : Wp K n1 n2 T ad g pc lv st := r_ldS (k := 3) hK (by decide) hd kk
theorem r_str127 {K : KT} {n1 n2 : Nat} {T : List TC} {ad : Nat → Nat} {g : St} {pc : Nat} {lv : List (Nat × Value)} {st : List Value} {cc : ByteArray} {d : Nat} (hK : Cx K RX7 cc d ad) {nL : Nat} (_ : K.2.2.1.2.maxLocals = nL) (hd : decode cc pc = .ok (.ldc 127, 2)) (kk : Wp K n1 n2 T ad g (pc + 2) lv (.ref 1004 :: st)) : Wp K n1 n2 T ad g pc lv st := r_ldS (k := 4) hK (by decide) hd kk
theorem r_str129 {K : KT} {n1 n2 : Nat} {T : List TC} {ad : Nat → Nat} {g : St} {pc : Nat} {lv : List (Nat × Value)} {st : List Value} {cc : ByteArray} {d : Nat} (hK : Cx K RX7 cc d ad) {nL : Nat} (_ : K.2.2.1.2.maxLocals = nL) (hd : decode cc pc = .ok (.ldc 129, 2)) (kk : Wp K n1 n2 T ad g (pc + 2) lv (.ref 1005 :: st)) : Wp K n1 n2 T ad g pc lv st := r_ldS (k := 5) hK (by decide) hd kk
theorem r_str131 {K : KT} {n1 n2 : Nat} {T : List TC} {ad : Nat → Nat} {g : St} {pc : Nat} {lv : List (Nat × Value)} {st : List Value} {cc : ByteArray} {d : Nat} (hK : Cx K RX7 cc d ad) {nL : Nat} (_ : K.2.2.1.2.maxLocals = nL) (hd : decode cc pc = .ok (.ldc 131, 2)) (kk : Wp K n1 n2 T ad g (pc + 2) lv (.ref 1006 :: st)) : Wp K n1 n2 T ad g pc lv st := r_ldS (k := 6) hK (by decide) hd kk
theorem r_str120 {K : KT} {n1 n2 : Nat} {T : List TC} {ad : Nat → Nat} {g : St} {pc : Nat} {lv : List (Nat × Value)} {st : List Value} {cc : ByteArray} {d : Nat} (hK : Cx K RX7 cc d ad) {nL : Nat} (_ : K.2.2.1.2.maxLocals = nL) (hd : decode cc pc = .ok (.ldc 120, 2)) (kk : Wp K n1 n2 T ad g (pc + 2) lv (.ref 1007 :: st)) : Wp K n1 n2 T ad g pc lv st := r_ldS (k := 7) hK (by decide) hd kk
theorem r_sval {K : KT} {n1 n2 : Nat} {T : List TC} {ad : Nat → Nat} {g : St} {pc : Nat} {lv : List (Nat × Value)} {st : List Value} {cc : ByteArray} {d : Nat} (hK : Cx K RJ0 cc d ad) {k : Nat} (hk : k < 8) (hd : decode cc pc = .ok (.getfield 9, 3)) (kk : Wp K n1 n2 T ad g (pc + 3) lv (.ref (1100 + k) :: st)) : Wp K n1 n2 T ad g pc lv (.ref (1000 + k) :: st) := by
  intro H locs ls hP hD hS hl
  obtain ⟨hx, hb, hown, hts, hN, hKK, hA, hE, hdf⟩ := hK
  exact vk_getf hx hb (hE.1.1 k hk).2.2.1 hS hown (hts _ (gT_of 1390 (by decide +kernel) rfl)) (fun _ h => h) hd (kk H locs ls hP hD hS hl)
theorem r_scod {K : KT} {n1 n2 : Nat} {T : List TC} {ad : Nat → Nat} {g : St} {pc : Nat} {lv : List (Nat × Value)} {st : List Value} {cc : ByteArray} {d : Nat} (hK : Cx K RJ0 cc d ad) {k : Nat} (hk : k < 8) (hd : decode cc pc = .ok (.getfield 15, 3)) (kk : Wp K n1 n2 T ad g (pc + 3) lv (.int 0 :: st)) : Wp K n1 n2 T ad g pc lv (.ref (1000 + k) :: st) := by
  intro H locs ls hP hD hS hl
  obtain ⟨hx, hb, hown, hts, hN, hKK, hA, hE, hdf⟩ := hK
  exact vk_getf hx hb (hE.1.1 k hk).2.1 hS hown (hts _ (gT_of 1391 (by decide +kernel) rfl)) (fun _ h => h) hd (kk H locs ls hP hD hS hl)
theorem r_gst38 {K : KT} {n1 n2 : Nat} {T : List TC} {ad : Nat → Nat} {g : St} {pc : Nat} {lv : List (Nat × Value)} {st : List Value} {cc : ByteArray} {d : Nat} (hK : Cx K RJ0 cc d ad) (hd : decode cc pc = .ok (.getstatic 38, 3)) (kk : Wp K n1 n2 T ad g (pc + 3) lv (.int 1 :: st)) : Wp K n1 n2 T ad g pc lv st := by
  intro H locs ls hP hD hS hl
  obtain ⟨hx, hb, hown, hts, hN, hKK, hA, hE, hdf⟩ := hK
  exact va_gets hx hb hE.2.2.1 hS hown (hts _ (gT_of 437 (by decide +kernel) rfl)) (fun _ h => h) hd (kk H locs ls hP hD hS hl)
theorem r_slen {K : KT} {n1 n2 : Nat} {T : List TC} {ad : Nat → Nat} {g : St} {pc : Nat} {lv : List (Nat × Value)} {st : List Value} {own : String} {cc : ByteArray} {d : Nat} (hK : Cx K own cc d ad) {k : Nat} (hk : k < 8) (hd : decode cc pc = .ok (.arraylength, 1)) (kk : Wp K n1 n2 T ad g (pc + 1) lv (.int (nI (sxLen.getD k 0)) :: st)) : Wp K n1 n2 T ad g pc lv (.ref (1100 + k) :: st) := by
  intro H locs ls hP hD hS hl
  obtain ⟨hx, hb, hown, hts, hN, hKK, hA, hE, hdf⟩ := hK
  exact va_tlen hx hb (hE.1.1 k hk).2.2.2 hS rfl hd (kk H locs ls hP hD hS hl)
theorem r_sbyte {K : KT} {n1 n2 : Nat} {T : List TC} {ad : Nat → Nat} {g : St} {pc : Nat} {lv : List (Nat × Value)} {st : List Value} {own : String} {cc : ByteArray} {d : Nat} (hK : Cx K own cc d ad) {k i : Nat} (hk : k < 8) (hi : i < sxLen.getD k 0) (hL : sxLen.getD k 0 < 2 ^ 31) (hd : decode cc pc = .ok (.baload, 1)) (kk : Wp K n1 n2 T ad g (pc + 1) lv (.int ((sxB.getD k []).getD i 0) :: st)) : Wp K n1 n2 T ad g pc lv (.int (nI i) :: .ref (1100 + k) :: st) := by
  intro H locs ls hP hD hS hl
  obtain ⟨hx, hb, hown, hts, hN, hKK, hA, hE, hdf⟩ := hK
  exact va_tb hx hb (hE.1.1 k hk).2.2.2 hS (vp_in_nI hi hL) (by rw [nI_clamp (by omega)]; rfl) hd (kk H locs ls hP hD hS hl)
/-- addresses of other places don't matter -/
def rfB (c : TC) : Bool := match c with
  | .inl q => q.2.all (fun f => decide (f.2 < 1200))
  | .inr q => q.2.2.all (fun r => decide (r < 1200))
theorem c_ce_ad {cy : Nat → ClassId} {ad ad2 : Nat → Nat} {g : St} {o : Nat} {c : TC} (h : ∀ o, o < 1200 → ad2 o = ad o) (hc : rfB c = true) : c_ce cy ad2 g o c = c_ce cy ad g o c := by
  cases c with
  | inl q =>
    simp only [c_ce]
    congr 2
    apply List.ext_getElem?
    intro j
    rw [List.getElem?_mapIdx, List.getElem?_mapIdx]
    cases hj : q.2[j]? with
    | none => rfl
    | some f =>
      have hf : f.2 < 1200 := by
        have := List.all_eq_true.mp hc f (List.mem_of_getElem? hj)
        exact of_decide_eq_true this
      simp only [Option.map_some, c_fv, h _ hf]
  | inr q =>
    simp only [c_ce, c_ar]
    have e : ∀ j : Nat, (q.2.2[j]?).map ad2 = (q.2.2[j]?).map ad := by
      intro j
      cases hj : q.2.2[j]? with
      | none => rfl
      | some r =>
        have hf : r < 1200 := by
          have := List.all_eq_true.mp hc r (List.mem_of_getElem? hj)
          exact of_decide_eq_true this
        simp only [Option.map_some, h _ hf]
    simp only [e]
theorem TT_rf : TT.all rfB = true := by decide +kernel

theorem Wd_ad {cy : Nat → ClassId} {ad ad2 : Nat → Nat} {g : St} (h : ∀ o, o < 1200 → ad2 o = ad o) : Wd cy ad2 g TT = Wd cy ad g TT := by
  apply List.ext_getElem?
  intro j
  simp only [Wd, List.getElem?_mapIdx]
  cases hj : TT[j]? with
  | none => rfl
  | some c =>
    have hl : j < TT.length := (List.getElem?_eq_some_iff.mp hj).1
    rw [TT_len] at hl
    simp only [Option.map_some]
    rw [c_ce_ad h (List.all_eq_true.mp TT_rf c (List.mem_of_getElem? hj)), h j (by omega)]
theorem r_ad {K : KT} {n1 n2 : Nat} {ad ad2 : Nat → Nat} {g : St} {pc : Nat} {lv : List (Nat × Value)} {st : List Value} (h : ∀ o, o < 1200 → ad2 o = ad o) (hl : vl ad2 lv = vl ad lv) (hs : st.map (vv ad2) = st.map (vv ad)) (kk : Wp K n1 n2 TT ad2 g pc lv st) : Wp K n1 n2 TT ad g pc lv st := by
  intro H locs ls hP hD hS hlv
  have := kk H locs ls (by rw [Wd_ad h]; exact hP) (by rw [Wd_ad h]; exact hD) hS (by rw [hl]; exact hlv)
  rw [hs] at this
  exact this
theorem Cx_ad {K : KT} {own : String} {cc : ByteArray} {d : Nat} {ad ad2 : Nat → Nat} (h : ∀ o, o < 1200 → ad2 o = ad o) (hK : Cx K own cc d ad) : Cx K own cc d ad2 := by
  obtain ⟨hx, hb, hown, hts, hN, hKK, hA, hE, hdf⟩ := hK
  refine ⟨hx, hb, hown, hts, hN, hKK, hA, ?_, hdf⟩
  obtain ⟨⟨q1, q1b⟩, q2, q3, q4⟩ := hE
  refine ⟨⟨fun i hi => ?_, fun i j hi hj => ?_⟩, fun i hi => ?_, q3, q4⟩
  · show va_O _ (ad2 (1000 + i)) _ _ _ ∧ va_OF _ _ _ _ (ad2 (1000 + i)) _ _ _ ∧ va_OF _ _ _ (.ref (ad2 (1100 + i))) (ad2 (1000 + i)) _ _ _ ∧ va_T _ (ad2 (1100 + i)) _ _ _ _ _
    rw [h _ (by omega), h _ (by omega)]; exact q1 i hi
  · show ad2 (1000 + i) = ad2 (1000 + j) → i = j
    rw [h _ (by omega), h _ (by omega)]; exact q1b i j hi hj
  · rw [h _ (by omega)]; exact q2 i hi
theorem r_gsq {K : KT} {n1 n2 : Nat} {ad : Nat → Nat} {g : St} {pc : Nat} {lv : List (Nat × Value)} {st : List Value} {cc : ByteArray} {d : Nat} (hK : Cx K RJ0 cc d ad) (hl0 : ∀ ad2, vl ad2 lv = vl ad lv) (hs0 : ∀ ad2, st.map (vv ad2) = st.map (vv ad)) (hd : decode cc pc = .ok (.getstatic 1053, 3)) (k0 : Wp K n1 n2 TT ad g (pc + 3) lv (.null :: st)) (k1 : ∀ ad2 : Nat → Nat, (∀ o, o < 1200 → ad2 o = ad o) → Cx K RJ0 cc d ad2 → Wp K n1 n2 TT ad2 g (pc + 3) lv (.ref 1200 :: st)) : Wp K n1 n2 TT ad g pc lv st := by
  intro H locs ls hP hD hS hl
  have hK0 := hK
  obtain ⟨hx, hb, hown, hts, hN, hKK, hA, hE, hdf⟩ := hK
  rcases hE.2.2.2 with h | ⟨t, h⟩
  · exact va_gets hx hb h hS hown (hts _ (gT_of 453 (by decide +kernel) rfl)) (fun _ h => h) hd (k0 H locs ls hP hD hS hl)
  · have hq : ∀ o, o < 1200 → (fun o => if o = 1200 then t else ad o) o = ad o := fun o ho => if_neg (by omega)
    have := k1 (fun o => if o = 1200 then t else ad o) hq (Cx_ad hq hK0) H locs ls (by rw [Wd_ad hq]; exact hP) (by rw [Wd_ad hq]; exact hD) hS (by rw [hl0]; exact hl)
    rw [List.map_cons, hs0] at this
    exact va_gets hx hb h hS hown (hts _ (gT_of 453 (by decide +kernel) rfl)) (fun _ h => h) hd this
theorem q_nret {K : KT} {ad : Nat → Nat} {g : St} {pc : Nat} {lv : List (Nat × Value)} {own : String} {cc : ByteArray} {d : Nat} (hK : Cx K own cc d ad) {Q : Int32 → St → Prop} {v : Int32} {ty : FieldType} (hR : Rt K 0 0 TT ad (some ty) (Qi ad Q)) (hd : decode cc pc = .ok (.ireturn, 1)) (hv : narrow ty (.int v) = .int v) (hq : Q v g) : Wp K 0 0 TT ad g pc lv [.int v] := by
  intro H locs ls hP hD hS hl
  obtain ⟨q1, q2, q3, q4⟩ := hR
  rw [q4]
  have hf : ∀ q ∈ locs, AA TT ad K.2.1.1.heap.size q.base := fun q hq => by rw [← q3]; exact hS.2.2 q hq
  have hpost : ∀ t : State, t.heap = H → PQ TT ad K.2.1.1.heap.size K.2.2.2.1.1 K.2.2.2.1.2.1 (Qi ad Q) K.2.1.2.2.1 K.2.1.1 (.returned (Option.map (vv ad) (some (.int v)))) t := fun t ht => ⟨⟨(some (.int v)), TT, ad, g, rfl, ⟨rfl, rfl, v, rfl, hq⟩, fun _ _ => rfl, Nat.le_refl _, by rw [ht]; exact hP, by rw [← q3]; exact hD⟩, by rw [q3] at hS; exact hS.F ht⟩
  exact W.zret hK.1 hK.2.1 q1 hv (fun t ht _ => hpost t ht) hf hd q2
theorem r_callVS {K : KT} {n1 n2 : Nat} {T : List TC} {ad : Nat → Nat} {g : St} {pc : Nat} {lv : List (Nat × Value)} {own : String} {cc : ByteArray} {d : Nat} (hK : Cx K own cc d ad) {mt : MT} {idx d' mc ms n : Nat} {as rest : List Value} {Q : PQt} {k0 : Nat} (hC : Cn d' mc ms mt (.ref (1000 + k0) :: as) T ad g Q) (hMt : MtV mt n) (hLk : Ml own idx mt.1) (hk0 : k0 < 8) (hq0 : mt.1.cls = "java/lang/String") (hd : decode cc pc = .ok (.invokevirtual idx, 3)) (hcells : n1 + mc ≤ K.1.2.2.2.cells ∧ n2 + ms ≤ K.1.2.2.2.slots) (hn : as.length = n) (hdd : d' + 1 ≤ d) (hsum : (rest.map fun v => v.category).sum ≤ 8) (hre : ∀ r T' ad' g', Q r T' ad' g' → (∀ o, o < T.length ∨ 1000 ≤ o → ad' o = ad o) → rest.map (vv ad) = rest.map (vv ad') ∧ vl ad lv = vl ad' lv) (k : ∀ r T' ad' g', Q r T' ad' g' → (∀ o, o < T.length ∨ 1000 ≤ o → ad' o = ad o) → T.length ≤ T'.length → Cx K own cc d ad' → Wp K (n1 + mc) (n2 + ms) T' ad' g' (pc + 3) lv (r.toList ++ rest)) : Wp K n1 n2 T ad g pc lv (as.reverse ++ .ref (1000 + k0) :: rest) := by
  intro H locs ls hP hD hS hl
  have hK0 := hK
  obtain ⟨hx, hb, hown, hts, hN, hKK, hA, hE, hdf, hdl⟩ := hK
  obtain ⟨⟨m1, m2, m3, m4, m5⟩, m6, m7⟩ := hMt
  have hroom : (rmD d' mc ms).frames + 1 ≤ K.1.2.2.2.frames ∧ 8 + (mt.2.2.1 + 11) + (rmD d' mc ms).locals ≤ K.1.2.2.2.locals := ⟨by show d' + 1 ≤ _; omega, by show 8 + (mt.2.2.1 + 11) + 64 * d' ≤ _; omega⟩
  have hM := hC K.1.2.1 K.2.2.2.1.1 K.2.2.2.1.2.1 H.size
  have hrecv := vk_recv hE.1 hk0 hS
  rw [← hq0] at hrecv
  have hpre : PreV K.2.1.1 H mt.1.cls (ad (1000 + k0)) (va_Pc ((Value.ref (1000 + k0) :: as).map (vv ad)) (Inv K.2.2.2.1.1 K.2.2.2.1.2.1 T ad g H.size)) (as.map (vv ad)) := ⟨Inv_blind _, hrecv, fun U hU hW => ⟨rfl, Inv_of hK0 hP hD hS hU hW⟩⟩
  have hstk : (F0 K.2.1.2.1 pc ls ((as.reverse ++ .ref (1000 + k0) :: rest).map (vv ad))).stack = (as.map (vv ad)).reverse ++ .ref (ad (1000 + k0)) :: rest.map (vv ad) := by
    show (as.reverse ++ .ref (1000 + k0) :: rest).map (vv ad) = _
    rw [List.map_append, List.map_reverse]
    rfl
  have hfix : CallFix K.1.1 K.2.1.2.1 K.2.2.1.2 cc K.2.2.1.2.maxLocals K.2.1.1 K.2.1.2.2.1 gT own := ⟨hx, hb, rfl, hown, hts⟩
  have hsz : ls.size = K.2.2.1.2.maxLocals := hl.1
  have hW8 : 2 * (F0 K.2.1.2.1 pc ls ((as.reverse ++ .ref (1000 + k0) :: rest).map (vv ad))).monitorRoom + ((rest.map (vv ad)).map fun v => v.category).sum ≤ 8 := lv_room (by rw [vv_sum]; exact hsum)
  rcases hLk with hLk | ⟨host, hLk⟩
  · have cw : CallW K.1.2.2.2 K.2.1.1 K.2.1.2.2.1 own mt.1.cls idx mt.1 mt.2.1 mt.2.2.1 mt.2.2.2 (wsM mt) (rmD d' mc ms) mc ms n :=
      ⟨callB_of n hts (wsM_good m1) rfl rfl rfl (hts _ m2) (hts _ hLk) ⟨m3.1, m3.2, m4⟩ hroom, hts _ m6, hts _ m7⟩
    have hr := va_runV (e := K.1.2.2.1) (meth := K.2.2.1.1) (below := K.2.1.2.2.2) (locs := locs) (g := F0 K.2.1.2.1 pc ls ((as.reverse ++ .ref (1000 + k0) :: rest).map (vv ad))) (rest := rest.map (vv ad)) hfix hM cw hpre rfl (by rw [List.length_map]; exact hn) hsz hstk hW8 hd hcells
    exact r_back hK0 hD hS hl hr hre k
  · have cw : va_CN K.1.2.2.2 K.2.1.1 K.2.1.2.2.1 own idx mt.1 host mt.2.1 mt.2.2.1 mt.2.2.2 (wsM mt) (rmD d' mc ms) mc ms n ∧ (Cond.instanceMethod mt.1).before K.2.1.2.2.1 K.2.1.1 = true ∧ (Cond.selects mt.1.cls mt.1 mt.1).before K.2.1.2.2.1 K.2.1.1 = true :=
      ⟨va_cnB n hts (wsM_good m1) rfl rfl rfl (hN _ hLk) (hts _ m2) ⟨m3.1, m3.2, m4⟩ hroom, hts _ m6, hts _ m7⟩
    have hr := va_runVN (e := K.1.2.2.1) (meth := K.2.2.1.1) (below := K.2.1.2.2.2) (locs := locs) (g := F0 K.2.1.2.1 pc ls ((as.reverse ++ .ref (1000 + k0) :: rest).map (vv ad))) (rest := rest.map (vv ad)) hfix hM cw hpre rfl (by rw [List.length_map]; exact hn) hsz hstk hW8 hd hcells
    exact r_back hK0 hD hS hl hr hre k
theorem r_ciS0 {K : KT} {n1 n2 : Nat} {ad : Nat → Nat} {g : St} {pc : Nat} {lv : List (Nat × Value)} {own : String} {cc : ByteArray} {d : Nat} (hK : Cx K own cc d ad) (hnn : Nn K n1 n2) {mt : MT} {idx d' k0 : Nat} {rest : List Value} {Q : Int32 → St → Prop} (hC : Ci d' mt (.ref (1000 + k0) :: []) ad g Q) (hMt : MtV mt 0) (hLk : Ml own idx mt.1) (hk0 : k0 < 8) (hq0 : mt.1.cls = "java/lang/String") (hd : decode cc pc = .ok (.invokevirtual idx, 3)) (hdd : d' + 1 ≤ d) (hsum : (rest.map fun v => v.category).sum ≤ 8) (k : ∀ v g', Q v g' → Wp K n1 n2 TT ad g' (pc + 3) lv (.int v :: rest)) : Wp K n1 n2 TT ad g pc lv (.ref (1000 + k0) :: rest) := by
  refine r_callVS (as := []) hK hC hMt hLk hk0 hq0 hd hnn rfl hdd hsum (fun r T' ad' g' hq _ => by obtain ⟨_, rfl, _⟩ := hq; exact ⟨rfl, rfl⟩) (fun r T' ad' g' hq _ _ _ => ?_)
  obtain ⟨rfl, rfl, v, rfl, hq⟩ := hq
  exact k v _ hq
theorem r_ciS1 {K : KT} {n1 n2 : Nat} {ad : Nat → Nat} {g : St} {pc : Nat} {lv : List (Nat × Value)} {own : String} {cc : ByteArray} {d : Nat} (hK : Cx K own cc d ad) (hnn : Nn K n1 n2) {mt : MT} {idx d' k0 : Nat} {rest : List Value} {v1 : Value} {Q : Int32 → St → Prop} (hC : Ci d' mt (.ref (1000 + k0) :: [v1]) ad g Q) (hMt : MtV mt 1) (hLk : Ml own idx mt.1) (hk0 : k0 < 8) (hq0 : mt.1.cls = "java/lang/String") (hd : decode cc pc = .ok (.invokevirtual idx, 3)) (hdd : d' + 1 ≤ d) (hsum : (rest.map fun v => v.category).sum ≤ 8) (k : ∀ v g', Q v g' → Wp K n1 n2 TT ad g' (pc + 3) lv (.int v :: rest)) : Wp K n1 n2 TT ad g pc lv (v1 :: .ref (1000 + k0) :: rest) := by
  refine r_callVS (as := [v1]) hK hC hMt hLk hk0 hq0 hd hnn rfl hdd hsum (fun r T' ad' g' hq _ => by obtain ⟨_, rfl, _⟩ := hq; exact ⟨rfl, rfl⟩) (fun r T' ad' g' hq _ _ _ => ?_)
  obtain ⟨rfl, rfl, v, rfl, hq⟩ := hq
  exact k v _ hq
set_option maxHeartbeats 4000000 in
set_option maxRecDepth 100000 in
theorem c_ckXN {ad : Nat → Nat} {g : St} {i n : Int32} (h0 : ¬ i < 0) (h1 : i < n) : Ci 1 mJ3_checkIndex_8e157 [.int i, .int n, .null] ad g (fun v g' => v = i ∧ g' = g) := by
  refine Cm.mk rfl (Nat.le_of_ble_eq_true rfl) (fun K hK hR hm hnn => ?_)
  refine r_iload_n (i := 0) hK dJ3_checkIndex_8e157_0 rfl rfl ?_
  refine r_if_lt (tgt := 9) hK dJ3_checkIndex_8e157_1 (by decide) (fun h => absurd h h0) (fun _ => ?_)
  refine r_iload_n (i := 0) hK dJ3_checkIndex_8e157_4 rfl rfl ?_
  refine r_iload_n (i := 1) hK dJ3_checkIndex_8e157_5 rfl rfl ?_
  refine r_icmp_lt (tgt := 16) hK dJ3_checkIndex_8e157_6 (by decide) (fun _ => ?_) (fun h => absurd h1 h)
  refine r_iload_n (i := 0) hK dJ3_checkIndex_8e157_16 rfl rfl ?_
  refine q_iret hK hR dJ3_checkIndex_8e157_17 ?_
  exact ⟨rfl, rfl⟩
set_option maxHeartbeats 4000000 in
set_option maxRecDepth 100000 in
theorem c_ckXR {ad : Nat → Nat} {g : St} {i n : Int32} (h0 : ¬ i < 0) (h1 : i < n) : Ci 1 mJ3_checkIndex_8e157 [.int i, .int n, .ref 1200] ad g (fun v g' => v = i ∧ g' = g) := by
  refine Cm.mk rfl (Nat.le_of_ble_eq_true rfl) (fun K hK hR hm hnn => ?_)
  refine r_iload_n (i := 0) hK dJ3_checkIndex_8e157_0 rfl rfl ?_
  refine r_if_lt (tgt := 9) hK dJ3_checkIndex_8e157_1 (by decide) (fun h => absurd h h0) (fun _ => ?_)
  refine r_iload_n (i := 0) hK dJ3_checkIndex_8e157_4 rfl rfl ?_
  refine r_iload_n (i := 1) hK dJ3_checkIndex_8e157_5 rfl rfl ?_
  refine r_icmp_lt (tgt := 16) hK dJ3_checkIndex_8e157_6 (by decide) (fun _ => ?_) (fun h => absurd h1 h)
  refine r_iload_n (i := 0) hK dJ3_checkIndex_8e157_16 rfl rfl ?_
  refine q_iret hK hR dJ3_checkIndex_8e157_17 ?_
  exact ⟨rfl, rfl⟩
set_option maxHeartbeats 4000000 in
set_option maxRecDepth 100000 in
theorem c_ckI {ad : Nat → Nat} {g : St} {i n : Int32} (h0 : ¬ i < 0) (h1 : i < n) : Cv 2 mJ0_checkIndex_df160 [.int i, .int n] ad g (fun g' => g' = g) := by
  refine Cm.mk rfl (Nat.le_of_ble_eq_true rfl) (fun K hK hR hm hnn => ?_)
  refine r_iload_n (i := 0) hK dJ0_checkIndex_df160_0 rfl rfl ?_
  refine r_iload_n (i := 1) hK dJ0_checkIndex_df160_1 rfl rfl ?_
  refine r_gsq hK (fun _ => rfl) (fun _ => rfl) dJ0_checkIndex_df160_2 ?_ (fun ad2 hq hK2 => ?_)
  · refine r_si3 hK hnn (c_ckXN h0 h1) moJ3_checkIndex_8e157 mlJ0_1059 dJ0_checkIndex_df160_5 (Nat.le_of_ble_eq_true rfl) (Nat.le_of_ble_eq_true rfl) (eqI ?_)
    refine r_pop hK dJ0_checkIndex_df160_8 rfl ?_
    refine q_vret hK hR dJ0_checkIndex_df160_9 ?_
    rfl
  · refine r_si3 hK2 hnn (c_ckXR h0 h1) moJ3_checkIndex_8e157 mlJ0_1059 dJ0_checkIndex_df160_5 (Nat.le_of_ble_eq_true rfl) (Nat.le_of_ble_eq_true rfl) (eqI ?_)
    refine r_ad (fun o ho => (hq o ho).symm) rfl rfl ?_
    refine r_pop hK dJ0_checkIndex_df160_8 rfl ?_
    refine q_vret hK hR dJ0_checkIndex_df160_9 ?_
    rfl
def chS (k i : Nat) : Int32 := (sxB.getD k []).getD i 0
theorem sxL_b : ∀ k, k < 8 → sxLen.getD k 0 < 100 := by decide +kernel
theorem chS_c : ∀ k, k < 8 → ∀ i, i < sxLen.getD k 0 → ((chS k i &&& 255).toUInt32 % 65536).toInt32 = chS k i := by decide +kernel
set_option maxHeartbeats 4000000 in
set_option maxRecDepth 100000 in
theorem c_lch {ad : Nat → Nat} {g : St} {k i : Nat} (hk : k < 8) (hi : i < sxLen.getD k 0) : Ci 3 mJ1_charAt_3b067 [.ref (1100 + k), .int (nI i)] ad g (fun v g' => v = chS k i ∧ g' = g) := by
  have hb := sxL_b k hk
  refine Cm.mk rfl (Nat.le_of_ble_eq_true rfl) (fun K hK hR hm hnn => ?_)
  refine r_iload_n (i := 1) hK dJ1_charAt_3b067_0 rfl rfl ?_
  refine r_aload_n (i := 0) hK dJ1_charAt_3b067_1 rfl rfl ?_
  refine r_slen hK hk dJ1_charAt_3b067_2 ?_
  refine r_sv2 hK hnn (c_ckI (nI_pos (by omega)) (nI_lt hi (by omega))) moJ0_checkIndex_df160 mlJ1_9 dJ1_charAt_3b067_3 (Nat.le_of_ble_eq_true rfl) (Nat.le_of_ble_eq_true rfl) (eqV ?_)
  refine r_aload_n (i := 0) hK dJ1_charAt_3b067_6 rfl rfl ?_
  refine r_iload_n (i := 1) hK dJ1_charAt_3b067_7 rfl rfl ?_
  refine r_sbyte hK hk hi (by omega) dJ1_charAt_3b067_8 ?_
  refine r_sipush (v := 255) hK dJ1_charAt_3b067_9 (by decide) ?_
  refine r_iand hK dJ1_charAt_3b067_12 ?_
  refine r_i2c hK dJ1_charAt_3b067_13 ?_
  refine q_nret hK hR dJ1_charAt_3b067_14 (pk_nc _) ?_
  exact ⟨chS_c k hk i hi, rfl⟩

set_option maxHeartbeats 4000000 in
set_option maxRecDepth 100000 in
theorem c_lat {ad : Nat → Nat} {g : St} {k : Nat} (hk : k < 8) : Ci 1 mJ0_isLatin1_aae02 [.ref (1000 + k)] ad g (fun v g' => v = 1 ∧ g' = g) := by
  refine Cm.mk rfl (Nat.le_of_ble_eq_true rfl) (fun K hK hR hm hnn => ?_)
  refine r_gst38 hK dJ0_isLatin1_aae02_0 ?_
  refine r_if_eq (tgt := 17) hK dJ0_isLatin1_aae02_3 (by decide) (fun h => absurd h (by decide)) (fun _ => ?_)
  refine r_aload_n (i := 0) hK dJ0_isLatin1_aae02_6 rfl rfl ?_
  refine r_scod hK hk dJ0_isLatin1_aae02_7 ?_
  refine r_if_ne (tgt := 17) hK dJ0_isLatin1_aae02_10 (by decide) (fun h => absurd rfl h) (fun _ => ?_)
  refine r_iconst (v := 1) hK dJ0_isLatin1_aae02_13 (by decide) ?_
  refine r_goto (tgt := 18) hK dJ0_isLatin1_aae02_14 (by decide) ?_
  refine q_zret hK hR dJ0_isLatin1_aae02_18 (Or.inr rfl) ?_
  exact ⟨rfl, rfl⟩
set_option maxHeartbeats 4000000 in
set_option maxRecDepth 100000 in
theorem c_cod {ad : Nat → Nat} {g : St} {k : Nat} (hk : k < 8) : Ci 1 mJ0_coder_7d493 [.ref (1000 + k)] ad g (fun v g' => v = 0 ∧ g' = g) := by
  refine Cm.mk rfl (Nat.le_of_ble_eq_true rfl) (fun K hK hR hm hnn => ?_)
  refine r_gst38 hK dJ0_coder_7d493_0 ?_
  refine r_if_eq (tgt := 13) hK dJ0_coder_7d493_3 (by decide) (fun h => absurd h (by decide)) (fun _ => ?_)
  refine r_aload_n (i := 0) hK dJ0_coder_7d493_6 rfl rfl ?_
  refine r_scod hK hk dJ0_coder_7d493_7 ?_
  refine r_goto (tgt := 14) hK dJ0_coder_7d493_10 (by decide) ?_
  refine q_nret hK hR dJ0_coder_7d493_14 (by decide) ?_
  exact ⟨rfl, rfl⟩
set_option maxHeartbeats 4000000 in
set_option maxRecDepth 100000 in
theorem c_strlen {ad : Nat → Nat} {g : St} {k : Nat} (hk : k < 8) : Ci 2 mJ0_length_8abf5 [.ref (1000 + k)] ad g (fun v g' => v = nI (sxLen.getD k 0) ∧ g' = g) := by
  have hb := sxL_b k hk
  refine Cm.mk rfl (Nat.le_of_ble_eq_true rfl) (fun K hK hR hm hnn => ?_)
  refine r_aload_n (i := 0) hK dJ0_length_8abf5_0 rfl rfl ?_
  refine r_sval hK hk dJ0_length_8abf5_1 ?_
  refine r_slen hK hk dJ0_length_8abf5_4 ?_
  refine r_aload_n (i := 0) hK dJ0_length_8abf5_5 rfl rfl ?_
  refine r_ciS0 hK hnn (c_cod hk) moJ0_coder_7d493 mlJ0_335 hk rfl dJ0_length_8abf5_6 (Nat.le_of_ble_eq_true rfl) (Nat.le_of_ble_eq_true rfl) (eqI ?_)
  refine r_ishr hK dJ0_length_8abf5_9 ?_
  refine q_iret hK hR dJ0_length_8abf5_10 ?_
  refine ⟨?_, rfl⟩
  rw [show ((0 : Int32) &&& 31) = (nI 0 &&& 31) from rfl, pk_shrN (by omega) (nI 0 &&& 31) 0 (sh_l 0 (by decide)), Nat.pow_zero, Nat.div_one]
set_option maxHeartbeats 4000000 in
set_option maxRecDepth 100000 in
theorem c_charAt {ad : Nat → Nat} {g : St} {k i : Nat} {x : Int32} (hk : k < 8) (hx : x = nI i) (hi : i < sxLen.getD k 0) : Ci 5 mJ0_charAt_5068e [.ref (1000 + k), .int x] ad g (fun v g' => v = chS k i ∧ g' = g) := by
  subst hx
  refine Cm.mk rfl (Nat.le_of_ble_eq_true rfl) (fun K hK hR hm hnn => ?_)
  refine r_aload_n (i := 0) hK dJ0_charAt_5068e_0 rfl rfl ?_
  refine r_ciS0 hK hnn (c_lat hk) moJ0_isLatin1_aae02 mlJ0_492 hk rfl dJ0_charAt_5068e_1 (Nat.le_of_ble_eq_true rfl) (Nat.le_of_ble_eq_true rfl) (eqI ?_)
  refine r_if_eq (tgt := 16) hK dJ0_charAt_5068e_4 (by decide) (fun h => absurd h (by decide)) (fun _ => ?_)
  refine r_aload_n (i := 0) hK dJ0_charAt_5068e_7 rfl rfl ?_
  refine r_sval hK hk dJ0_charAt_5068e_8 ?_
  refine r_iload_n (i := 1) hK dJ0_charAt_5068e_11 rfl rfl ?_
  refine r_si2 hK hnn (c_lch hk hi) moJ1_charAt_3b067 mlJ0_495 dJ0_charAt_5068e_12 (Nat.le_of_ble_eq_true rfl) (Nat.le_of_ble_eq_true rfl) (eqI ?_)
  refine q_nret hK hR dJ0_charAt_5068e_15 (by rw [← chS_c k hk i hi]; exact pk_nc _) ?_
  exact ⟨rfl, rfl⟩
