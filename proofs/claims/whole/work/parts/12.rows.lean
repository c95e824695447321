theorem r_iald {K : KT} {n1 n2 : Nat} {T : List TC} {ad : Nat → Nat} {g : St} {pc : Nat} {lv : List (Nat × Value)} {st : List Value} {own : String} {cc : ByteArray} {d : Nat} (hK : Cx K own cc d ad) {o n : Nat} {rs : List Nat} {i : Int32} (ho : T[o]? = some (.inr (0, n, rs))) (hin : vp_in i n) (hd : decode cc pc = .ok (.iaload, 1)) (k : Wp K n1 n2 T ad g (pc + 1) lv (.int (g.1 o i.toNatClampNeg) :: st)) : Wp K n1 n2 T ad g pc lv (.int i :: .ref o :: st) := by
  intro H locs ls hP hD hS hl
  exact va_iald hK.1 hK.2.1 hK.2.2.2.2.2.1 hP o 0 (Wd_get ho) rfl hin hd (k H locs ls hP hD hS hl)
theorem r_zald {K : KT} {n1 n2 : Nat} {T : List TC} {ad : Nat → Nat} {g : St} {pc : Nat} {lv : List (Nat × Value)} {st : List Value} {own : String} {cc : ByteArray} {d : Nat} (hK : Cx K own cc d ad) {o n : Nat} {rs : List Nat} {i : Int32} (ho : T[o]? = some (.inr (2, n, rs))) (hin : vp_in i n) (hd : decode cc pc = .ok (.baload, 1)) (k : Wp K n1 n2 T ad g (pc + 1) lv (.int (g.1 o i.toNatClampNeg) :: st)) : Wp K n1 n2 T ad g pc lv (.int i :: .ref o :: st) := by
  intro H locs ls hP hD hS hl
  exact va_zald hK.1 hK.2.1 hK.2.2.2.2.2.1 hP o 2 (Wd_get ho) rfl hin hd (k H locs ls hP hD hS hl)
theorem r_lald {K : KT} {n1 n2 : Nat} {T : List TC} {ad : Nat → Nat} {g : St} {pc : Nat} {lv : List (Nat × Value)} {st : List Value} {own : String} {cc : ByteArray} {d : Nat} (hK : Cx K own cc d ad) {o n : Nat} {rs : List Nat} {i : Int32} (ho : T[o]? = some (.inr (1, n, rs))) (hin : vp_in i n) (hd : decode cc pc = .ok (.laload, 1)) (k : Wp K n1 n2 T ad g (pc + 1) lv (.long (g.2 o i.toNatClampNeg) :: st)) : Wp K n1 n2 T ad g pc lv (.int i :: .ref o :: st) := by
  intro H locs ls hP hD hS hl
  exact va_lald hK.1 hK.2.1 hK.2.2.2.2.2.1 hP o 1 (Wd_get ho) rfl hin hd (k H locs ls hP hD hS hl)
theorem r_aald3 {K : KT} {n1 n2 : Nat} {T : List TC} {ad : Nat → Nat} {g : St} {pc : Nat} {lv : List (Nat × Value)} {st : List Value} {own : String} {cc : ByteArray} {d : Nat} (hK : Cx K own cc d ad) {o n x : Nat} {rs : List Nat} {i : Int32} (ho : T[o]? = some (.inr (3, n, rs))) (hin : vp_in i n) (hx : rs[i.toNatClampNeg]? = some x) (hd : decode cc pc = .ok (.aaload, 1)) (k : Wp K n1 n2 T ad g (pc + 1) lv (.ref x :: st)) : Wp K n1 n2 T ad g pc lv (.int i :: .ref o :: st) := by
  intro H locs ls hP hD hS hl
  refine va_aldq hK.1 hK.2.1 hK.2.2.2.2.2.1 hP o 3 (C := RX1) (Wd_get ho) rfl hin hd ?_
  dsimp only
  rw [hx]
  exact (k H locs ls hP hD hS hl)
theorem r_aald4 {K : KT} {n1 n2 : Nat} {T : List TC} {ad : Nat → Nat} {g : St} {pc : Nat} {lv : List (Nat × Value)} {st : List Value} {own : String} {cc : ByteArray} {d : Nat} (hK : Cx K own cc d ad) {o n x : Nat} {rs : List Nat} {i : Int32} (ho : T[o]? = some (.inr (4, n, rs))) (hin : vp_in i n) (hx : rs[i.toNatClampNeg]? = some x) (hd : decode cc pc = .ok (.aaload, 1)) (k : Wp K n1 n2 T ad g (pc + 1) lv (.ref x :: st)) : Wp K n1 n2 T ad g pc lv (.int i :: .ref o :: st) := by
  intro H locs ls hP hD hS hl
  refine va_aldq hK.1 hK.2.1 hK.2.2.2.2.2.1 hP o 4 (C := RX2) (Wd_get ho) rfl hin hd ?_
  dsimp only
  rw [hx]
  exact (k H locs ls hP hD hS hl)
theorem r_iast {K : KT} {n1 n2 : Nat} {T : List TC} {ad : Nat → Nat} {g : St} {pc : Nat} {lv : List (Nat × Value)} {st : List Value} {own : String} {cc : ByteArray} {d : Nat} (hK : Cx K own cc d ad) {o n : Nat} {rs : List Nat} {i : Int32} {x : Int32} (ho : T[o]? = some (.inr (0, n, rs))) (hin : vp_in i n)  (hd : decode cc pc = .ok (.iastore, 1)) (k : Wp K n1 n2 T ad (upI g o i.toNatClampNeg x) (pc + 1) lv st) : Wp K n1 n2 T ad g pc lv (.int x :: .int i :: .ref o :: st) := by
  intro H locs ls hP hD hS hl
  have hset : (Wd K.2.2.2.1.2.1 ad g T).set o (ad o, .inl (K.2.2.2.1.2.1 0, n, .inl (upd (g.1 o) i.toNatClampNeg x))) = Wd K.2.2.2.1.2.1 ad (upI g o i.toNatClampNeg x) T := by
    refine Wd_set ho ?_ (fun j hj => ⟨upI_n hj, rfl⟩)
    simp only [c_ce, c_ar, upI_s]
  refine va_iast hK.1 hK.2.1 hK.2.2.2.2.2.1 hP hD hS o 0 (Wd_get ho) rfl hin hd (fun H1 locs1 h1 h2 h3 => ?_)
  rw [hset] at h1 h2
  exact k H1 locs1 ls h1 h2 h3 hl
theorem r_zast {K : KT} {n1 n2 : Nat} {T : List TC} {ad : Nat → Nat} {g : St} {pc : Nat} {lv : List (Nat × Value)} {st : List Value} {own : String} {cc : ByteArray} {d : Nat} (hK : Cx K own cc d ad) {o n : Nat} {rs : List Nat} {i : Int32} {x : Int32} (ho : T[o]? = some (.inr (2, n, rs))) (hin : vp_in i n) (hx : vp_nar .boolean x = x) (hd : decode cc pc = .ok (.bastore, 1)) (k : Wp K n1 n2 T ad (upI g o i.toNatClampNeg x) (pc + 1) lv st) : Wp K n1 n2 T ad g pc lv (.int x :: .int i :: .ref o :: st) := by
  intro H locs ls hP hD hS hl
  have hset : (Wd K.2.2.2.1.2.1 ad g T).set o (ad o, .inl (K.2.2.2.1.2.1 2, n, .inl (upd (g.1 o) i.toNatClampNeg x))) = Wd K.2.2.2.1.2.1 ad (upI g o i.toNatClampNeg x) T := by
    refine Wd_set ho ?_ (fun j hj => ⟨upI_n hj, rfl⟩)
    simp only [c_ce, c_ar, upI_s]
  refine va_zast hK.1 hK.2.1 hK.2.2.2.2.2.1 hP hD hS o 2 (Wd_get ho) rfl hin hd (fun H1 locs1 h1 h2 h3 => ?_)
  rw [hx] at h1 h2
  rw [hset] at h1 h2
  exact k H1 locs1 ls h1 h2 h3 hl
theorem r_last {K : KT} {n1 n2 : Nat} {T : List TC} {ad : Nat → Nat} {g : St} {pc : Nat} {lv : List (Nat × Value)} {st : List Value} {own : String} {cc : ByteArray} {d : Nat} (hK : Cx K own cc d ad) {o n : Nat} {rs : List Nat} {i : Int32} {x : Int64} (ho : T[o]? = some (.inr (1, n, rs))) (hin : vp_in i n)  (hd : decode cc pc = .ok (.lastore, 1)) (k : Wp K n1 n2 T ad (upL g o i.toNatClampNeg x) (pc + 1) lv st) : Wp K n1 n2 T ad g pc lv (.long x :: .int i :: .ref o :: st) := by
  intro H locs ls hP hD hS hl
  have hset : (Wd K.2.2.2.1.2.1 ad g T).set o (ad o, .inl (K.2.2.2.1.2.1 1, n, .inr (.inl (vp_updL (g.2 o) i.toNatClampNeg x)))) = Wd K.2.2.2.1.2.1 ad (upL g o i.toNatClampNeg x) T := by
    refine Wd_set ho ?_ (fun j hj => ⟨rfl, upL_n hj⟩)
    simp only [c_ce, c_ar, upL_s]
  refine va_last hK.1 hK.2.1 hK.2.2.2.2.2.1 hP hD hS o 1 (Wd_get ho) rfl hin hd (fun H1 locs1 h1 h2 h3 => ?_)
  rw [hset] at h1 h2
  exact k H1 locs1 ls h1 h2 h3 hl
theorem r_alen {K : KT} {n1 n2 : Nat} {T : List TC} {ad : Nat → Nat} {g : St} {pc : Nat} {lv : List (Nat × Value)} {st : List Value} {own : String} {cc : ByteArray} {d : Nat} (hK : Cx K own cc d ad) {o kd n : Nat} {rs : List Nat} {v : Int32} (ho : T[o]? = some (.inr (kd, n, rs))) (hkd : kd < 5) (hv : Int32.ofNat n = v) (hd : decode cc pc = .ok (.arraylength, 1)) (k : Wp K n1 n2 T ad g (pc + 1) lv (.int v :: st)) : Wp K n1 n2 T ad g pc lv (.ref o :: st) := by
  intro H locs ls hP hD hS hl
  obtain ⟨ty, hty⟩ : ∃ ty, (tyL K.2.2.2.1.2.1)[kd]? = some (K.2.2.2.1.2.1 kd, ty) := by
    match kd, hkd with
    | 0, _ => exact ⟨_, rfl⟩
    | 1, _ => exact ⟨_, rfl⟩
    | 2, _ => exact ⟨_, rfl⟩
    | 3, _ => exact ⟨_, rfl⟩
    | 4, _ => exact ⟨_, rfl⟩
  exact va_alen hK.1 hK.2.1 hK.2.2.2.2.2.1 hP o kd (Wd_get ho) hty hv hd (k H locs ls hP hD hS hl)
theorem wsM_good {mt : MT} (h : Cond.code mt.1 mt.2.1 mt.2.2.1 mt.2.2.2 ∈ gT) : GoodIn gT (wsM mt) := fun w hw => by
  rcases List.mem_cons.mp hw with rfl | hw
  · exact ⟨h, good_of_word (List.mem_filter.mp h).2⟩
  · exact ⟨hw, good_of_word (List.mem_filter.mp hw).2⟩
/-- what the callee may take as given -/
theorem Inv_of {K : KT} {own : String} {cc : ByteArray} {d : Nat} {T : List TC} {ad : Nat → Nat} {g : St} {H : Heap} {locs : List Loc} (hK : Cx K own cc d ad) (hP : va_P K.2.2.2.1.1 vwCl (Wd K.2.2.2.1.2.1 ad g T) H) (hD : va_D K.2.2.2.1.2.2 (Wd K.2.2.2.1.2.1 ad g T)) (hS : va_S K.2.2.2.1.2.2 K.2.1.1.heap H locs) {U : State} (hU : U.heap = H) (hW : K.2.1.1.WarmedH U.vm) : Inv K.2.2.2.1.1 K.2.2.2.1.2.1 T ad g H.size U := by
  obtain ⟨hx, hb, hown, hts, hN, hKK, hA, hE, hdep⟩ := hK
  refine ⟨by rw [hU], by rw [hU]; exact hP, hD.weaken (fun _ _ _ _ => trivial), va_K.moved hW.alike hKK, nT_warm hW hN, ?_⟩
  rw [hU]
  refine EX_go hE (fun _ _ => rfl) hW hS.2.1 (fun q hq => ?_)
  rcases hq with ⟨o, ho, rfl⟩ | hq
  · exact hD.2 o (ad o, _) (Wd_get (List.getElem?_eq_getElem ho))
  · exact hA q (Nat.le_trans hS.1 hq)
theorem AA_in {K : KT} {own : String} {cc : ByteArray} {d : Nat} {T : List TC} {ad : Nat → Nat} {g : St} {H : Heap} {locs : List Loc} (hK : Cx K own cc d ad) (hD : va_D K.2.2.2.1.2.2 (Wd K.2.2.2.1.2.1 ad g T)) (hS : va_S K.2.2.2.1.2.2 K.2.1.1.heap H locs) : ∀ q, AA T ad H.size q → K.2.2.2.1.2.2 q := by
  intro q hq
  rcases hq with ⟨o, ho, rfl⟩ | hq
  · exact hD.2 o (ad o, _) (Wd_get (List.getElem?_eq_getElem ho))
  · exact hK.2.2.2.2.2.2.1 q (Nat.le_trans hS.1 hq)
/-- behind a call: the walk goes on at the callee's world -/
theorem r_back {K : KT} {n1 n2 mc ms : Nat} {T : List TC} {ad : Nat → Nat} {g : St} {pc : Nat} {lv : List (Nat × Value)} {st0 rest : List Value} {own : String} {cc : ByteArray} {d : Nat} (hK : Cx K own cc d ad) {H : Heap} {locs : List Loc} {ls : Array Slot} {a : Array Value} {Q : PQt}
    (hD : va_D K.2.2.2.1.2.2 (Wd K.2.2.2.1.2.1 ad g T)) (hS : va_S K.2.2.2.1.2.2 K.2.1.1.heap H locs) (hl : lv_has ls K.2.2.1.2.maxLocals (vl ad lv))
    (hr : va_Run K.1.1 K.1.2.1 K.1.2.2.1 K.1.2.2.2 K.2.1.1 K.2.1.2.1 K.2.1.2.2.1 K.2.1.2.2.2 K.2.2.1.1 K.2.2.1.2 H locs n1 n2 mc ms (F0 K.2.1.2.1 pc ls st0) (rest.map (vv ad)) (PQ T ad H.size K.2.2.2.1.1 K.2.2.2.1.2.1 Q a) (AA T ad H.size))
    (hre : ∀ r T' ad' g', Q r T' ad' g' → (∀ o, o < T.length ∨ 1000 ≤ o → ad' o = ad o) → rest.map (vv ad) = rest.map (vv ad') ∧ vl ad lv = vl ad' lv)
    (k : ∀ r T' ad' g', Q r T' ad' g' → (∀ o, o < T.length ∨ 1000 ≤ o → ad' o = ad o) → T.length ≤ T'.length → Cx K own cc d ad' → Wp K (n1 + mc) (n2 + ms) T' ad' g' (pc + 3) lv (r.toList ++ rest)) :
    W K.1.1 K.1.2.1 K.1.2.2.1 K.1.2.2.2 K.2.1.1 K.2.1.2.1 K.2.1.2.2.1 K.2.1.2.2.2 K.2.2.1.1 K.2.2.1.2 H locs n1 n2 K.2.2.2.2 (F0 K.2.1.2.1 pc ls st0) := by
  intro U hU X
  obtain ⟨v, st₀, t, T1, L, h0, X', hL, e1, e2, ⟨⟨r, T', ad', g', hv, hq, hag, hlen, hP1, hD1⟩, hz, hk⟩, st⟩ := hr U hU X
  cases hv
  rw [h0] at hz hk
  have hin := AA_in hK hD hS
  obtain ⟨e30, e4⟩ := hre r T' ad' g' hq hag
  have e3 : (r.map (vv ad')).toList ++ rest.map (vv ad) = (r.toList ++ rest).map (vv ad') := by
    rw [List.map_append, e30]
    congr 1
    cases r <;> rfl
  have hCx : Cx K own cc d ad' := by
    obtain ⟨hx, hb, hown, hts, hN, hKK, hA, hE, hdep⟩ := hK
    refine ⟨hx, hb, hown, hts, hN, hKK, hA, ?_, hdep⟩
    obtain ⟨q1, q2, q3, q4⟩ := hE
    have e : (fun i => ad' (1000 + i)) = (fun i => ad (1000 + i)) := funext fun i => hag _ (Or.inr (Nat.le_add_right _ _))
    have e2 : (fun i => ad' (1100 + i)) = (fun i => ad (1100 + i)) := funext fun i => hag _ (Or.inr (by omega))
    exact ⟨by rw [e, e2]; exact q1, fun i hi => by rw [hag _ (Or.inr (Nat.le_add_right _ _))]; exact q2 i hi, q3, q4⟩
  have hS1 : va_S K.2.2.2.1.2.2 K.2.1.1.heap T1.heap (locs ++ L) := ⟨Nat.le_trans hS.1 (by rw [e1]; exact hz), fun q h1 h2 => by rw [e1, hk q (Nat.lt_of_lt_of_le h1 hS.1) (fun z => h2 (hin q z))]; exact hS.2.1 q h1 h2, fun q hq => by
      rcases List.mem_append.mp hq with h | h
      · exact hS.2.2 q h
      · exact hin _ (hL q h)⟩
  have := k r T' ad' g' hq hag hlen hCx T1.heap (locs ++ L) ls (by rw [e1]; exact hP1) (hD1.weaken (fun _ _ _ h => hin _ h)) hS1 (by rw [← e4]; exact hl)
  obtain ⟨t2, a1, b1⟩ := this T1 rfl X'
  rw [← e3] at a1
  exact ⟨t2, st t2 a1, b1⟩
theorem vv_sum {ad : Nat → Nat} (l : List Value) : ((l.map (vv ad)).map fun v => v.category).sum = (l.map fun v => v.category).sum := by
  rw [List.map_map]
  congr 1
  exact List.map_congr_left (fun v _ => vv_cat v)

theorem r_callV {K : KT} {n1 n2 : Nat} {T : List TC} {ad : Nat → Nat} {g : St} {pc : Nat} {lv : List (Nat × Value)} {own : String} {cc : ByteArray} {d : Nat} (hK : Cx K own cc d ad) {mt : MT} {idx d' mc ms n : Nat} {as rest : List Value} {Q : PQt} {o ci : Nat} {fs : List (Nat × Nat)} {q0 : vw_C} (hC : Cn d' mc ms mt (.ref o :: as) T ad g Q) (hMt : MtV mt n) (hLk : Ml own idx mt.1) (ho : T[o]? = some (.inl (ci, fs))) (hci : vwCl[ci]? = some q0) (hq0 : q0.1 = mt.1.cls) (hd : decode cc pc = .ok (.invokevirtual idx, 3)) (hcells : n1 + mc ≤ K.1.2.2.2.cells ∧ n2 + ms ≤ K.1.2.2.2.slots) (hn : as.length = n) (hdd : d' + 1 ≤ d) (hsum : (rest.map fun v => v.category).sum ≤ 8) (hre : ∀ r T' ad' g', Q r T' ad' g' → (∀ o, o < T.length ∨ 1000 ≤ o → ad' o = ad o) → rest.map (vv ad) = rest.map (vv ad') ∧ vl ad lv = vl ad' lv) (k : ∀ r T' ad' g', Q r T' ad' g' → (∀ o, o < T.length ∨ 1000 ≤ o → ad' o = ad o) → T.length ≤ T'.length → Cx K own cc d ad' → Wp K (n1 + mc) (n2 + ms) T' ad' g' (pc + 3) lv (r.toList ++ rest)) : Wp K n1 n2 T ad g pc lv (as.reverse ++ .ref o :: rest) := by
  intro H locs ls hP hD hS hl
  have hK0 := hK
  obtain ⟨hx, hb, hown, hts, hN, hKK, hA, hE, hdf, hdl⟩ := hK
  obtain ⟨⟨m1, m2, m3, m4, m5⟩, m6, m7⟩ := hMt
  have hroom : (rmD d' mc ms).frames + 1 ≤ K.1.2.2.2.frames ∧ 8 + (mt.2.2.1 + 11) + (rmD d' mc ms).locals ≤ K.1.2.2.2.locals := ⟨by show d' + 1 ≤ _; omega, by show 8 + (mt.2.2.1 + 11) + 64 * d' ≤ _; omega⟩
  have hM := hC K.1.2.1 K.2.2.2.1.1 K.2.2.2.1.2.1 H.size
  have hrecv := va_recv hKK hP hci (Wd_get ho)
  rw [hq0] at hrecv
  have hpre : PreV K.2.1.1 H mt.1.cls (ad o) (va_Pc ((Value.ref o :: as).map (vv ad)) (Inv K.2.2.2.1.1 K.2.2.2.1.2.1 T ad g H.size)) (as.map (vv ad)) := ⟨Inv_blind _, hrecv, fun U hU hW => ⟨rfl, Inv_of hK0 hP hD hS hU hW⟩⟩
  have hstk : (F0 K.2.1.2.1 pc ls ((as.reverse ++ .ref o :: rest).map (vv ad))).stack = (as.map (vv ad)).reverse ++ .ref (ad o) :: rest.map (vv ad) := by
    show (as.reverse ++ .ref o :: rest).map (vv ad) = _
    rw [List.map_append, List.map_reverse]
    rfl
  have hfix : CallFix K.1.1 K.2.1.2.1 K.2.2.1.2 cc K.2.2.1.2.maxLocals K.2.1.1 K.2.1.2.2.1 gT own := ⟨hx, hb, rfl, hown, hts⟩
  have hsz : ls.size = K.2.2.1.2.maxLocals := hl.1
  have hW8 : 2 * (F0 K.2.1.2.1 pc ls ((as.reverse ++ .ref o :: rest).map (vv ad))).monitorRoom + ((rest.map (vv ad)).map fun v => v.category).sum ≤ 8 := lv_room (by rw [vv_sum]; exact hsum)
  rcases hLk with hLk | ⟨host, hLk⟩
  · have cw : CallW K.1.2.2.2 K.2.1.1 K.2.1.2.2.1 own mt.1.cls idx mt.1 mt.2.1 mt.2.2.1 mt.2.2.2 (wsM mt) (rmD d' mc ms) mc ms n :=
      ⟨callB_of n hts (wsM_good m1) rfl rfl rfl (hts _ m2) (hts _ hLk) ⟨m3.1, m3.2, m4⟩ hroom, hts _ m6, hts _ m7⟩
    have hr := va_runV (e := K.1.2.2.1) (meth := K.2.2.1.1) (below := K.2.1.2.2.2) (locs := locs) (g := F0 K.2.1.2.1 pc ls ((as.reverse ++ .ref o :: rest).map (vv ad))) (rest := rest.map (vv ad)) hfix hM cw hpre rfl (by rw [List.length_map]; exact hn) hsz hstk hW8 hd hcells
    exact r_back hK0 hD hS hl hr hre k
  · have cw : va_CN K.1.2.2.2 K.2.1.1 K.2.1.2.2.1 own idx mt.1 host mt.2.1 mt.2.2.1 mt.2.2.2 (wsM mt) (rmD d' mc ms) mc ms n ∧ (Cond.instanceMethod mt.1).before K.2.1.2.2.1 K.2.1.1 = true ∧ (Cond.selects mt.1.cls mt.1 mt.1).before K.2.1.2.2.1 K.2.1.1 = true :=
      ⟨va_cnB n hts (wsM_good m1) rfl rfl rfl (hN _ hLk) (hts _ m2) ⟨m3.1, m3.2, m4⟩ hroom, hts _ m6, hts _ m7⟩
    have hr := va_runVN (e := K.1.2.2.1) (meth := K.2.2.1.1) (below := K.2.1.2.2.2) (locs := locs) (g := F0 K.2.1.2.1 pc ls ((as.reverse ++ .ref o :: rest).map (vv ad))) (rest := rest.map (vv ad)) hfix hM cw hpre rfl (by rw [List.length_map]; exact hn) hsz hstk hW8 hd hcells
    exact r_back hK0 hD hS hl hr hre k

theorem r_callS {K : KT} {n1 n2 : Nat} {T : List TC} {ad : Nat → Nat} {g : St} {pc : Nat} {lv : List (Nat × Value)} {own : String} {cc : ByteArray} {d : Nat} (hK : Cx K own cc d ad) {mt : MT} {idx d' mc ms n : Nat} {as rest : List Value} {Q : PQt} (hC : Cn d' mc ms mt as T ad g Q) (hMt : MtS mt n) (hLk : Ml own idx mt.1) (hd : decode cc pc = .ok (.invokestatic idx, 3)) (hcells : n1 + mc ≤ K.1.2.2.2.cells ∧ n2 + ms ≤ K.1.2.2.2.slots) (hn : as.length = n) (hdd : d' + 1 ≤ d) (hsum : (rest.map fun v => v.category).sum ≤ 8) (hre : ∀ r T' ad' g', Q r T' ad' g' → (∀ o, o < T.length ∨ 1000 ≤ o → ad' o = ad o) → rest.map (vv ad) = rest.map (vv ad') ∧ vl ad lv = vl ad' lv) (k : ∀ r T' ad' g', Q r T' ad' g' → (∀ o, o < T.length ∨ 1000 ≤ o → ad' o = ad o) → T.length ≤ T'.length → Cx K own cc d ad' → Wp K (n1 + mc) (n2 + ms) T' ad' g' (pc + 3) lv (r.toList ++ rest)) : Wp K n1 n2 T ad g pc lv (as.reverse ++ rest) := by
  intro H locs ls hP hD hS hl
  have hK0 := hK
  obtain ⟨hx, hb, hown, hts, hN, hKK, hA, hE, hdf, hdl⟩ := hK
  obtain ⟨⟨m1, m2, m3, m4, m5⟩, m6⟩ := hMt
  have hroom : (rmD d' mc ms).frames + 1 ≤ K.1.2.2.2.frames ∧ 8 + (mt.2.2.1 + 11) + (rmD d' mc ms).locals ≤ K.1.2.2.2.locals := ⟨by show d' + 1 ≤ _; omega, by show 8 + (mt.2.2.1 + 11) + 64 * d' ≤ _; omega⟩
  have hM := hC K.1.2.1 K.2.2.2.1.1 K.2.2.2.1.2.1 H.size
  have hpre : PreS K.2.1.1 H (va_Pc (as.map (vv ad)) (Inv K.2.2.2.1.1 K.2.2.2.1.2.1 T ad g H.size)) (as.map (vv ad)) := ⟨Inv_blind _, fun U hU hW => ⟨rfl, Inv_of hK0 hP hD hS hU hW⟩⟩
  have hstk : (F0 K.2.1.2.1 pc ls ((as.reverse ++ rest).map (vv ad))).stack = (as.map (vv ad)).reverse ++ rest.map (vv ad) := by
    show (as.reverse ++ rest).map (vv ad) = _
    rw [List.map_append, List.map_reverse]
  have hfix : CallFix K.1.1 K.2.1.2.1 K.2.2.1.2 cc K.2.2.1.2.maxLocals K.2.1.1 K.2.1.2.2.1 gT own := ⟨hx, hb, rfl, hown, hts⟩
  have hsz : ls.size = K.2.2.1.2.maxLocals := hl.1
  have hW8 : 2 * (F0 K.2.1.2.1 pc ls ((as.reverse ++ rest).map (vv ad))).monitorRoom + ((rest.map (vv ad)).map fun v => v.category).sum ≤ 8 := lv_room (by rw [vv_sum]; exact hsum)
  rcases hLk with hLk | ⟨host, hLk⟩
  · have cw : CallB K.1.2.2.2 K.2.1.1 K.2.1.2.2.1 own idx mt.1 mt.2.1 mt.2.2.1 mt.2.2.2 (wsM mt) (rmD d' mc ms) mc ms n ∧ (Cond.static mt.1).before K.2.1.2.2.1 K.2.1.1 = true :=
      ⟨callB_of n hts (wsM_good m1) rfl rfl rfl (hts _ m2) (hts _ hLk) ⟨m3.1, m3.2, m4⟩ hroom, hts _ m6⟩
    have hr := va_runS (e := K.1.2.2.1) (meth := K.2.2.1.1) (below := K.2.1.2.2.2) (locs := locs) (g := F0 K.2.1.2.1 pc ls ((as.reverse ++ rest).map (vv ad))) (rest := rest.map (vv ad)) hfix hM cw hpre rfl (by rw [List.length_map]; exact hn) hsz hstk hW8 hd hcells
    exact r_back hK0 hD hS hl hr hre k
  · have cw : va_CN K.1.2.2.2 K.2.1.1 K.2.1.2.2.1 own idx mt.1 host mt.2.1 mt.2.2.1 mt.2.2.2 (wsM mt) (rmD d' mc ms) mc ms n ∧ (Cond.static mt.1).before K.2.1.2.2.1 K.2.1.1 = true ∧ True :=
      ⟨va_cnB n hts (wsM_good m1) rfl rfl rfl (hN _ hLk) (hts _ m2) ⟨m3.1, m3.2, m4⟩ hroom, hts _ m6, trivial⟩
    have hr := va_runSN (e := K.1.2.2.1) (meth := K.2.2.1.1) (below := K.2.1.2.2.2) (locs := locs) (g := F0 K.2.1.2.1 pc ls ((as.reverse ++ rest).map (vv ad))) (rest := rest.map (vv ad)) hfix hM cw hpre rfl (by rw [List.length_map]; exact hn) hsz hstk hW8 hd hcells
    exact r_back hK0 hD hS hl hr hre k

theorem r_callI {K : KT} {n1 n2 : Nat} {T : List TC} {ad : Nat → Nat} {g : St} {pc : Nat} {lv : List (Nat × Value)} {own : String} {cc : ByteArray} {d : Nat} (hK : Cx K own cc d ad) {y : MethodName} {bytes : ByteArray} {maxL idx d' mc ms n : Nat} {as rest : List Value} {Q : PQt} {o : Nat} (hC : Cn d' mc ms (y, bytes, maxL, none) (.ref o :: as) T ad g Q) (hMt : MtN (y, bytes, maxL, none) n) (hLk : Ml own idx y) (hd : decode cc pc = .ok (.invokespecial idx, 3)) (hcells : n1 + mc ≤ K.1.2.2.2.cells ∧ n2 + ms ≤ K.1.2.2.2.slots) (hn : as.length = n) (hdd : d' + 1 ≤ d) (hsum : (rest.map fun v => v.category).sum ≤ 8) (hre : ∀ r T' ad' g', Q r T' ad' g' → (∀ o, o < T.length ∨ 1000 ≤ o → ad' o = ad o) → rest.map (vv ad) = rest.map (vv ad') ∧ vl ad lv = vl ad' lv) (k : ∀ r T' ad' g', Q r T' ad' g' → (∀ o, o < T.length ∨ 1000 ≤ o → ad' o = ad o) → T.length ≤ T'.length → Cx K own cc d ad' → Wp K (n1 + mc) (n2 + ms) T' ad' g' (pc + 3) lv (r.toList ++ rest)) : Wp K n1 n2 T ad g pc lv (as.reverse ++ .ref o :: rest) := by
  intro H locs ls hP hD hS hl
  have hK0 := hK
  obtain ⟨hx, hb, hown, hts, hN, hKK, hA, hE, hdf, hdl⟩ := hK
  obtain ⟨⟨m1, m2, m3, m4, m5⟩, m6, m7, m8⟩ := hMt
  have hroom : (rmD d' mc ms).frames + 1 ≤ K.1.2.2.2.frames ∧ 8 + (maxL + 11) + (rmD d' mc ms).locals ≤ K.1.2.2.2.locals := ⟨by show d' + 1 ≤ _; omega, by show 8 + (maxL + 11) + 64 * d' ≤ _; have : maxL ≤ 45 := m5; omega⟩
  have hM := hC K.1.2.1 K.2.2.2.1.1 K.2.2.2.1.2.1 H.size
  have hpre : PreS K.2.1.1 H (va_Pc ((Value.ref o :: as).map (vv ad)) (Inv K.2.2.2.1.1 K.2.2.2.1.2.1 T ad g H.size)) (.ref (ad o) :: as.map (vv ad)) := ⟨Inv_blind _, fun U hU hW => ⟨rfl, Inv_of hK0 hP hD hS hU hW⟩⟩
  have hstk : (F0 K.2.1.2.1 pc ls ((as.reverse ++ .ref o :: rest).map (vv ad))).stack = (as.map (vv ad)).reverse ++ .ref (ad o) :: rest.map (vv ad) := by
    show (as.reverse ++ .ref o :: rest).map (vv ad) = _
    rw [List.map_append, List.map_reverse]
    rfl
  have hfix : CallFix K.1.1 K.2.1.2.1 K.2.2.1.2 cc K.2.2.1.2.maxLocals K.2.1.1 K.2.1.2.2.1 gT own := ⟨hx, hb, rfl, hown, hts⟩
  have hsz : ls.size = K.2.2.1.2.maxLocals := hl.1
  have hW8 : 2 * (F0 K.2.1.2.1 pc ls ((as.reverse ++ .ref o :: rest).map (vv ad))).monitorRoom + ((rest.map (vv ad)).map fun v => v.category).sum ≤ 8 := lv_room (by rw [vv_sum]; exact hsum)
  rcases hLk with hLk | ⟨host, hLk⟩
  · have cw : CallB K.1.2.2.2 K.2.1.1 K.2.1.2.2.1 own idx y bytes maxL none (wsM (y, bytes, maxL, none)) (rmD d' mc ms) mc ms n ∧ y.name = "<init>" ∧ (Cond.instanceMethod y).before K.2.1.2.2.1 K.2.1.1 = true :=
      ⟨callB_of n hts (wsM_good m1) rfl rfl rfl (hts _ m2) (hts _ hLk) ⟨m3.1, m3.2, m4⟩ hroom, m7, hts _ m6⟩
    have hr := va_runI (e := K.1.2.2.1) (meth := K.2.2.1.1) (below := K.2.1.2.2.2) (locs := locs) (g := F0 K.2.1.2.1 pc ls ((as.reverse ++ .ref o :: rest).map (vv ad))) (rest := rest.map (vv ad)) hfix hM cw hpre rfl (by rw [List.length_map]; exact hn) hsz hstk hW8 hd hcells
    exact r_back hK0 hD hS hl hr hre k
  · have cw : va_CN K.1.2.2.2 K.2.1.1 K.2.1.2.2.1 own idx y host bytes maxL none (wsM (y, bytes, maxL, none)) (rmD d' mc ms) mc ms n ∧ y.name = "<init>" ∧ (Cond.instanceMethod y).before K.2.1.2.2.1 K.2.1.1 = true :=
      ⟨va_cnB n hts (wsM_good m1) rfl rfl rfl (hN _ hLk) (hts _ m2) ⟨m3.1, m3.2, m4⟩ hroom, m7, hts _ m6⟩
    have hr := va_runIN (e := K.1.2.2.1) (meth := K.2.2.1.1) (below := K.2.1.2.2.2) (locs := locs) (g := F0 K.2.1.2.1 pc ls ((as.reverse ++ .ref o :: rest).map (vv ad))) (rest := rest.map (vv ad)) hfix hM cw hpre rfl (by rw [List.length_map]; exact hn) hsz hstk hW8 hd hcells
    exact r_back hK0 hD hS hl hr hre k

theorem r_ireturn {K : KT} {mc ms : Nat} {T0 T : List TC} {ad0 ad : Nat → Nat} {g : St} {pc : Nat} {lv : List (Nat × Value)} {own : String} {cc : ByteArray} {d : Nat} (hK : Cx K own cc d ad) {Q : PQt} {v : Int32} (hR : Rt K mc ms T0 ad0 (some .int) Q) (hd : decode cc pc = .ok (.ireturn, 1)) (hag : ∀ o, o < T0.length ∨ 1000 ≤ o → ad o = ad0 o) (hlen : T0.length ≤ T.length) (hq : Q (some (.int v)) T ad g) : Wp K mc ms T ad g pc lv [.int v] := by
  intro H locs ls hP hD hS hl
  obtain ⟨q1, q2, q3, q4⟩ := hR
  rw [q4]
  have hf : ∀ q ∈ locs, AA T0 ad0 K.2.1.1.heap.size q.base := fun q hq => by rw [← q3]; exact hS.2.2 q hq
  have hpost : ∀ t : State, t.heap = H → PQ T0 ad0 K.2.1.1.heap.size K.2.2.2.1.1 K.2.2.2.1.2.1 Q K.2.1.2.2.1 K.2.1.1 (.returned (Option.map (vv ad) (some (.int v)))) t := fun t ht => ⟨⟨(some (.int v)), T, ad, g, rfl, hq, hag, hlen, by rw [ht]; exact hP, by rw [← q3]; exact hD⟩, by rw [q3] at hS; exact hS.F ht⟩
  exact W.iret hK.1 hK.2.1 q1 (fun t ht _ => hpost t ht) hf hd q2
theorem r_zreturn {K : KT} {mc ms : Nat} {T0 T : List TC} {ad0 ad : Nat → Nat} {g : St} {pc : Nat} {lv : List (Nat × Value)} {own : String} {cc : ByteArray} {d : Nat} (hK : Cx K own cc d ad) {Q : PQt} {v : Int32} (hv : v = 0 ∨ v = 1) (hR : Rt K mc ms T0 ad0 (some .boolean) Q) (hd : decode cc pc = .ok (.ireturn, 1)) (hag : ∀ o, o < T0.length ∨ 1000 ≤ o → ad o = ad0 o) (hlen : T0.length ≤ T.length) (hq : Q (some (.int v)) T ad g) : Wp K mc ms T ad g pc lv [.int v] := by
  intro H locs ls hP hD hS hl
  obtain ⟨q1, q2, q3, q4⟩ := hR
  rw [q4]
  have hf : ∀ q ∈ locs, AA T0 ad0 K.2.1.1.heap.size q.base := fun q hq => by rw [← q3]; exact hS.2.2 q hq
  have hpost : ∀ t : State, t.heap = H → PQ T0 ad0 K.2.1.1.heap.size K.2.2.2.1.1 K.2.2.2.1.2.1 Q K.2.1.2.2.1 K.2.1.1 (.returned (Option.map (vv ad) (some (.int v)))) t := fun t ht => ⟨⟨(some (.int v)), T, ad, g, rfl, hq, hag, hlen, by rw [ht]; exact hP, by rw [← q3]; exact hD⟩, by rw [q3] at hS; exact hS.F ht⟩
  exact W.zret hK.1 hK.2.1 q1 (by rcases hv with rfl | rfl <;> rfl) (fun t ht _ => hpost t ht) hf hd q2
theorem r_lreturn {K : KT} {mc ms : Nat} {T0 T : List TC} {ad0 ad : Nat → Nat} {g : St} {pc : Nat} {lv : List (Nat × Value)} {own : String} {cc : ByteArray} {d : Nat} (hK : Cx K own cc d ad) {Q : PQt} {v : Int64} (hR : Rt K mc ms T0 ad0 (some .long) Q) (hd : decode cc pc = .ok (.lreturn, 1)) (hag : ∀ o, o < T0.length ∨ 1000 ≤ o → ad o = ad0 o) (hlen : T0.length ≤ T.length) (hq : Q (some (.long v)) T ad g) : Wp K mc ms T ad g pc lv [.long v] := by
  intro H locs ls hP hD hS hl
  obtain ⟨q1, q2, q3, q4⟩ := hR
  rw [q4]
  have hf : ∀ q ∈ locs, AA T0 ad0 K.2.1.1.heap.size q.base := fun q hq => by rw [← q3]; exact hS.2.2 q hq
  have hpost : ∀ t : State, t.heap = H → PQ T0 ad0 K.2.1.1.heap.size K.2.2.2.1.1 K.2.2.2.1.2.1 Q K.2.1.2.2.1 K.2.1.1 (.returned (Option.map (vv ad) (some (.long v)))) t := fun t ht => ⟨⟨(some (.long v)), T, ad, g, rfl, hq, hag, hlen, by rw [ht]; exact hP, by rw [← q3]; exact hD⟩, by rw [q3] at hS; exact hS.F ht⟩
  exact W.lret hK.1 hK.2.1 q1 (fun t ht _ => hpost t ht) hf hd q2
theorem r_areturn {K : KT} {mc ms : Nat} {T0 T : List TC} {ad0 ad : Nat → Nat} {g : St} {pc : Nat} {lv : List (Nat × Value)} {own : String} {cc : ByteArray} {d : Nat} (hK : Cx K own cc d ad) {Q : PQt} {v : Nat} {cn : String} (hR : Rt K mc ms T0 ad0 (some (.object cn)) Q) (hd : decode cc pc = .ok (.areturn, 1)) (hag : ∀ o, o < T0.length ∨ 1000 ≤ o → ad o = ad0 o) (hlen : T0.length ≤ T.length) (hq : Q (some (.ref v)) T ad g) : Wp K mc ms T ad g pc lv [.ref v] := by
  intro H locs ls hP hD hS hl
  obtain ⟨q1, q2, q3, q4⟩ := hR
  rw [q4]
  have hf : ∀ q ∈ locs, AA T0 ad0 K.2.1.1.heap.size q.base := fun q hq => by rw [← q3]; exact hS.2.2 q hq
  have hpost : ∀ t : State, t.heap = H → PQ T0 ad0 K.2.1.1.heap.size K.2.2.2.1.1 K.2.2.2.1.2.1 Q K.2.1.2.2.1 K.2.1.1 (.returned (Option.map (vv ad) (some (.ref v)))) t := fun t ht => ⟨⟨(some (.ref v)), T, ad, g, rfl, hq, hag, hlen, by rw [ht]; exact hP, by rw [← q3]; exact hD⟩, by rw [q3] at hS; exact hS.F ht⟩
  exact W.aret hK.1 hK.2.1 q1 (Or.inl ⟨_, rfl⟩) (Or.inr ⟨_, rfl⟩) (fun t ht _ => hpost t ht) hf hd q2
theorem r_return {K : KT} {mc ms : Nat} {T0 T : List TC} {ad0 ad : Nat → Nat} {g : St} {pc : Nat} {lv : List (Nat × Value)} {own : String} {cc : ByteArray} {d : Nat} (hK : Cx K own cc d ad) {Q : PQt}  (hR : Rt K mc ms T0 ad0 none Q) (hd : decode cc pc = .ok (.return_, 1)) (hag : ∀ o, o < T0.length ∨ 1000 ≤ o → ad o = ad0 o) (hlen : T0.length ≤ T.length) (hq : Q none T ad g) : Wp K mc ms T ad g pc lv [] := by
  intro H locs ls hP hD hS hl
  obtain ⟨q1, q2, q3, q4⟩ := hR
  rw [q4]
  have hf : ∀ q ∈ locs, AA T0 ad0 K.2.1.1.heap.size q.base := fun q hq => by rw [← q3]; exact hS.2.2 q hq
  have hpost : ∀ t : State, t.heap = H → PQ T0 ad0 K.2.1.1.heap.size K.2.2.2.1.1 K.2.2.2.1.2.1 Q K.2.1.2.2.1 K.2.1.1 (.returned (Option.map (vv ad) none)) t := fun t ht => ⟨⟨none, T, ad, g, rfl, hq, hag, hlen, by rw [ht]; exact hP, by rw [← q3]; exact hD⟩, by rw [q3] at hS; exact hS.F ht⟩
  exact W.vret hK.1 hK.2.1 q1 (fun t ht _ => hpost t ht) hf hd q2
