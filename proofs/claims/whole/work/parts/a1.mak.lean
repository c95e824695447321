/-! MAKING: arrays of references, calls of constructors, a field made -/
theorem r_anw3 {K : KT} {n1 n2 : Nat} {T : List TC} {ad : Nat → Nat} {g : St} {pc : Nat} {lv : List (Nat × Value)} {st : List Value} {own : String} {cc : ByteArray} {d : Nat} (hK : Cx K own cc d ad) {n m idx : Nat} {x : Int32} (hao : va_AO RX1 K.2.1.1) (hcl1 : Cond.classLink own idx RX1 ∈ gT) (hn : T.length = n) (hn9 : n < 1000) (hcl : Clo T n) (hx0 : x = nI m) (hm : m ≤ 2000) (hnn : n1 + 1 ≤ K.1.2.2.2.cells ∧ n2 + m ≤ K.1.2.2.2.slots) (hd : decode cc pc = .ok (.anewarray idx, 3)) (hlv : ∀ q ∈ lv, nr n q.2) (hst : ∀ v ∈ st, nr n v) (k : ∀ ad', (∀ o, o ≠ n → ad' o = ad o) → Cx K own cc d ad' → Wp K (n1 + 1) (n2 + m) (T ++ [.inr (3, m, [])]) ad' g (pc + 3) lv (.ref n :: st)) : Wp K n1 n2 T ad g pc lv (.int x :: st) := by
  intro H locs ls hP hD hS hl
  have hK0 := hK
  obtain ⟨hx, hb, hown, hts, hN, hKK, hA, hE, hdf, hdl⟩ := hK
  subst hx0
  refine va_newq hx hb hown (hts _ hcl1) hao hKK hP hD hS hA (nI_pos (by omega)) (nI_clamp (by omega)) (Nat.le_trans (Nat.mul_le_mul_right 4 hm) (by decide)) hnn.1 hnn.2 hd (fun q cA H1 k1 k2 k3 k4 => ?_)
  have e : cA = K.2.2.2.1.2.1 3 := by
    obtain ⟨-, -, -, -, -, a1⟩ := (k1.2 5 (cA, .object RX1) rfl).2
    obtain ⟨-, -, -, -, -, a2⟩ := (hKK.2 3 (K.2.2.2.1.2.1 3, .object RX1) rfl).2
    exact Option.some.inj (a1.symm.trans a2)
  have ha : ∀ o, o ≠ n → (fun o => if o = n then q else ad o) o = ad o := fun o ho => if_neg ho
  have hq : (fun o => if o = n then q else ad o) n = q := if_pos rfl
  have hW := Wd_app (cy := K.2.2.2.1.2.1) (g := g) (c := .inr (3, m, [])) hn hcl ha hq
  have hce : c_ce K.2.2.2.1.2.1 (fun o => if o = n then q else ad o) g n (.inr (3, m, [])) = .inl (cA, m, .inr (.inr (.inr (.inr (fun _ => none))))) := by rw [e]; rfl
  rw [hce] at hW
  have := k (fun o => if o = n then q else ad o) ha (CxA hK0 (fun o ho => ha o (by omega))) H1 locs ls (by rw [hW]; exact k2) (by rw [hW]; exact k3) k4 (by rw [vl_nr ha hlv]; exact hl)
  rw [show ((Value.ref n :: st).map (vv (fun o => if o = n then q else ad o))) = .ref q :: st.map (vv ad) from by rw [List.map_cons, sv_nr ha hst]; show Value.ref _ :: _ = _; rw [hq]] at this
  exact this
theorem r_ast3 {K : KT} {n1 n2 : Nat} {T : List TC} {ad : Nat → Nat} {g : St} {pc : Nat} {lv : List (Nat × Value)} {st : List Value} {own : String} {cc : ByteArray} {d : Nat} (hK : Cx K own cc d ad) {o n m x : Nat} {rs : List Nat} {vs : List (Nat × Nat)} {i : Int32} (ho : T[o]? = some (.inr (3, n, rs))) (hx9 : T[x]? = some (.inl (1, vs))) (hm : rs.length = m) (hi : i = nI m) (hmn : m < n) (hn : n < 2 ^ 31) (hd : decode cc pc = .ok (.aastore, 1)) (kk : Wp K n1 n2 (T.set o (.inr (3, n, rs ++ [x]))) ad g (pc + 1) lv st) : Wp K n1 n2 T ad g pc lv (.ref x :: .int i :: .ref o :: st) := by
  intro H locs ls hP hD hS hl
  subst hi
  obtain ⟨hx, hb, hown, hts, hN, hKK, hA, hE, hdf, hdl⟩ := hK
  have hset : (Wd K.2.2.2.1.2.1 ad g T).set o (ad o, .inl (K.2.2.2.1.2.1 3, n, .inr (.inr (.inr (.inr (va_up (fun j => (rs[j]?).map ad) (nI m).toNatClampNeg (some (ad x)))))))) = Wd K.2.2.2.1.2.1 ad g (T.set o (.inr (3, n, rs ++ [x]))) := by
    rw [Wd_sT]
    congr 2
    show Sum.inl _ = Sum.inl (_, n, Sum.inr (Sum.inr (Sum.inr (Sum.inr (fun j => ((rs ++ [x])[j]?).map ad)))))
    congr 7
    funext j
    rw [nI_clamp (by omega)]
    unfold va_up
    by_cases e : j = m
    · rw [if_pos e, e, ← hm, List.getElem?_append_right (Nat.le_refl _), Nat.sub_self]; rfl
    · rw [if_neg e]
      by_cases h : j < m
      · rw [List.getElem?_append_left (by omega)]
      · have h1 : rs[j]? = none := List.getElem?_eq_none (by omega)
        have h2 : (rs ++ [x])[j]? = none := List.getElem?_eq_none (by rw [List.length_append]; show rs.length + 1 ≤ j; omega)
        show (rs[j]?).map ad = ((rs ++ [x])[j]?).map ad
        rw [h1, h2]
  exact va_astq hx hb hKK hP hD hS o 3 x 1 (Wd_get ho) rfl (Wd_get hx9) (r := (RX1, TX1, 12)) rfl (vp_in_nI hmn hn) hd (fun H1 locs1 q1 q2 q3 => kk H1 locs1 ls (hset ▸ q1) (hset ▸ q2) q3 hl)
theorem r_anw4 {K : KT} {n1 n2 : Nat} {T : List TC} {ad : Nat → Nat} {g : St} {pc : Nat} {lv : List (Nat × Value)} {st : List Value} {own : String} {cc : ByteArray} {d : Nat} (hK : Cx K own cc d ad) {n m idx : Nat} {x : Int32} (hao : va_AO RX2 K.2.1.1) (hcl1 : Cond.classLink own idx RX2 ∈ gT) (hn : T.length = n) (hn9 : n < 1000) (hcl : Clo T n) (hx0 : x = nI m) (hm : m ≤ 2000) (hnn : n1 + 1 ≤ K.1.2.2.2.cells ∧ n2 + m ≤ K.1.2.2.2.slots) (hd : decode cc pc = .ok (.anewarray idx, 3)) (hlv : ∀ q ∈ lv, nr n q.2) (hst : ∀ v ∈ st, nr n v) (k : ∀ ad', (∀ o, o ≠ n → ad' o = ad o) → Cx K own cc d ad' → Wp K (n1 + 1) (n2 + m) (T ++ [.inr (4, m, [])]) ad' g (pc + 3) lv (.ref n :: st)) : Wp K n1 n2 T ad g pc lv (.int x :: st) := by
  intro H locs ls hP hD hS hl
  have hK0 := hK
  obtain ⟨hx, hb, hown, hts, hN, hKK, hA, hE, hdf, hdl⟩ := hK
  subst hx0
  refine va_newq hx hb hown (hts _ hcl1) hao hKK hP hD hS hA (nI_pos (by omega)) (nI_clamp (by omega)) (Nat.le_trans (Nat.mul_le_mul_right 4 hm) (by decide)) hnn.1 hnn.2 hd (fun q cA H1 k1 k2 k3 k4 => ?_)
  have e : cA = K.2.2.2.1.2.1 4 := by
    obtain ⟨-, -, -, -, -, a1⟩ := (k1.2 5 (cA, .object RX2) rfl).2
    obtain ⟨-, -, -, -, -, a2⟩ := (hKK.2 4 (K.2.2.2.1.2.1 4, .object RX2) rfl).2
    exact Option.some.inj (a1.symm.trans a2)
  have ha : ∀ o, o ≠ n → (fun o => if o = n then q else ad o) o = ad o := fun o ho => if_neg ho
  have hq : (fun o => if o = n then q else ad o) n = q := if_pos rfl
  have hW := Wd_app (cy := K.2.2.2.1.2.1) (g := g) (c := .inr (4, m, [])) hn hcl ha hq
  have hce : c_ce K.2.2.2.1.2.1 (fun o => if o = n then q else ad o) g n (.inr (4, m, [])) = .inl (cA, m, .inr (.inr (.inr (.inr (fun _ => none))))) := by rw [e]; rfl
  rw [hce] at hW
  have := k (fun o => if o = n then q else ad o) ha (CxA hK0 (fun o ho => ha o (by omega))) H1 locs ls (by rw [hW]; exact k2) (by rw [hW]; exact k3) k4 (by rw [vl_nr ha hlv]; exact hl)
  rw [show ((Value.ref n :: st).map (vv (fun o => if o = n then q else ad o))) = .ref q :: st.map (vv ad) from by rw [List.map_cons, sv_nr ha hst]; show Value.ref _ :: _ = _; rw [hq]] at this
  exact this
theorem r_ast4 {K : KT} {n1 n2 : Nat} {T : List TC} {ad : Nat → Nat} {g : St} {pc : Nat} {lv : List (Nat × Value)} {st : List Value} {own : String} {cc : ByteArray} {d : Nat} (hK : Cx K own cc d ad) {o n m x : Nat} {rs : List Nat} {vs : List (Nat × Nat)} {i : Int32} (ho : T[o]? = some (.inr (4, n, rs))) (hx9 : T[x]? = some (.inl (2, vs))) (hm : rs.length = m) (hi : i = nI m) (hmn : m < n) (hn : n < 2 ^ 31) (hd : decode cc pc = .ok (.aastore, 1)) (kk : Wp K n1 n2 (T.set o (.inr (4, n, rs ++ [x]))) ad g (pc + 1) lv st) : Wp K n1 n2 T ad g pc lv (.ref x :: .int i :: .ref o :: st) := by
  intro H locs ls hP hD hS hl
  subst hi
  obtain ⟨hx, hb, hown, hts, hN, hKK, hA, hE, hdf, hdl⟩ := hK
  have hset : (Wd K.2.2.2.1.2.1 ad g T).set o (ad o, .inl (K.2.2.2.1.2.1 4, n, .inr (.inr (.inr (.inr (va_up (fun j => (rs[j]?).map ad) (nI m).toNatClampNeg (some (ad x)))))))) = Wd K.2.2.2.1.2.1 ad g (T.set o (.inr (4, n, rs ++ [x]))) := by
    rw [Wd_sT]
    congr 2
    show Sum.inl _ = Sum.inl (_, n, Sum.inr (Sum.inr (Sum.inr (Sum.inr (fun j => ((rs ++ [x])[j]?).map ad)))))
    congr 7
    funext j
    rw [nI_clamp (by omega)]
    unfold va_up
    by_cases e : j = m
    · rw [if_pos e, e, ← hm, List.getElem?_append_right (Nat.le_refl _), Nat.sub_self]; rfl
    · rw [if_neg e]
      by_cases h : j < m
      · rw [List.getElem?_append_left (by omega)]
      · have h1 : rs[j]? = none := List.getElem?_eq_none (by omega)
        have h2 : (rs ++ [x])[j]? = none := List.getElem?_eq_none (by rw [List.length_append]; show rs.length + 1 ≤ j; omega)
        show (rs[j]?).map ad = ((rs ++ [x])[j]?).map ad
        rw [h1, h2]
  exact va_astq hx hb hKK hP hD hS o 4 x 2 (Wd_get ho) rfl (Wd_get hx9) (r := (RX2, TX2, 5)) rfl (vp_in_nI hmn hn) hd (fun H1 locs1 q1 q2 q3 => kk H1 locs1 ls (hset ▸ q1) (hset ▸ q2) q3 hl)
theorem Clo_ast {T : List TC} {n o kd m x : Nat} {rs : List Nat} (h : Clo T n) (ho : T[o]? = some (.inr (kd, m, rs))) (hx : x < n) : Clo (T.set o (.inr (kd, m, rs ++ [x]))) n := fun c' hc' y hy => by
  rcases List.mem_or_eq_of_mem_set hc' with h1 | h1
  · exact h c' h1 y hy
  · subst h1
    rcases List.mem_append.mp (show y ∈ rs ++ [x] from hy) with h2 | h2
    · exact h _ (List.mem_of_getElem? ho) y h2
    · rw [List.mem_singleton.mp h2]; exact hx
def lr (n : Nat) : Value → Prop
  | .ref o => o < n ∨ 1000 ≤ o
  | _ => True
theorem vv_lr {ad ad' : Nat → Nat} {n : Nat} (ha : ∀ o, o < n ∨ 1000 ≤ o → ad' o = ad o) {v : Value} (h : lr n v) : vv ad' v = vv ad v := by
  cases v with
  | ref o => show Value.ref _ = Value.ref _; rw [ha o h]
  | _ => rfl
/-- a constructor's end: nothing given back, the places, the memory -/
abbrev QN (T9 : List TC) (g9 : St) : PQt := fun r T' _ g' => r = none ∧ T' = T9 ∧ g' = g9
theorem r_cI {K : KT} {n1 n2 : Nat} {T : List TC} {ad : Nat → Nat} {g : St} {pc : Nat} {lv : List (Nat × Value)} {st : List Value} {own : String} {cc : ByteArray} {d : Nat} (hK : Cx K own cc d ad) {mt : MT} {idx d' mc ms n N : Nat} {as : List Value} {o : Nat} {T9 : List TC} {g9 : St} (hC : Cn d' mc ms mt (.ref o :: as) T ad g (QN T9 g9)) (hMt : MtN mt n) (hLk : Ml own idx mt.1) (hN : T.length = N) (hd : decode cc pc = .ok (.invokespecial idx, 3)) (hcells : n1 + mc ≤ K.1.2.2.2.cells ∧ n2 + ms ≤ K.1.2.2.2.slots) (hn : as.length = n) (hdd : d' + 1 ≤ d) (hsum : (st.map fun v => v.category).sum ≤ 8) (hlv : ∀ q ∈ lv, lr N q.2) (hst : ∀ v ∈ st, lr N v) (k : ∀ ad', (∀ o, o < N ∨ 1000 ≤ o → ad' o = ad o) → Cx K own cc d ad' → Wp K (n1 + mc) (n2 + ms) T9 ad' g9 (pc + 3) lv st) : Wp K n1 n2 T ad g pc lv (as.reverse ++ .ref o :: st) := by
  subst hN
  obtain ⟨y, bytes, maxL, ret⟩ := mt
  obtain rfl : ret = none := hMt.2.2.2
  refine r_callI hK hC hMt hLk hd hcells hn hdd hsum (fun r T' ad' g' hq ha => ⟨(List.map_congr_left (fun v hv => (vv_lr ha (hst v hv)).symm)), (List.map_congr_left (fun q hq => by rw [vv_lr ha (hlv q hq)]))⟩) (fun r T' ad' g' hq ha _ hCx => ?_)
  obtain ⟨rfl, rfl, rfl⟩ := hq
  exact k ad' ha hCx
theorem q_mret {K : KT} {mc ms : Nat} {T0 T : List TC} {ad0 ad : Nat → Nat} {g : St} {pc : Nat} {lv : List (Nat × Value)} {own : String} {cc : ByteArray} {d : Nat} (hK : Cx K own cc d ad) {T9 : List TC} {g9 : St} (hR : Rt K mc ms T0 ad0 none (QN T9 g9)) (hd : decode cc pc = .ok (.return_, 1)) (hag : ∀ o, o < T0.length ∨ 1000 ≤ o → ad o = ad0 o) (hlen : T0.length ≤ T.length) (hT : T = T9) (hg : g = g9) : Wp K mc ms T ad g pc lv [] := r_return hK hR hd hag hlen ⟨rfl, hT, hg⟩
theorem nf0 {T : List TC} {o : Nat} {c : TC} (ho : T[o]? = some c) : T = T.set o c ++ [] := by
  rw [List.append_nil]
  apply List.ext_getElem?
  intro k
  rw [List.getElem?_set]
  have hl : o < T.length := (List.getElem?_eq_some_iff.mp ho).1
  by_cases e : o = k
  · subst e; rw [if_pos rfl, if_pos hl]; exact ho
  · rw [if_neg e]
theorem nf_g {T L : List TC} {o n : Nat} {X : TC} (hn : T.length = n) (ho : o < n) : (T.set o X ++ L)[o]? = some X := by
  rw [List.getElem?_append_left (by rw [List.length_set]; omega), List.getElem?_set_self (by omega)]
theorem nf_s {T L : List TC} {o n : Nat} {X Y : TC} (hn : T.length = n) (ho : o < n) : (T.set o X ++ L).set o Y = T.set o Y ++ L := by
  rw [List.set_append_left _ _ (by rw [List.length_set]; omega), List.set_set]
theorem nf_l {T L : List TC} {o n m : Nat} {X : TC} (hn : T.length = n) (hm : L.length = m) : (T.set o X ++ L).length = n + m := by
  rw [List.length_append, List.length_set, hn, hm]
/-- a row made and put into a field of the object under making -/
theorem r_fa {K : KT} {n1 n2 : Nat} {T L : List TC} {ad : Nat → Nat} {g : St} {pc : Nat} {lv : List (Nat × Value)} {own : String} {cc : ByteArray} {d : Nat} (hK : Cx K own cc d ad) {n m M N k ci idx o : Nat} {Tt : u_T} {tyy : Nat → FieldType} {fs : List (Nat × Nat)} {x : Int32} (hn : T.length = n) (hm : L.length = m) (ho : o < n) (hnm : n + m < 1000) (hcl : Clo (T.set o (.inl (ci, fs)) ++ L) (n + m)) (hz : g.1 (n + m) = z0 ∧ g.2 (n + m) = z1) (hx : x = nI M) (hM : M ≤ 2000) (hnn : n1 + 1 ≤ K.1.2.2.2.cells ∧ n2 + M ≤ K.1.2.2.2.slots)
    (f1 : vwCl[ci]? = some (own, Tt, N)) (f2 : k < N) (f3 : ∀ w ∈ u_ws own Tt N, w ∈ gT) (f4 : ∀ k, k < N → parseFieldDescriptor (Tt k).2.2.1 = some (tyy k)) (f5 : ∀ a, a < N → ∀ b, b < N → a ≠ b → (Tt a).2.1 ≠ (Tt b).2.1) (f6 : Cond.fieldLink own idx own (Tt k).2.1 (Tt k).2.2.1 ∈ gT) (f7 : (Tt k).1 = own) (hT : Ft ci k (.array .int) true) (hini : K.2.2.1.1.name = "<init>") (hk : k < fs.length) (hd1 : decode cc pc = .ok (.newarray .int, 2)) (hd2 : decode cc (pc + 2) = .ok (.putfield idx, 3)) (hlv : ∀ q ∈ lv, nr (n + m) q.2)
    (kk : ∀ ad', (∀ q, q ≠ n + m → ad' q = ad q) → Cx K own cc d ad' → Clo (T.set o (.inl (ci, fs.set k (2, n + m))) ++ (L ++ [.inr (0, M, [])])) (n + m + 1) → Wp K (n1 + 1) (n2 + M) (T.set o (.inl (ci, fs.set k (2, n + m))) ++ (L ++ [.inr (0, M, [])])) ad' g (pc + 5) lv []) : Wp K n1 n2 (T.set o (.inl (ci, fs)) ++ L) ad g pc lv [.int x, .ref o] := by
  refine r_newI hK (nf_l hn hm) hnm hcl hz hx hM hnn hd1 hlv (fun v hv => ?_) (fun ad' ha hK' => ?_)
  · rw [List.mem_singleton.mp hv]; show o ≠ n + m; omega
  · have hg : ((T.set o (.inl (ci, fs)) ++ L) ++ [(.inr (0, M, []) : TC)])[o]? = some (.inl (ci, fs)) := by rw [List.append_assoc]; exact nf_g hn ho
    have hs : ((T.set o (.inl (ci, fs)) ++ L) ++ [(.inr (0, M, []) : TC)]).set o (.inl (ci, fs.set k (2, n + m))) = T.set o (.inl (ci, fs.set k (2, n + m))) ++ (L ++ [.inr (0, M, [])]) := by rw [List.append_assoc, nf_s hn ho]
    refine r_putR hK' f1 f2 f3 f4 f5 f6 f7 hT (fun _ => ⟨rfl, rfl⟩) hini hg hk hd2 ?_
    refine r_T hs ?_
    exact kk ad' ha hK' (by rw [← hs]; exact Clo_set (Clo_app hcl (fun y hy => absurd hy List.not_mem_nil)) hg (Nat.lt_succ_self _))
-- a constructor that takes arrays of references over for granted
def Inv2 (G : va_G) (cy : Nat → ClassId) (T : List TC) (ad : Nat → Nat) (g : St) (sz : Nat) (U : State) : Prop := Inv G cy T ad g sz U ∧ va_AO RX1 U ∧ va_AO RX2 U
theorem Inv2_blind {G : va_G} {cy : Nat → ClassId} {T : List TC} {ad : Nat → Nat} {g : St} {sz : Nat} (av : List Value) : FrameBlind (va_Pc av (Inv2 G cy T ad g sz)) := by
  intro a U gg mk h
  obtain ⟨h0, h1, h2, h3⟩ := h
  obtain ⟨h4, h5⟩ := Inv_blind av a U gg mk ⟨h0, h1⟩
  exact ⟨h4, h5, va_AO.moved (u := U) (U := U.calling gg mk a) (Vm.Alike.refl U.vm) h2, va_AO.moved (u := U) (U := U.calling gg mk a) (Vm.Alike.refl U.vm) h3⟩
def Cn2 (d mc ms : Nat) (mt : MT) (as : List Value) (T : List TC) (ad : Nat → Nat) (g : St) (Q : PQt) : Prop :=
  ∀ (l : Launch) (G : va_G) (cy : Nat → ClassId) (sz : Nat), Met l mt.1 (wsM mt) (rmD d mc ms) (va_Pc (as.map (vv ad)) (Inv2 G cy T ad g sz)) (PQ T ad sz G cy Q) mc ms (AA T ad sz)
theorem Cn2.mk {d mc ms : Nat} {mt : MT} {as : List Value} {T : List TC} {ad : Nat → Nat} {g : St} {Q : PQt} (hpn : plainName mt.1.cls = true) (hfit : (lg_sl as).length ≤ mt.2.2.1)
    (body : ∀ K : KT, Cx K mt.1.cls mt.2.1 d ad → Rt K mc ms T ad mt.2.2.2 Q → K.2.2.1.2.maxLocals = mt.2.2.1 → K.1.2.2.2 = rmD d mc ms → (K.2.2.1.1.name = mt.1.name) → (va_AO RX1 K.2.1.1 ∧ va_AO RX2 K.2.1.1) → Wp K 0 0 T ad g 0 (lv_args 0 as) []) : Cn2 d mc ms mt as T ad g Q := by
  intro l G cy sz
  refine Met.ofW (cc := mt.2.1) (maxL := mt.2.2.1) (ret := mt.2.2.2) hpn rfl ?_
  intro p e s m args below meth c s₁ B hml hv
  obtain ⟨rfl, ⟨hsz, hP, hD0, hK, hN, hE⟩, hao⟩ := hv
  subst hsz
  have hts := atoms_spec (ws := wsM mt) B.pre
  have hown : s.vm.findClass mt.1.cls = some m.cls := findClass_of_methodNamed B.named
  have hD : va_D (AA T ad s.heap.size) (Wd cy ad g T) := hD0.weaken (fun k q hk _ => by
    obtain ⟨c', h1, h2⟩ := Wd_inv hk
    exact Or.inl ⟨k, (List.getElem?_eq_some_iff.mp h1).1, by rw [h2]⟩)
  have hb := body ((p, l, e, rmD d mc ms), (s, m, (as.map (vv ad)).toArray, below), (meth, c), (G, cy, AA T ad s.heap.size), MQ below (PQ T ad s.heap.size G cy Q) (as.map (vv ad)).toArray s mc ms (AA T ad s.heap.size))
    ⟨B.exec, B.bytes, hown, fun w hw => hts w (List.mem_cons_of_mem _ hw), hN, hK, fun q hq => Or.inr hq, hE, Nat.le_refl _, Nat.le_refl _⟩ ⟨B.returns, B.notSynchronized, rfl, rfl⟩ hml rfl (name_of_methodNamed B.named B.method).1 hao
  have hc : (lg_sl (as.map (vv ad))).length = (lg_sl as).length := by
    have : ∀ vs : List Value, (lg_sl (vs.map (vv ad))).length = (lg_sl vs).length := by
      intro vs
      induction vs with
      | nil => rfl
      | cons v vs ih =>
        simp only [lg_sl, List.map_cons, List.flatMap_cons, List.length_append, vv_cat] at ih ⊢
        rw [ih]
        split <;> rfl
    exact this as
  have hl := lv_entry (as.map (vv ad)) (n := mt.2.2.1) (by rw [hc]; exact hfit)
  rw [lg_entry_eq]
  rw [vv_args] at hl
  refine hb s.heap [] _ hP hD va_S.rf ?_
  show lv_has _ c.maxLocals _
  rw [hml]
  exact hl
theorem r_callI2 {K : KT} {n1 n2 : Nat} {T : List TC} {ad : Nat → Nat} {g : St} {pc : Nat} {lv : List (Nat × Value)} {own : String} {cc : ByteArray} {d : Nat} (hK : Cx K own cc d ad) {y : MethodName} {bytes : ByteArray} {maxL idx d' mc ms n : Nat} {as rest : List Value} {Q : PQt} {o : Nat} (hao : va_AO RX1 K.2.1.1 ∧ va_AO RX2 K.2.1.1) (hC : Cn2 d' mc ms (y, bytes, maxL, none) (.ref o :: as) T ad g Q) (hMt : MtN (y, bytes, maxL, none) n) (hLk : Ml own idx y) (hd : decode cc pc = .ok (.invokespecial idx, 3)) (hcells : n1 + mc ≤ K.1.2.2.2.cells ∧ n2 + ms ≤ K.1.2.2.2.slots) (hn : as.length = n) (hdd : d' + 1 ≤ d) (hsum : (rest.map fun v => v.category).sum ≤ 8) (hre : ∀ r T' ad' g', Q r T' ad' g' → (∀ o, o < T.length ∨ 1000 ≤ o → ad' o = ad o) → rest.map (vv ad) = rest.map (vv ad') ∧ vl ad lv = vl ad' lv) (k : ∀ r T' ad' g', Q r T' ad' g' → (∀ o, o < T.length ∨ 1000 ≤ o → ad' o = ad o) → T.length ≤ T'.length → Cx K own cc d ad' → Wp K (n1 + mc) (n2 + ms) T' ad' g' (pc + 3) lv (r.toList ++ rest)) : Wp K n1 n2 T ad g pc lv (as.reverse ++ .ref o :: rest) := by
  intro H locs ls hP hD hS hl
  have hK0 := hK
  obtain ⟨hx, hb, hown, hts, hN, hKK, hA, hE, hdf, hdl⟩ := hK
  obtain ⟨⟨m1, m2, m3, m4, m5⟩, m6, m7, m8⟩ := hMt
  have hroom : (rmD d' mc ms).frames + 1 ≤ K.1.2.2.2.frames ∧ 8 + (maxL + 11) + (rmD d' mc ms).locals ≤ K.1.2.2.2.locals := ⟨by show d' + 1 ≤ _; omega, by show 8 + (maxL + 11) + 64 * d' ≤ _; have : maxL ≤ 45 := m5; omega⟩
  have hM := hC K.1.2.1 K.2.2.2.1.1 K.2.2.2.1.2.1 H.size
  have hpre : PreS K.2.1.1 H (va_Pc ((Value.ref o :: as).map (vv ad)) (Inv2 K.2.2.2.1.1 K.2.2.2.1.2.1 T ad g H.size)) (.ref (ad o) :: as.map (vv ad)) := ⟨Inv2_blind _, fun U hU hW => ⟨rfl, Inv_of hK0 hP hD hS hU hW, va_AO.moved hW.alike hao.1, va_AO.moved hW.alike hao.2⟩⟩
  have hstk : (F0 K.2.1.2.1 pc ls ((as.reverse ++ .ref o :: rest).map (vv ad))).stack = (as.map (vv ad)).reverse ++ .ref (ad o) :: rest.map (vv ad) := by
    show (as.reverse ++ .ref o :: rest).map (vv ad) = _
    rw [List.map_append, List.map_reverse]
    rfl
  have hfix : CallFix K.1.1 K.2.1.2.1 K.2.2.1.2 cc K.2.2.1.2.maxLocals K.2.1.1 K.2.1.2.2.1 gT own := ⟨hx, hb, rfl, hown, hts⟩
  have hsz : ls.size = K.2.2.1.2.maxLocals := hl.1
  have hW8 : 2 * (F0 K.2.1.2.1 pc ls ((as.reverse ++ .ref o :: rest).map (vv ad))).monitorRoom + ((rest.map (vv ad)).map fun v => v.category).sum ≤ 8 := lv_room (by rw [vv_sum]; exact hsum)
  rcases hLk with hLk | ⟨host, hLk⟩
  · have cw : CallB K.1.2.2.2 K.2.1.1 K.2.1.2.2.1 own idx y bytes maxL none (wsM (y, bytes, maxL, none)) (rmD d' mc ms) mc ms n ∧ y.name = "<init>" ∧ (Cond.instanceMethod y).before K.2.1.2.2.1 K.2.1.1 = true :=
      ⟨callB_of n hts (wsM_good m1) rfl rfl rfl (hts _ m2) (hts _ hLk) ⟨m3.1, m3.2, m4⟩ hroom, m7, hts _ m6⟩
    have hr := va_runI (e := K.1.2.2.1) (meth := K.2.2.1.1) (below := K.2.1.2.2.2) (locs := locs) (g := F0 K.2.1.2.1 pc ls ((as.reverse ++ .ref o :: rest).map (vv ad))) (rest := rest.map (vv ad)) hfix hM cw hpre rfl (by rw [List.length_map]; exact hn) hsz hstk hW8 hd hcells
    exact r_back hK0 hD hS hl hr hre k
  · have cw : va_CN K.1.2.2.2 K.2.1.1 K.2.1.2.2.1 own idx y host bytes maxL none (wsM (y, bytes, maxL, none)) (rmD d' mc ms) mc ms n ∧ y.name = "<init>" ∧ (Cond.instanceMethod y).before K.2.1.2.2.1 K.2.1.1 = true :=
      ⟨va_cnB n hts (wsM_good m1) rfl rfl rfl (hN _ hLk) (hts _ m2) ⟨m3.1, m3.2, m4⟩ hroom, m7, hts _ m6⟩
    have hr := va_runIN (e := K.1.2.2.1) (meth := K.2.2.1.1) (below := K.2.1.2.2.2) (locs := locs) (g := F0 K.2.1.2.1 pc ls ((as.reverse ++ .ref o :: rest).map (vv ad))) (rest := rest.map (vv ad)) hfix hM cw hpre rfl (by rw [List.length_map]; exact hn) hsz hstk hW8 hd hcells
    exact r_back hK0 hD hS hl hr hre k
