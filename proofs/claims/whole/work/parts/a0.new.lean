/-! MAKING: rows that make cells -/
theorem w_oi_i : Cond.instanceMethod Lib.objectInit ∈ gT := gT_of 25 (by decide +kernel) rfl
theorem w_oi_c : Cond.code Lib.objectInit ⟨#[0xb1]⟩ 1 none ∈ gT := gT_of 26 (by decide +kernel) rfl
theorem w_arI : Cond.arrayClass .int ∈ gT := gT_of 43 (by decide +kernel) rfl
theorem w_arL : Cond.arrayClass .long ∈ gT := gT_of 1080 (by decide +kernel) rfl
theorem w_arZ : Cond.arrayClass .boolean ∈ gT := gT_of 1081 (by decide +kernel) rfl
def rfs : TC → List Nat
  | .inl q => q.2.filterMap (fun f => if f.1 = 2 ∨ f.1 = 3 then some f.2 else none)
  | .inr q => q.2.2
abbrev Clo (T : List TC) (n : Nat) : Prop := ∀ c ∈ T, ∀ x ∈ rfs c, x < n
theorem c_fv_ad {ad ad' : Nat → Nat} {g : St} {o k : Nat} {f : Nat × Nat} (h : f.1 = 2 ∨ f.1 = 3 → ad' f.2 = ad f.2) : c_fv ad' g o k f = c_fv ad g o k f := by
  obtain ⟨a, b⟩ := f
  match a, h with
  | 0, _ => rfl
  | 1, _ => rfl
  | 2, h => show Value.ref (ad' b) = Value.ref (ad b); rw [h (Or.inl rfl)]
  | 3, h => show (if _ then _ else Value.ref (ad' b)) = (if _ then _ else Value.ref (ad b)); rw [h (Or.inr rfl)]
  | n + 4, _ => rfl
theorem rfs_l {ci : Nat} {fs : List (Nat × Nat)} {x : Nat} : x ∈ rfs (.inl (ci, fs)) ↔ ∃ f ∈ fs, (f.1 = 2 ∨ f.1 = 3) ∧ f.2 = x := by
  unfold rfs
  rw [List.mem_filterMap]
  constructor
  · rintro ⟨f, h1, h2⟩
    split at h2
    · rename_i h3; exact ⟨f, h1, h3, Option.some.inj h2⟩
    · cases h2
  · rintro ⟨f, h1, h2, h3⟩
    exact ⟨f, h1, by rw [if_pos h2, h3]⟩
theorem c_ceA {cy : Nat → ClassId} {ad ad' : Nat → Nat} {g : St} {o : Nat} (c : TC) (h : ∀ x ∈ rfs c, ad' x = ad x) : c_ce cy ad' g o c = c_ce cy ad g o c := by
  cases c with
  | inl q =>
    obtain ⟨ci, fs⟩ := q
    show Sum.inr (ci, _) = Sum.inr (ci, _)
    congr 2
    apply List.ext_getElem?
    intro k
    simp only [List.getElem?_mapIdx]
    cases hk : fs[k]? with
    | none => rfl
    | some f =>
      simp only [Option.map_some]
      rw [c_fv_ad (fun hf => h f.2 (rfs_l.mpr ⟨f, List.mem_of_getElem? hk, hf, rfl⟩))]
  | inr q =>
    obtain ⟨kd, n, rs⟩ := q
    show Sum.inl (cy kd, n, _) = Sum.inl (cy kd, n, _)
    congr 3
    match kd with
    | 0 => rfl
    | 1 => rfl
    | 2 => rfl
    | k + 3 =>
      show Sum.inr (Sum.inr (Sum.inr (Sum.inr (fun j => (rs[j]?).map ad')))) = Sum.inr (Sum.inr (Sum.inr (Sum.inr (fun j => (rs[j]?).map ad))))
      congr 5
      funext j
      cases hj : rs[j]? with
      | none => rfl
      | some x => exact congrArg some (h x (List.mem_of_getElem? hj))
theorem WdA {cy : Nat → ClassId} {ad ad' : Nat → Nat} {g : St} {T : List TC} {n : Nat} (hn : T.length = n) (hcl : Clo T n) (ha : ∀ o, o ≠ n → ad' o = ad o) : Wd cy ad' g T = Wd cy ad g T := by
  apply List.ext_getElem?
  intro k
  simp only [Wd, List.getElem?_mapIdx]
  cases hk : T[k]? with
  | none => rfl
  | some c =>
    have hkl : k < T.length := (List.getElem?_eq_some_iff.mp hk).1
    simp only [Option.map_some]
    rw [ha k (by omega), c_ceA c (fun x hx => ha x (by have := hcl c (List.mem_of_getElem? hk) x hx; omega))]
theorem Wd_app {cy : Nat → ClassId} {ad ad' : Nat → Nat} {g : St} {T : List TC} {n q : Nat} {c : TC} (hn : T.length = n) (hcl : Clo T n) (ha : ∀ o, o ≠ n → ad' o = ad o) (hq : ad' n = q) : Wd cy ad' g (T ++ [c]) = Wd cy ad g T ++ [(q, c_ce cy ad' g n c)] := by
  rw [← WdA (cy := cy) (g := g) hn hcl ha]
  unfold Wd
  rw [List.mapIdx_append]
  congr 1
  show [(ad' (0 + T.length), c_ce cy ad' g (0 + T.length) c)] = _
  rw [Nat.zero_add, hn, hq]
theorem Wd_sT {cy : Nat → ClassId} {ad : Nat → Nat} {g : St} {T : List TC} {o : Nat} {c' : TC} : Wd cy ad g (T.set o c') = (Wd cy ad g T).set o (ad o, c_ce cy ad g o c') := by
  apply List.ext_getElem?
  intro k
  simp only [Wd, List.getElem?_mapIdx, List.getElem?_set, List.length_mapIdx]
  by_cases e : o = k
  · subst e
    rw [if_pos rfl, if_pos rfl]
    by_cases h : o < T.length
    · rw [if_pos h, if_pos h]; rfl
    · rw [if_neg h, if_neg h]; rfl
  · rw [if_neg e, if_neg e]
theorem Clo_app {T : List TC} {n : Nat} {c : TC} (h : Clo T n) (hc : ∀ x ∈ rfs c, x < n) : Clo (T ++ [c]) (n + 1) := fun c' hc' x hx => by
  rcases List.mem_append.mp hc' with h1 | h1
  · exact Nat.lt_succ_of_lt (h c' h1 x hx)
  · rw [List.mem_singleton.mp h1] at hx
    exact Nat.lt_succ_of_lt (hc x hx)
theorem Clo_set {T : List TC} {n o ci k x : Nat} {fs : List (Nat × Nat)} (h : Clo T n) (ho : T[o]? = some (.inl (ci, fs))) (hx : x < n) : Clo (T.set o (.inl (ci, fs.set k (2, x)))) n := fun c' hc' y hy => by
  rcases List.mem_or_eq_of_mem_set hc' with h1 | h1
  · exact h c' h1 y hy
  · subst h1
    obtain ⟨f, f1, f2, f3⟩ := rfs_l.mp hy
    rcases List.mem_or_eq_of_mem_set f1 with h2 | h2
    · exact h _ (List.mem_of_getElem? ho) y (rfs_l.mpr ⟨f, h2, f2, f3⟩)
    · subst h2; rw [← f3]; exact hx
def nr (n : Nat) : Value → Prop
  | .ref o => o ≠ n
  | _ => True
theorem vv_nr {ad ad' : Nat → Nat} {n : Nat} (ha : ∀ o, o ≠ n → ad' o = ad o) {v : Value} (h : nr n v) : vv ad' v = vv ad v := by
  cases v with
  | ref o => show Value.ref _ = Value.ref _; rw [ha o h]
  | _ => rfl
theorem vl_nr {ad ad' : Nat → Nat} {n : Nat} (ha : ∀ o, o ≠ n → ad' o = ad o) {lv : List (Nat × Value)} (h : ∀ q ∈ lv, nr n q.2) : vl ad' lv = vl ad lv := List.map_congr_left (fun q hq => by rw [vv_nr ha (h q hq)])
theorem sv_nr {ad ad' : Nat → Nat} {n : Nat} (ha : ∀ o, o ≠ n → ad' o = ad o) {st : List Value} (h : ∀ v ∈ st, nr n v) : st.map (vv ad') = st.map (vv ad) := List.map_congr_left (fun v hv => vv_nr ha (h v hv))
theorem CxA {K : KT} {own : String} {cc : ByteArray} {d : Nat} {ad ad' : Nat → Nat} (hK : Cx K own cc d ad) (ha : ∀ o, 1000 ≤ o → ad' o = ad o) : Cx K own cc d ad' := by
  obtain ⟨hx, hb, hown, hts, hN, hKK, hA, hE, hdep⟩ := hK
  refine ⟨hx, hb, hown, hts, hN, hKK, hA, ?_, hdep⟩
  obtain ⟨q1, q2, q3, q4⟩ := hE
  have e : (fun i => ad' (1000 + i)) = (fun i => ad (1000 + i)) := funext fun i => ha _ (Nat.le_add_right _ _)
  have e2 : (fun i => ad' (1100 + i)) = (fun i => ad (1100 + i)) := funext fun i => ha _ (by omega)
  exact ⟨by rw [e, e2]; exact q1, fun i hi => by rw [ha _ (Nat.le_add_right _ _)]; exact q2 i hi, q3, q4⟩
theorem r_T {K : KT} {n1 n2 : Nat} {T T' : List TC} {ad : Nat → Nat} {g : St} {pc : Nat} {lv : List (Nat × Value)} {st : List Value} (h : T = T') (k : Wp K n1 n2 T' ad g pc lv st) : Wp K n1 n2 T ad g pc lv st := by rw [h]; exact k
abbrev z0 : Nat → Int32 := fun _ => 0
abbrev z1 : Nat → Int64 := fun _ => 0
theorem r_objI {K : KT} {n1 n2 : Nat} {T : List TC} {ad : Nat → Nat} {g : St} {pc : Nat} {lv : List (Nat × Value)} {st : List Value} {own : String} {cc : ByteArray} {d : Nat} (hK : Cx K own cc d ad) {o : Nat} {idx : Nat} (hw : Cond.methodLink own idx ⟨"java/lang/Object", "<init>", "()V"⟩ ∈ gT) (hd : decode cc pc = .ok (.invokespecial idx, 3)) (hd1 : 1 ≤ d) (hsum : (st.map fun v => v.category).sum ≤ 8) (k : Wp K n1 n2 T ad g (pc + 3) lv st) : Wp K n1 n2 T ad g pc lv (.ref o :: st) := by
  intro H locs ls hP hD hS hl
  obtain ⟨hx, hb, hown, hts, hN, hKK, hA, hE, hdf, hdl⟩ := hK
  have h8 : 2 * (F0 K.2.1.2.1 pc ls ((Value.ref o :: st).map (vv ad))).monitorRoom + ((st.map (vv ad)).map fun v => v.category).sum ≤ 8 := lv_room (by rw [vv_sum]; exact hsum)
  exact W.objInit hx hb hown (hts _ hw) (hts _ w_oi_i) (hts _ w_oi_c) (g := F0 K.2.1.2.1 pc ls ((Value.ref o :: st).map (vv ad))) rfl hl.1 rfl hd (by omega) (by omega) (k H locs ls hP hD hS hl)
theorem r_newI {K : KT} {n1 n2 : Nat} {T : List TC} {ad : Nat → Nat} {g : St} {pc : Nat} {lv : List (Nat × Value)} {st : List Value} {own : String} {cc : ByteArray} {d : Nat} (hK : Cx K own cc d ad) {n m : Nat} {x : Int32} (hn : T.length = n) (hn9 : n < 1000) (hcl : Clo T n) (hz : g.1 n = z0 ∧ g.2 n = z1) (hx0 : x = nI m) (hm : m ≤ 2000) (hnn : n1 + 1 ≤ K.1.2.2.2.cells ∧ n2 + m ≤ K.1.2.2.2.slots) (hd : decode cc pc = .ok (.newarray .int, 2)) (hlv : ∀ q ∈ lv, nr n q.2) (hst : ∀ v ∈ st, nr n v) (k : ∀ ad', (∀ o, o ≠ n → ad' o = ad o) → Cx K own cc d ad' → Wp K (n1 + 1) (n2 + m) (T ++ [.inr (0, m, [])]) ad' g (pc + 2) lv (.ref n :: st)) : Wp K n1 n2 T ad g pc lv (.int x :: st) := by
  intro H locs ls hP hD hS hl
  have hK0 := hK
  obtain ⟨hx, hb, hown, hts, hN, hKK, hA, hE, hdf, hdl⟩ := hK
  subst hx0
  refine va_newa (atype := .int) (ty := .int) (a0 := (m, .inl (g.1 n))) hx hb (hts _ w_arI) rfl hKK hP hD hS hA (fun cA => by rw [hz.1]; rfl) (nI_pos (by omega)) (nI_clamp (by omega)) (Nat.le_trans (Nat.mul_le_mul hm (show componentBytes _ ≤ 8 by decide)) (by decide)) hnn.1 hnn.2 hd (fun q cA H1 k1 k2 k3 k4 => ?_)
  have e : cA = K.2.2.2.1.2.1 0 := by
    have a1 := (k1.2 5 (cA, .int) rfl).2
    have a2 := (hKK.2 0 (K.2.2.2.1.2.1 0, .int) rfl).2
    exact Option.some.inj (a1.symm.trans a2)
  have ha : ∀ o, o ≠ n → (fun o => if o = n then q else ad o) o = ad o := fun o ho => if_neg ho
  have hq : (fun o => if o = n then q else ad o) n = q := if_pos rfl
  have hW := Wd_app (cy := K.2.2.2.1.2.1) (g := g) (c := .inr (0, m, [])) hn hcl ha hq
  have hce : c_ce K.2.2.2.1.2.1 (fun o => if o = n then q else ad o) g n (.inr (0, m, [])) = .inl (cA, m, .inl (g.1 n)) := by rw [e]; rfl
  rw [hce] at hW
  have := k (fun o => if o = n then q else ad o) ha (CxA hK0 (fun o ho => ha o (by omega))) H1 locs ls (by rw [hW]; exact k2) (by rw [hW]; exact k3) k4 (by rw [vl_nr ha hlv]; exact hl)
  rw [show ((Value.ref n :: st).map (vv (fun o => if o = n then q else ad o))) = .ref q :: st.map (vv ad) from by rw [List.map_cons, sv_nr ha hst]; show Value.ref _ :: _ = _; rw [hq]] at this
  exact this
theorem r_newL {K : KT} {n1 n2 : Nat} {T : List TC} {ad : Nat → Nat} {g : St} {pc : Nat} {lv : List (Nat × Value)} {st : List Value} {own : String} {cc : ByteArray} {d : Nat} (hK : Cx K own cc d ad) {n m : Nat} {x : Int32} (hn : T.length = n) (hn9 : n < 1000) (hcl : Clo T n) (hz : g.1 n = z0 ∧ g.2 n = z1) (hx0 : x = nI m) (hm : m ≤ 2000) (hnn : n1 + 1 ≤ K.1.2.2.2.cells ∧ n2 + m ≤ K.1.2.2.2.slots) (hd : decode cc pc = .ok (.newarray .long, 2)) (hlv : ∀ q ∈ lv, nr n q.2) (hst : ∀ v ∈ st, nr n v) (k : ∀ ad', (∀ o, o ≠ n → ad' o = ad o) → Cx K own cc d ad' → Wp K (n1 + 1) (n2 + m) (T ++ [.inr (1, m, [])]) ad' g (pc + 2) lv (.ref n :: st)) : Wp K n1 n2 T ad g pc lv (.int x :: st) := by
  intro H locs ls hP hD hS hl
  have hK0 := hK
  obtain ⟨hx, hb, hown, hts, hN, hKK, hA, hE, hdf, hdl⟩ := hK
  subst hx0
  refine va_newa (atype := .long) (ty := .long) (a0 := (m, .inr (.inl (g.2 n)))) hx hb (hts _ w_arL) rfl hKK hP hD hS hA (fun cA => by rw [hz.2]; rfl) (nI_pos (by omega)) (nI_clamp (by omega)) (Nat.le_trans (Nat.mul_le_mul hm (show componentBytes _ ≤ 8 by decide)) (by decide)) hnn.1 hnn.2 hd (fun q cA H1 k1 k2 k3 k4 => ?_)
  have e : cA = K.2.2.2.1.2.1 1 := by
    have a1 := (k1.2 5 (cA, .long) rfl).2
    have a2 := (hKK.2 1 (K.2.2.2.1.2.1 1, .long) rfl).2
    exact Option.some.inj (a1.symm.trans a2)
  have ha : ∀ o, o ≠ n → (fun o => if o = n then q else ad o) o = ad o := fun o ho => if_neg ho
  have hq : (fun o => if o = n then q else ad o) n = q := if_pos rfl
  have hW := Wd_app (cy := K.2.2.2.1.2.1) (g := g) (c := .inr (1, m, [])) hn hcl ha hq
  have hce : c_ce K.2.2.2.1.2.1 (fun o => if o = n then q else ad o) g n (.inr (1, m, [])) = .inl (cA, m, .inr (.inl (g.2 n))) := by rw [e]; rfl
  rw [hce] at hW
  have := k (fun o => if o = n then q else ad o) ha (CxA hK0 (fun o ho => ha o (by omega))) H1 locs ls (by rw [hW]; exact k2) (by rw [hW]; exact k3) k4 (by rw [vl_nr ha hlv]; exact hl)
  rw [show ((Value.ref n :: st).map (vv (fun o => if o = n then q else ad o))) = .ref q :: st.map (vv ad) from by rw [List.map_cons, sv_nr ha hst]; show Value.ref _ :: _ = _; rw [hq]] at this
  exact this
theorem r_newZ {K : KT} {n1 n2 : Nat} {T : List TC} {ad : Nat → Nat} {g : St} {pc : Nat} {lv : List (Nat × Value)} {st : List Value} {own : String} {cc : ByteArray} {d : Nat} (hK : Cx K own cc d ad) {n m : Nat} {x : Int32} (hn : T.length = n) (hn9 : n < 1000) (hcl : Clo T n) (hz : g.1 n = z0 ∧ g.2 n = z1) (hx0 : x = nI m) (hm : m ≤ 2000) (hnn : n1 + 1 ≤ K.1.2.2.2.cells ∧ n2 + m ≤ K.1.2.2.2.slots) (hd : decode cc pc = .ok (.newarray .boolean, 2)) (hlv : ∀ q ∈ lv, nr n q.2) (hst : ∀ v ∈ st, nr n v) (k : ∀ ad', (∀ o, o ≠ n → ad' o = ad o) → Cx K own cc d ad' → Wp K (n1 + 1) (n2 + m) (T ++ [.inr (2, m, [])]) ad' g (pc + 2) lv (.ref n :: st)) : Wp K n1 n2 T ad g pc lv (.int x :: st) := by
  intro H locs ls hP hD hS hl
  have hK0 := hK
  obtain ⟨hx, hb, hown, hts, hN, hKK, hA, hE, hdf, hdl⟩ := hK
  subst hx0
  refine va_newa (atype := .boolean) (ty := .boolean) (a0 := (m, .inl (g.1 n))) hx hb (hts _ w_arZ) rfl hKK hP hD hS hA (fun cA => by rw [hz.1]; rfl) (nI_pos (by omega)) (nI_clamp (by omega)) (Nat.le_trans (Nat.mul_le_mul hm (show componentBytes _ ≤ 8 by decide)) (by decide)) hnn.1 hnn.2 hd (fun q cA H1 k1 k2 k3 k4 => ?_)
  have e : cA = K.2.2.2.1.2.1 2 := by
    have a1 := (k1.2 5 (cA, .boolean) rfl).2
    have a2 := (hKK.2 2 (K.2.2.2.1.2.1 2, .boolean) rfl).2
    exact Option.some.inj (a1.symm.trans a2)
  have ha : ∀ o, o ≠ n → (fun o => if o = n then q else ad o) o = ad o := fun o ho => if_neg ho
  have hq : (fun o => if o = n then q else ad o) n = q := if_pos rfl
  have hW := Wd_app (cy := K.2.2.2.1.2.1) (g := g) (c := .inr (2, m, [])) hn hcl ha hq
  have hce : c_ce K.2.2.2.1.2.1 (fun o => if o = n then q else ad o) g n (.inr (2, m, [])) = .inl (cA, m, .inl (g.1 n)) := by rw [e]; rfl
  rw [hce] at hW
  have := k (fun o => if o = n then q else ad o) ha (CxA hK0 (fun o ho => ha o (by omega))) H1 locs ls (by rw [hW]; exact k2) (by rw [hW]; exact k3) k4 (by rw [vl_nr ha hlv]; exact hl)
  rw [show ((Value.ref n :: st).map (vv (fun o => if o = n then q else ad o))) = .ref q :: st.map (vv ad) from by rw [List.map_cons, sv_nr ha hst]; show Value.ref _ :: _ = _; rw [hq]] at this
  exact this
def tcode : FieldType → Nat
  | .int => 0
  | .boolean => 0
  | .long => 1
  | .object _ => 4
  | .array _ => 4
  | _ => 9
def dvm (f : Nat × Nat) : Nat := match f.1 with
  | 0 => 0
  | 1 => 1
  | 2 => 8
  | _ => 4
theorem dv_ok {ad : Nat → Nat} {g : St} {n k : Nat} {f : Nat × Nat} {ty : FieldType} (hz : g.1 n = z0 ∧ g.2 n = z1) (h : tcode ty = dvm f) : defaultValue ty = c_fv ad g n k f := by
  obtain ⟨a, b⟩ := f
  match a, h with
  | 0, h =>
    have e : c_fv ad g n k (0, b) = .int 0 := by show Value.int _ = _; rw [hz.1]
    rw [e]
    cases ty <;> first | rfl | (exact absurd h (by decide)) | (simp [tcode, dvm] at h)
  | 1, h =>
    have e : c_fv ad g n k (1, b) = .long 0 := by show Value.long _ = _; rw [hz.2]
    rw [e]
    cases ty <;> first | rfl | (exact absurd h (by decide)) | (simp [tcode, dvm] at h)
  | 2, h => cases ty <;> first | (exact absurd h (by decide)) | (simp [tcode, dvm] at h)
  | 3, h =>
    have e : c_fv ad g n k (3, b) = .null := by show (if _ then _ else _) = _; rw [hz.1]; rfl
    rw [e]
    cases ty <;> first | rfl | (exact absurd h (by decide)) | (simp [tcode, dvm] at h)
  | a + 4, h =>
    show _ = Value.null
    cases ty <;> first | rfl | (exact absurd h (by show ¬ _ = 4; decide)) | (simp [tcode, dvm] at h)
/-- a class whose objects are made -/
theorem r_nw {K : KT} {n1 n2 : Nat} {T : List TC} {ad : Nat → Nat} {g : St} {pc : Nat} {lv : List (Nat × Value)} {st : List Value} {own : String} {cc : ByteArray} {d : Nat} (hK : Cx K own cc d ad) {n ci N idx : Nat} {C : String} {Tt : u_T} {ty : Nat → FieldType} {fs : List (Nat × Nat)} (hc : vwCl[ci]? = some (C, Tt, N)) (hin : ∀ w ∈ u_ws C Tt N, w ∈ gT) (hty : ∀ k, k < N → parseFieldDescriptor (Tt k).2.2.1 = some (ty k)) (hcl1 : Cond.classLink own idx C ∈ gT) (hinst : Cond.instantiable C N ∈ gT) (hini : Cond.initialized C ∈ gT) (hfl : fs.length = N) (hfs : ∀ j, j < N → tcode (ty j) = dvm (fs.getD j (9, 9))) (hn : T.length = n) (hn9 : n < 1000) (hcl : Clo T n) (hcf : ∀ x ∈ rfs (.inl (ci, fs)), x < n) (hz : g.1 n = z0 ∧ g.2 n = z1) (hnn : n1 + 1 ≤ K.1.2.2.2.cells ∧ n2 + N ≤ K.1.2.2.2.slots) (hd : decode cc pc = .ok (.new idx, 3)) (hlv : ∀ q ∈ lv, nr n q.2) (hst : ∀ v ∈ st, nr n v) (k : ∀ ad', (∀ o, o ≠ n → ad' o = ad o) → Cx K own cc d ad' → Wp K (n1 + 1) (n2 + N) (T ++ [.inl (ci, fs)]) ad' g (pc + 3) lv (.ref n :: st)) : Wp K n1 n2 T ad g pc lv st := by
  intro H locs ls hP hD hS hl
  have hK0 := hK
  obtain ⟨hx, hb, hown, hts, hN, hKK, hA, hE, hdf, hdl⟩ := hK
  refine va_new (ci := ci) (fs := fs.mapIdx (fun k f => c_fv ad g n k f)) (C := C) (T := Tt) (N := N) hx hb hts hin ty hty hown (hts _ hcl1) (hts _ hinst) (hts _ hini) hKK hP hD hS hA hc (fun j hj => ?_) hnn.1 hnn.2 hd (fun q H1 k2 k3 k4 => ?_)
  · have hlj : j < fs.length := by omega
    have e : fs.getD j (9, 9) = fs[j] := by rw [List.getD_eq_getElem?_getD, List.getElem?_eq_getElem hlj]; rfl
    unfold vp_V
    rw [List.getD_eq_getElem?_getD, List.getElem?_mapIdx, List.getElem?_eq_getElem hlj]
    exact dv_ok hz (by rw [← e]; exact hfs j hj)
  · have ha : ∀ o, o ≠ n → (fun o => if o = n then q else ad o) o = ad o := fun o ho => if_neg ho
    have hq : (fun o => if o = n then q else ad o) n = q := if_pos rfl
    have hW := Wd_app (cy := K.2.2.2.1.2.1) (g := g) (c := .inl (ci, fs)) hn hcl ha hq
    rw [c_ceA (.inl (ci, fs)) (fun x hx => ha x (by have := hcf x hx; omega))] at hW
    have := k (fun o => if o = n then q else ad o) ha (CxA hK0 (fun o ho => ha o (by omega))) H1 locs ls (by rw [hW]; exact k2) (by rw [hW]; exact k3) k4 (by rw [vl_nr ha hlv]; exact hl)
    rw [show ((Value.ref n :: st).map (vv (fun o => if o = n then q else ad o))) = .ref q :: st.map (vv ad) from by rw [List.map_cons, sv_nr ha hst]; show Value.ref _ :: _ = _; rw [hq]] at this
    exact this
theorem c_fs_sR {cy : Nat → ClassId} {ad : Nat → Nat} {g : St} {o ci k x : Nat} {fs : List (Nat × Nat)} : c_ce cy ad g o (.inl (ci, fs.set k (2, x))) = .inr (ci, (fs.mapIdx (fun k f => c_fv ad g o k f)).set k (.ref (ad x))) := by
  show Sum.inr (ci, _) = Sum.inr (ci, _)
  congr 2
  rw [List.mapIdx_set]
  rfl
theorem r_putR {K : KT} {n1 n2 : Nat} {T : List TC} {ad : Nat → Nat} {g : St} {pc : Nat} {lv : List (Nat × Value)} {st : List Value} {own : String} {cc : ByteArray} {d : Nat} (hK : Cx K own cc d ad) {idx o ci k x N : Nat} {Tt : u_T} {tyy : Nat → FieldType} {ty : FieldType} {fs : List (Nat × Nat)} (f1 : vwCl[ci]? = some (own, Tt, N)) (f2 : k < N) (f3 : ∀ w ∈ u_ws own Tt N, w ∈ gT) (f4 : ∀ k, k < N → parseFieldDescriptor (Tt k).2.2.1 = some (tyy k)) (f5 : ∀ a, a < N → ∀ b, b < N → a ≠ b → (Tt a).2.1 ≠ (Tt b).2.1) (f6 : Cond.fieldLink own idx own (Tt k).2.1 (Tt k).2.2.1 ∈ gT) (f7 : (Tt k).1 = own) (hT : Ft ci k ty true) (hnf : ∀ a : Nat, narrow ty (.ref a) = .ref a ∧ fits ty (.ref a) = true) (hini : K.2.2.1.1.name = "<init>") (ho : T[o]? = some (.inl (ci, fs))) (hk : k < fs.length) (hd : decode cc pc = .ok (.putfield idx, 3)) (kk : Wp K n1 n2 (T.set o (.inl (ci, fs.set k (2, x)))) ad g (pc + 3) lv st) : Wp K n1 n2 T ad g pc lv (.ref x :: .ref o :: st) := by
  intro H locs ls hP hD hS hl
  obtain ⟨hx, hb, hown, hts, hN, hKK, hA, hE, hdep⟩ := hK
  obtain ⟨t1, t2⟩ := hT own Tt N f1
  have hget := Wd_get (cy := K.2.2.2.1.2.1) (ad := ad) (g := g) ho
  have hsame : ∀ x, K.2.1.1.fieldFound? (Tt k).1 (Tt k).2.1 (Tt k).2.2.1 = some x → K.2.1.1.fieldFound? own (Tt k).2.1 (Tt k).2.2.1 = some x := fun x hx => by rw [f7] at hx; exact hx
  have hlen : k < (fs.mapIdx (fun k f => c_fv ad g o k f)).length := by rw [List.length_mapIdx]; exact hk
  have hset : (Wd K.2.2.2.1.2.1 ad g T).set o (ad o, .inr (ci, (fs.mapIdx (fun k f => c_fv ad g o k f)).set k (.ref (ad x)))) = Wd K.2.2.2.1.2.1 ad g (T.set o (.inl (ci, fs.set k (2, x)))) := by
    rw [Wd_sT, c_fs_sR]
  exact va_putF hx hb hts f3 tyy f4 f5 hown hKK hP hD hS o hget f1 k f2 (hts _ f6) hsame t2 hini f7 t1 (hnf _).1 (hnf _).2 hlen hd (fun H1 locs1 h1 h2 h3 => kk H1 locs1 ls (hset ▸ h1) (hset ▸ h2) h3 hl)
