/-- the machine around a walk: program, launch, environment, room; state, method, arguments, frames below; method, code; the kinds, the arrays' classes, what may change; the goal -/
abbrev KT : Type := (Program × Launch × Env × Room) × (State × MethodId × Array Value × List Frame) × (Method × Code) × (va_G × (Nat → ClassId) × (Nat → Prop)) × (State → Prop)
def EX (ad : Nat → Nat) (A : Nat → Prop) (U : State) (H : Heap) : Prop :=
  (vk_S 8 sxLen sxB (fun i => ad (1000 + i)) (fun i => ad (1100 + i)) A U H) ∧ (∀ i, i < 8 → vk_R RX7 (sxI.getD i 0) (sxT.getD i "") (ad (1000 + i)) U) ∧ va_Z "java/lang/String" "COMPACT_STRINGS" "Z" (.int 1) A U H ∧ va_Zq "jdk/internal/util/Preconditions" "SIOOBE_FORMATTER" "Ljava/util/function/BiFunction;" A U H
theorem EX_go {ad ad' : Nat → Nat} {A B : Nat → Prop} {s U : State} {H H1 : Heap} (h : EX ad A s H) (ha : ∀ o, 1000 ≤ o → ad' o = ad o) (hW : s.WarmedH U.vm) (hq : ∀ a : Nat, a < H.size → ¬ A a → H1[a]? = H[a]?) (hB : ∀ q, B q → A q) : EX ad' B U H1 := by
  obtain ⟨h1, h2, h3, h4⟩ := h
  have e : (fun i => ad' (1000 + i)) = (fun i => ad (1000 + i)) := funext fun i => ha _ (Nat.le_add_right _ _)
  have e2 : (fun i => ad' (1100 + i)) = (fun i => ad (1100 + i)) := funext fun i => ha _ (by omega)
  refine ⟨?_, fun i hi => ?_, ((h3.kept hq).moved hW.alike).narrow hB, ((h4.kept hq).moved hW.alike).narrow hB⟩
  · rw [e, e2]; exact ((h1.kept hq).moved hW.alike).narrow hB
  · rw [ha _ (Nat.le_add_right _ _)]; exact (h2 i hi).warm hW
theorem EX_same {ad : Nat → Nat} {A : Nat → Prop} {s U : State} {H : Heap} (h : EX ad A s H) (hv : U.vm = s.vm) : EX ad A U H := by
  have hal : s.vm.Alike U.vm := by rw [hv]; exact Vm.Alike.refl _
  obtain ⟨h1, h2, h3, h4⟩ := h
  exact ⟨h1.moved hal, fun i hi => (h2 i hi).same hv, h3.moved hal, h4.moved hal⟩
def AA (T : List TC) (ad : Nat → Nat) (sz : Nat) : Nat → Prop := fun q => (∃ o, o < T.length ∧ q = ad o) ∨ sz ≤ q
def Inv (G : va_G) (cy : Nat → ClassId) (T : List TC) (ad : Nat → Nat) (g : St) (sz : Nat) (U : State) : Prop :=
  U.heap.size = sz ∧ va_P G vwCl (Wd cy ad g T) U.heap ∧ va_D (fun _ => True) (Wd cy ad g T) ∧ va_K G vwCl (tyL cy) U ∧ (∀ w ∈ nT, va_Nw w U) ∧ EX ad (AA T ad sz) U U.heap
theorem Inv_blind {G : va_G} {cy : Nat → ClassId} {T : List TC} {ad : Nat → Nat} {g : St} {sz : Nat} (av : List Value) : FrameBlind (va_Pc av (Inv G cy T ad g sz)) := by
  intro a U gg mk h
  obtain ⟨h0, h1, h2, h3, h4, h5, h6⟩ := h
  exact ⟨h0, h1, h2, h3, va_K.moved (u := U) (U := U.calling gg mk a) (Vm.Alike.refl U.vm) h4, nT_same (s := U) (U := U.calling gg mk a) rfl h5, EX_same (s := U) (U := U.calling gg mk a) h6 rfl⟩
/-- what holds around a walk of a method of class own, with bytes cc, d calls deep at most -/
def Cx (K : KT) (own : String) (cc : ByteArray) (d : Nat) (ad : Nat → Nat) : Prop :=
  K.1.1.tables.exec = Jvm.exec ∧ K.2.2.1.2.code = cc ∧ K.2.1.1.vm.findClass own = some K.2.1.2.1.cls ∧ (∀ w ∈ gT, w.before K.2.1.2.2.1 K.2.1.1 = true) ∧ (∀ w ∈ nT, va_Nw w K.2.1.1) ∧ va_K K.2.2.2.1.1 vwCl (tyL K.2.2.2.1.2.1) K.2.1.1 ∧ (∀ q, K.2.1.1.heap.size ≤ q → K.2.2.2.1.2.2 q) ∧ EX ad K.2.2.2.1.2.2 K.2.1.1 K.2.1.1.heap ∧ d ≤ K.1.2.2.2.frames ∧ 64 * d ≤ K.1.2.2.2.locals
/-- a walk: from every heap that is the world (T, ad, g), with these locals and this stack -/
def Wp (K : KT) (n1 n2 : Nat) (T : List TC) (ad : Nat → Nat) (g : St) (pc : Nat) (lv : List (Nat × Value)) (st : List Value) : Prop :=
  ∀ (H : Heap) (locs : List Loc) (ls : Array Slot), va_P K.2.2.2.1.1 vwCl (Wd K.2.2.2.1.2.1 ad g T) H → va_D K.2.2.2.1.2.2 (Wd K.2.2.2.1.2.1 ad g T) → va_S K.2.2.2.1.2.2 K.2.1.1.heap H locs → lv_has ls K.2.2.1.2.maxLocals (vl ad lv) → W K.1.1 K.1.2.1 K.1.2.2.1 K.1.2.2.2 K.2.1.1 K.2.1.2.1 K.2.1.2.2.1 K.2.1.2.2.2 K.2.2.1.1 K.2.2.1.2 H locs n1 n2 K.2.2.2.2 (F0 K.2.1.2.1 pc ls (st.map (vv ad)))
abbrev PQt : Type := Option Value → List TC → (Nat → Nat) → St → Prop
def PQ (T : List TC) (ad : Nat → Nat) (sz : Nat) (G : va_G) (cy : Nat → ClassId) (Q : PQt) : Array Value → State → Outcome → State → Prop := fun _ st oc t =>
  (∃ (r : Option Value) (T' : List TC) (ad' : Nat → Nat) (g' : St), oc = .returned (r.map (vv ad')) ∧ Q r T' ad' g' ∧ (∀ o, o < T.length ∨ 1000 ≤ o → ad' o = ad o) ∧ T.length ≤ T'.length ∧ va_P G vwCl (Wd cy ad' g' T') t.heap ∧ va_D (AA T ad sz) (Wd cy ad' g' T')) ∧ va_F (AA T ad sz) st t
def wsM (mt : MT) : List Cond := Cond.code mt.1 mt.2.1 mt.2.2.1 mt.2.2.2 :: gT
def rmD (d mc ms : Nat) : Room := { frames := d, cells := mc, slots := ms, locals := 64 * d }
/-- a method's contract: from the world (T, ad, g), with arguments as, it returns with Q -/
def Cn (d mc ms : Nat) (mt : MT) (as : List Value) (T : List TC) (ad : Nat → Nat) (g : St) (Q : PQt) : Prop :=
  ∀ (l : Launch) (G : va_G) (cy : Nat → ClassId) (sz : Nat), Met l mt.1 (wsM mt) (rmD d mc ms) (va_Pc (as.map (vv ad)) (Inv G cy T ad g sz)) (PQ T ad sz G cy Q) mc ms (AA T ad sz)
/-- how a walk of a method ends -/
def Rt (K : KT) (mc ms : Nat) (T : List TC) (ad : Nat → Nat) (ret : Option FieldType) (Q : PQt) : Prop :=
  K.2.2.1.1.sig.returnType = ret ∧ K.2.2.1.1.locks = false ∧ K.2.2.2.1.2.2 = AA T ad K.2.1.1.heap.size ∧ K.2.2.2.2 = MQ K.2.1.2.2.2 (PQ T ad K.2.1.1.heap.size K.2.2.2.1.1 K.2.2.2.1.2.1 Q) K.2.1.2.2.1 K.2.1.1 mc ms (AA T ad K.2.1.1.heap.size)
theorem Cn.mk {d mc ms : Nat} {mt : MT} {as : List Value} {T : List TC} {ad : Nat → Nat} {g : St} {Q : PQt} (hpn : plainName mt.1.cls = true) (hfit : (lg_sl as).length ≤ mt.2.2.1)
    (body : ∀ K : KT, Cx K mt.1.cls mt.2.1 d ad → Rt K mc ms T ad mt.2.2.2 Q → K.2.2.1.2.maxLocals = mt.2.2.1 → K.1.2.2.2 = rmD d mc ms → (K.2.2.1.1.name = mt.1.name) → Wp K 0 0 T ad g 0 (lv_args 0 as) []) : Cn d mc ms mt as T ad g Q := by
  intro l G cy sz
  refine Met.ofW (cc := mt.2.1) (maxL := mt.2.2.1) (ret := mt.2.2.2) hpn rfl ?_
  intro p e s m args below meth c s₁ B hml hv
  obtain ⟨rfl, hsz, hP, hD0, hK, hN, hE⟩ := hv
  subst hsz
  have hts := atoms_spec (ws := wsM mt) B.pre
  have hown : s.vm.findClass mt.1.cls = some m.cls := findClass_of_methodNamed B.named
  have hD : va_D (AA T ad s.heap.size) (Wd cy ad g T) := hD0.weaken (fun k q hk _ => by
    obtain ⟨c', h1, h2⟩ := Wd_inv hk
    exact Or.inl ⟨k, (List.getElem?_eq_some_iff.mp h1).1, by rw [h2]⟩)
  have hb := body ((p, l, e, rmD d mc ms), (s, m, (as.map (vv ad)).toArray, below), (meth, c), (G, cy, AA T ad s.heap.size), MQ below (PQ T ad s.heap.size G cy Q) (as.map (vv ad)).toArray s mc ms (AA T ad s.heap.size))
    ⟨B.exec, B.bytes, hown, fun w hw => hts w (List.mem_cons_of_mem _ hw), hN, hK, fun q hq => Or.inr hq, hE, Nat.le_refl _, Nat.le_refl _⟩ ⟨B.returns, B.notSynchronized, rfl, rfl⟩ hml rfl (name_of_methodNamed B.named B.method).1
  have hc : (lg_sl (as.map (vv ad))).length = (lg_sl as).length := by
    have : ∀ vs : List Value, (lg_sl (vs.map (vv ad))).length = (lg_sl vs).length := by
      intro vs
      induction vs with
      | nil => rfl
      | cons v vs ih =>
        simp only [lg_sl, List.map_cons, List.flatMap_cons, List.length_append, vv_cat] at ih ⊢
        rw [ih]
        split <;> rfl
    exact this as
  have hl := lv_entry (as.map (vv ad)) (n := mt.2.2.1) (by rw [hc]; exact hfit)
  rw [lg_entry_eq]
  rw [vv_args] at hl
  refine hb s.heap [] _ hP hD va_S.rf ?_
  show lv_has _ c.maxLocals _
  rw [hml]
  exact hl
def lget (lv : List (Nat × Value)) (i : Nat) : Option Value := match lv with
  | [] => none
  | q :: l => if q.1 = i then some q.2 else lget l i
theorem lget_mem : ∀ {lv : List (Nat × Value)} {i : Nat} {v : Value}, lget lv i = some v → (i, v) ∈ lv
  | [], _, _, h => by cases h
  | q :: l, i, v, h => by
    unfold lget at h
    split at h
    · rename_i e
      cases h
      exact List.mem_cons.mpr (Or.inl (by rw [← e]))
    · exact List.mem_cons_of_mem _ (lget_mem h)
theorem lget_at {ad : Nat → Nat} {ls : Array Slot} {n : Nat} {lv : List (Nat × Value)} {i : Nat} {v : Value} (h : lv_has ls n (vl ad lv)) (hl : lget lv i = some v) : ls[i]? = some (.val (vv ad v)) :=
  h.2.2 (i, vv ad v) (List.mem_map.mpr ⟨(i, v), lget_mem hl, rfl⟩)
abbrev lset (lv : List (Nat × Value)) (i : Nat) (v : Value) : List (Nat × Value) := (i, v) :: lv.filter (fun q => !(q.1 == i) && !(q.1 + 1 == i && q.2.category == 2))
abbrev lset2 (lv : List (Nat × Value)) (i : Nat) (v : Value) : List (Nat × Value) := (i, v) :: lv.filter (fun q => !(q.1 == i) && (!(q.1 == i + 1) && !(q.1 + 1 == i && q.2.category == 2)))
theorem vl_set {ad : Nat → Nat} {lv : List (Nat × Value)} {i : Nat} {v : Value} : lset (vl ad lv) i (vv ad v) = vl ad (lset lv i v) := by
  simp [lset, vl, List.filter_map, Function.comp_def, vv_cat]
theorem vl_set2 {ad : Nat → Nat} {lv : List (Nat × Value)} {i : Nat} {v : Value} : lset2 (vl ad lv) i (vv ad v) = vl ad (lset2 lv i v) := by
  simp [lset2, vl, List.filter_map, Function.comp_def, vv_cat]

theorem r_iconst {K : KT} {n1 n2 : Nat} {T : List TC} {ad : Nat → Nat} {g : St} {pc : Nat} {lv : List (Nat × Value)} {st : List Value} {own : String} {cc : ByteArray} {d : Nat} (hK : Cx K own cc d ad) {n : Int} {v : Int32} (hd : decode cc pc = .ok (.iconst n, 1)) (hv : Int32.ofInt n = v) (k : Wp K n1 n2 T ad g (pc + 1) lv (.int v :: st)) : Wp K n1 n2 T ad g pc lv st := by
  intro H locs ls hP hD hS hl
  exact lv_iconst hK.1 hK.2.1 hd hv (k H locs ls hP hD hS hl)
theorem r_bipush {K : KT} {n1 n2 : Nat} {T : List TC} {ad : Nat → Nat} {g : St} {pc : Nat} {lv : List (Nat × Value)} {st : List Value} {own : String} {cc : ByteArray} {d : Nat} (hK : Cx K own cc d ad) {n : Int} {v : Int32} (hd : decode cc pc = .ok (.bipush n, 2)) (hv : (Int8.ofInt n).toInt32 = v) (k : Wp K n1 n2 T ad g (pc + 2) lv (.int v :: st)) : Wp K n1 n2 T ad g pc lv st := by
  intro H locs ls hP hD hS hl
  exact lv_bipush hK.1 hK.2.1 hd hv (k H locs ls hP hD hS hl)
theorem r_sipush {K : KT} {n1 n2 : Nat} {T : List TC} {ad : Nat → Nat} {g : St} {pc : Nat} {lv : List (Nat × Value)} {st : List Value} {own : String} {cc : ByteArray} {d : Nat} (hK : Cx K own cc d ad) {n : Int} {v : Int32} (hd : decode cc pc = .ok (.sipush n, 3)) (hv : (Int16.ofInt n).toInt32 = v) (k : Wp K n1 n2 T ad g (pc + 3) lv (.int v :: st)) : Wp K n1 n2 T ad g pc lv st := by
  intro H locs ls hP hD hS hl
  exact lv_sipush hK.1 hK.2.1 hd hv (k H locs ls hP hD hS hl)
theorem r_lconst {K : KT} {n1 n2 : Nat} {T : List TC} {ad : Nat → Nat} {g : St} {pc : Nat} {lv : List (Nat × Value)} {st : List Value} {own : String} {cc : ByteArray} {d : Nat} (hK : Cx K own cc d ad) {n : Fin 2} {v : Int64} (hd : decode cc pc = .ok (.lconst n, 1)) (hv : Int64.ofNat (n : Nat) = v) (k : Wp K n1 n2 T ad g (pc + 1) lv (.long v :: st)) : Wp K n1 n2 T ad g pc lv st := by
  intro H locs ls hP hD hS hl
  exact lv_lconst hK.1 hK.2.1 hd hv (k H locs ls hP hD hS hl)
theorem r_ldc {K : KT} {n1 n2 : Nat} {T : List TC} {ad : Nat → Nat} {g : St} {pc : Nat} {lv : List (Nat × Value)} {st : List Value} {own : String} {cc : ByteArray} {d : Nat} (hK : Cx K own cc d ad) {ix : Nat} {v : Int32} (hw : Cond.constant own ix v ∈ gT) (hd : decode cc pc = .ok (.ldc ix, 2)) (k : Wp K n1 n2 T ad g (pc + 2) lv (.int v :: st)) : Wp K n1 n2 T ad g pc lv st := by
  intro H locs ls hP hD hS hl
  exact lv_ldc hK.1 hK.2.1 hK.2.2.1 (hK.2.2.2.1 _ hw) hd (k H locs ls hP hD hS hl)
theorem r_ldcw {K : KT} {n1 n2 : Nat} {T : List TC} {ad : Nat → Nat} {g : St} {pc : Nat} {lv : List (Nat × Value)} {st : List Value} {own : String} {cc : ByteArray} {d : Nat} (hK : Cx K own cc d ad) {ix : Nat} {v : Int32} (hw : Cond.constant own ix v ∈ gT) (hd : decode cc pc = .ok (.ldc_w ix, 3)) (k : Wp K n1 n2 T ad g (pc + 3) lv (.int v :: st)) : Wp K n1 n2 T ad g pc lv st := by
  intro H locs ls hP hD hS hl
  exact lv_ldcw hK.1 hK.2.1 hK.2.2.1 (hK.2.2.2.1 _ hw) hd (k H locs ls hP hD hS hl)
theorem r_ldc2 {K : KT} {n1 n2 : Nat} {T : List TC} {ad : Nat → Nat} {g : St} {pc : Nat} {lv : List (Nat × Value)} {st : List Value} {own : String} {cc : ByteArray} {d : Nat} (hK : Cx K own cc d ad) {ix : Nat} {v : Int64} (hw : Cond.constantLong own ix v ∈ gT) (hd : decode cc pc = .ok (.ldc2_w ix, 3)) (k : Wp K n1 n2 T ad g (pc + 3) lv (.long v :: st)) : Wp K n1 n2 T ad g pc lv st := by
  intro H locs ls hP hD hS hl
  exact lv_ldc2 hK.1 hK.2.1 hK.2.2.1 (hK.2.2.2.1 _ hw) hd (k H locs ls hP hD hS hl)
theorem r_iload_n {K : KT} {n1 n2 : Nat} {T : List TC} {ad : Nat → Nat} {g : St} {pc : Nat} {lv : List (Nat × Value)} {st : List Value} {own : String} {cc : ByteArray} {d : Nat} (hK : Cx K own cc d ad) {kk : Fin 4} {i : Nat} {x : Int32} (hd : decode cc pc = .ok (.iload_n kk, 1)) (hi : (kk : Nat) = i) (h : lget lv i = some (.int x)) (k : Wp K n1 n2 T ad g (pc + 1) lv (.int x :: st)) : Wp K n1 n2 T ad g pc lv st := by
  intro H locs ls hP hD hS hl
  exact lv_iload_n hK.1 hK.2.1 hd hi (lget_at hl h) (k H locs ls hP hD hS hl)
theorem r_iload {K : KT} {n1 n2 : Nat} {T : List TC} {ad : Nat → Nat} {g : St} {pc : Nat} {lv : List (Nat × Value)} {st : List Value} {own : String} {cc : ByteArray} {d : Nat} (hK : Cx K own cc d ad) {i : Nat} {x : Int32} (hd : decode cc pc = .ok (.iload i, 2)) (h : lget lv i = some (.int x)) (k : Wp K n1 n2 T ad g (pc + 2) lv (.int x :: st)) : Wp K n1 n2 T ad g pc lv st := by
  intro H locs ls hP hD hS hl
  exact lv_iload hK.1 hK.2.1 hd (lget_at hl h) (k H locs ls hP hD hS hl)
theorem r_lload_n {K : KT} {n1 n2 : Nat} {T : List TC} {ad : Nat → Nat} {g : St} {pc : Nat} {lv : List (Nat × Value)} {st : List Value} {own : String} {cc : ByteArray} {d : Nat} (hK : Cx K own cc d ad) {kk : Fin 4} {i : Nat} {x : Int64} (hd : decode cc pc = .ok (.lload_n kk, 1)) (hi : (kk : Nat) = i) (h : lget lv i = some (.long x)) (k : Wp K n1 n2 T ad g (pc + 1) lv (.long x :: st)) : Wp K n1 n2 T ad g pc lv st := by
  intro H locs ls hP hD hS hl
  exact lv_lload_n hK.1 hK.2.1 hd hi (lget_at hl h) (k H locs ls hP hD hS hl)
theorem r_lload {K : KT} {n1 n2 : Nat} {T : List TC} {ad : Nat → Nat} {g : St} {pc : Nat} {lv : List (Nat × Value)} {st : List Value} {own : String} {cc : ByteArray} {d : Nat} (hK : Cx K own cc d ad) {i : Nat} {x : Int64} (hd : decode cc pc = .ok (.lload i, 2)) (h : lget lv i = some (.long x)) (k : Wp K n1 n2 T ad g (pc + 2) lv (.long x :: st)) : Wp K n1 n2 T ad g pc lv st := by
  intro H locs ls hP hD hS hl
  exact lv_lload hK.1 hK.2.1 hd (lget_at hl h) (k H locs ls hP hD hS hl)
theorem r_aload_n {K : KT} {n1 n2 : Nat} {T : List TC} {ad : Nat → Nat} {g : St} {pc : Nat} {lv : List (Nat × Value)} {st : List Value} {own : String} {cc : ByteArray} {d : Nat} (hK : Cx K own cc d ad) {kk : Fin 4} {i : Nat} {x : Nat} (hd : decode cc pc = .ok (.aload_n kk, 1)) (hi : (kk : Nat) = i) (h : lget lv i = some (.ref x)) (k : Wp K n1 n2 T ad g (pc + 1) lv (.ref x :: st)) : Wp K n1 n2 T ad g pc lv st := by
  intro H locs ls hP hD hS hl
  exact lv_aload_n hK.1 hK.2.1 hd hi (lget_at hl h) (k H locs ls hP hD hS hl)
theorem r_aload {K : KT} {n1 n2 : Nat} {T : List TC} {ad : Nat → Nat} {g : St} {pc : Nat} {lv : List (Nat × Value)} {st : List Value} {own : String} {cc : ByteArray} {d : Nat} (hK : Cx K own cc d ad) {i : Nat} {x : Nat} (hd : decode cc pc = .ok (.aload i, 2)) (h : lget lv i = some (.ref x)) (k : Wp K n1 n2 T ad g (pc + 2) lv (.ref x :: st)) : Wp K n1 n2 T ad g pc lv st := by
  intro H locs ls hP hD hS hl
  exact lv_aload hK.1 hK.2.1 hd (lget_at hl h) (k H locs ls hP hD hS hl)
theorem r_aload_nN {K : KT} {n1 n2 : Nat} {T : List TC} {ad : Nat → Nat} {g : St} {pc : Nat} {lv : List (Nat × Value)} {st : List Value} {own : String} {cc : ByteArray} {d : Nat} (hK : Cx K own cc d ad) {kk : Fin 4} {i : Nat} (hd : decode cc pc = .ok (.aload_n kk, 1)) (hi : (kk : Nat) = i) (h : lget lv i = some .null) (k : Wp K n1 n2 T ad g (pc + 1) lv (.null :: st)) : Wp K n1 n2 T ad g pc lv st := by
  intro H locs ls hP hD hS hl
  exact lv_aload_nN hK.1 hK.2.1 hd hi (lget_at hl h) (k H locs ls hP hD hS hl)
theorem r_istore_n {K : KT} {n1 n2 : Nat} {T : List TC} {ad : Nat → Nat} {g : St} {pc : Nat} {lv : List (Nat × Value)} {st : List Value} {own : String} {cc : ByteArray} {d : Nat} (hK : Cx K own cc d ad) {kk : Fin 4} {i nL : Nat} {x : Int32} (hm : K.2.2.1.2.maxLocals = nL) (hd : decode cc pc = .ok (.istore_n kk, 1)) (hi : (kk : Nat) = i) (hn : i < nL) (k : Wp K n1 n2 T ad g (pc + 1) (lset lv i (.int x)) st) : Wp K n1 n2 T ad g pc lv (.int x :: st) := by
  intro H locs ls hP hD hS hl
  exact lv_istore_n hK.1 hK.2.1 hd hi hl (by rw [hm]; exact hn) (vl_set (v := .int x)) (fun ls' hl' => k H locs ls' hP hD hS hl')
theorem r_istore {K : KT} {n1 n2 : Nat} {T : List TC} {ad : Nat → Nat} {g : St} {pc : Nat} {lv : List (Nat × Value)} {st : List Value} {own : String} {cc : ByteArray} {d : Nat} (hK : Cx K own cc d ad) {i nL : Nat} {x : Int32} (hm : K.2.2.1.2.maxLocals = nL) (hd : decode cc pc = .ok (.istore i, 2)) (hn : i < nL) (k : Wp K n1 n2 T ad g (pc + 2) (lset lv i (.int x)) st) : Wp K n1 n2 T ad g pc lv (.int x :: st) := by
  intro H locs ls hP hD hS hl
  exact lv_istore hK.1 hK.2.1 hd hl (by rw [hm]; exact hn) (vl_set (v := .int x)) (fun ls' hl' => k H locs ls' hP hD hS hl')
theorem r_lstore_n {K : KT} {n1 n2 : Nat} {T : List TC} {ad : Nat → Nat} {g : St} {pc : Nat} {lv : List (Nat × Value)} {st : List Value} {own : String} {cc : ByteArray} {d : Nat} (hK : Cx K own cc d ad) {kk : Fin 4} {i nL : Nat} {x : Int64} (hm : K.2.2.1.2.maxLocals = nL) (hd : decode cc pc = .ok (.lstore_n kk, 1)) (hi : (kk : Nat) = i) (hn : i + 1 < nL) (k : Wp K n1 n2 T ad g (pc + 1) (lset2 lv i (.long x)) st) : Wp K n1 n2 T ad g pc lv (.long x :: st) := by
  intro H locs ls hP hD hS hl
  exact lv_lstore_n hK.1 hK.2.1 hd hi hl (by rw [hm]; exact hn) (vl_set2 (v := .long x)) (fun ls' hl' => k H locs ls' hP hD hS hl')
theorem r_lstore {K : KT} {n1 n2 : Nat} {T : List TC} {ad : Nat → Nat} {g : St} {pc : Nat} {lv : List (Nat × Value)} {st : List Value} {own : String} {cc : ByteArray} {d : Nat} (hK : Cx K own cc d ad) {i nL : Nat} {x : Int64} (hm : K.2.2.1.2.maxLocals = nL) (hd : decode cc pc = .ok (.lstore i, 2)) (hn : i + 1 < nL) (k : Wp K n1 n2 T ad g (pc + 2) (lset2 lv i (.long x)) st) : Wp K n1 n2 T ad g pc lv (.long x :: st) := by
  intro H locs ls hP hD hS hl
  exact lv_lstore hK.1 hK.2.1 hd hl (by rw [hm]; exact hn) (vl_set2 (v := .long x)) (fun ls' hl' => k H locs ls' hP hD hS hl')
theorem r_astore_n {K : KT} {n1 n2 : Nat} {T : List TC} {ad : Nat → Nat} {g : St} {pc : Nat} {lv : List (Nat × Value)} {st : List Value} {own : String} {cc : ByteArray} {d : Nat} (hK : Cx K own cc d ad) {kk : Fin 4} {i nL : Nat} {x : Nat} (hm : K.2.2.1.2.maxLocals = nL) (hd : decode cc pc = .ok (.astore_n kk, 1)) (hi : (kk : Nat) = i) (hn : i < nL) (k : Wp K n1 n2 T ad g (pc + 1) (lset lv i (.ref x)) st) : Wp K n1 n2 T ad g pc lv (.ref x :: st) := by
  intro H locs ls hP hD hS hl
  exact lv_astore_n hK.1 hK.2.1 hd hi hl (by rw [hm]; exact hn) (vl_set (v := .ref x)) (fun ls' hl' => k H locs ls' hP hD hS hl')
theorem r_astore {K : KT} {n1 n2 : Nat} {T : List TC} {ad : Nat → Nat} {g : St} {pc : Nat} {lv : List (Nat × Value)} {st : List Value} {own : String} {cc : ByteArray} {d : Nat} (hK : Cx K own cc d ad) {i nL : Nat} {x : Nat} (hm : K.2.2.1.2.maxLocals = nL) (hd : decode cc pc = .ok (.astore i, 2)) (hn : i < nL) (k : Wp K n1 n2 T ad g (pc + 2) (lset lv i (.ref x)) st) : Wp K n1 n2 T ad g pc lv (.ref x :: st) := by
  intro H locs ls hP hD hS hl
  exact lv_astore hK.1 hK.2.1 hd hl (by rw [hm]; exact hn) (vl_set (v := .ref x)) (fun ls' hl' => k H locs ls' hP hD hS hl')
theorem r_iinc {K : KT} {n1 n2 : Nat} {T : List TC} {ad : Nat → Nat} {g : St} {pc : Nat} {lv : List (Nat × Value)} {st : List Value} {own : String} {cc : ByteArray} {d : Nat} (hK : Cx K own cc d ad) {i nL : Nat} {n : Int} {x v : Int32} (hm : K.2.2.1.2.maxLocals = nL) (hd : decode cc pc = .ok (.iinc i n, 3)) (h : lget lv i = some (.int x)) (hv : x + Int32.ofInt n = v) (hn : i < nL) (k : Wp K n1 n2 T ad g (pc + 3) (lset lv i (.int v)) st) : Wp K n1 n2 T ad g pc lv st := by
  intro H locs ls hP hD hS hl
  obtain ⟨k9, hk9⟩ := List.getElem?_of_mem (lget_mem h)
  have hk' : (vl ad lv)[k9]? = some (i, .int x) := by rw [List.getElem?_map, hk9]; rfl
  exact lv_iinc hK.1 hK.2.1 hd hl hk' hv (by rw [hm]; exact hn) (vl_set (v := .int v)) (fun ls' hl' => k H locs ls' hP hD hS hl')
theorem r_iadd {K : KT} {n1 n2 : Nat} {T : List TC} {ad : Nat → Nat} {g : St} {pc : Nat} {lv : List (Nat × Value)} {st : List Value} {own : String} {cc : ByteArray} {d : Nat} (hK : Cx K own cc d ad) {x y : Int32} (hd : decode cc pc = .ok (.iadd, 1)) (k : Wp K n1 n2 T ad g (pc + 1) lv (.int (x + y) :: st)) : Wp K n1 n2 T ad g pc lv (.int y :: .int x :: st) := by
  intro H locs ls hP hD hS hl
  exact lv_iadd hK.1 hK.2.1 hd (k H locs ls hP hD hS hl)
theorem r_isub {K : KT} {n1 n2 : Nat} {T : List TC} {ad : Nat → Nat} {g : St} {pc : Nat} {lv : List (Nat × Value)} {st : List Value} {own : String} {cc : ByteArray} {d : Nat} (hK : Cx K own cc d ad) {x y : Int32} (hd : decode cc pc = .ok (.isub, 1)) (k : Wp K n1 n2 T ad g (pc + 1) lv (.int (x - y) :: st)) : Wp K n1 n2 T ad g pc lv (.int y :: .int x :: st) := by
  intro H locs ls hP hD hS hl
  exact lv_isub hK.1 hK.2.1 hd (k H locs ls hP hD hS hl)
theorem r_imul {K : KT} {n1 n2 : Nat} {T : List TC} {ad : Nat → Nat} {g : St} {pc : Nat} {lv : List (Nat × Value)} {st : List Value} {own : String} {cc : ByteArray} {d : Nat} (hK : Cx K own cc d ad) {x y : Int32} (hd : decode cc pc = .ok (.imul, 1)) (k : Wp K n1 n2 T ad g (pc + 1) lv (.int (x * y) :: st)) : Wp K n1 n2 T ad g pc lv (.int y :: .int x :: st) := by
  intro H locs ls hP hD hS hl
  exact lv_imul hK.1 hK.2.1 hd (k H locs ls hP hD hS hl)
theorem r_iand {K : KT} {n1 n2 : Nat} {T : List TC} {ad : Nat → Nat} {g : St} {pc : Nat} {lv : List (Nat × Value)} {st : List Value} {own : String} {cc : ByteArray} {d : Nat} (hK : Cx K own cc d ad) {x y : Int32} (hd : decode cc pc = .ok (.iand, 1)) (k : Wp K n1 n2 T ad g (pc + 1) lv (.int (x &&& y) :: st)) : Wp K n1 n2 T ad g pc lv (.int y :: .int x :: st) := by
  intro H locs ls hP hD hS hl
  exact lv_iand hK.1 hK.2.1 hd (k H locs ls hP hD hS hl)
theorem r_ior {K : KT} {n1 n2 : Nat} {T : List TC} {ad : Nat → Nat} {g : St} {pc : Nat} {lv : List (Nat × Value)} {st : List Value} {own : String} {cc : ByteArray} {d : Nat} (hK : Cx K own cc d ad) {x y : Int32} (hd : decode cc pc = .ok (.ior, 1)) (k : Wp K n1 n2 T ad g (pc + 1) lv (.int (x ||| y) :: st)) : Wp K n1 n2 T ad g pc lv (.int y :: .int x :: st) := by
  intro H locs ls hP hD hS hl
  exact lv_ior hK.1 hK.2.1 hd (k H locs ls hP hD hS hl)
theorem r_ixor {K : KT} {n1 n2 : Nat} {T : List TC} {ad : Nat → Nat} {g : St} {pc : Nat} {lv : List (Nat × Value)} {st : List Value} {own : String} {cc : ByteArray} {d : Nat} (hK : Cx K own cc d ad) {x y : Int32} (hd : decode cc pc = .ok (.ixor, 1)) (k : Wp K n1 n2 T ad g (pc + 1) lv (.int (x ^^^ y) :: st)) : Wp K n1 n2 T ad g pc lv (.int y :: .int x :: st) := by
  intro H locs ls hP hD hS hl
  exact lv_ixor hK.1 hK.2.1 hd (k H locs ls hP hD hS hl)
theorem r_ishl {K : KT} {n1 n2 : Nat} {T : List TC} {ad : Nat → Nat} {g : St} {pc : Nat} {lv : List (Nat × Value)} {st : List Value} {own : String} {cc : ByteArray} {d : Nat} (hK : Cx K own cc d ad) {x y : Int32} (hd : decode cc pc = .ok (.ishl, 1)) (k : Wp K n1 n2 T ad g (pc + 1) lv (.int (x <<< (y &&& 31)) :: st)) : Wp K n1 n2 T ad g pc lv (.int y :: .int x :: st) := by
  intro H locs ls hP hD hS hl
  exact lv_ishl hK.1 hK.2.1 hd (k H locs ls hP hD hS hl)
theorem r_ishr {K : KT} {n1 n2 : Nat} {T : List TC} {ad : Nat → Nat} {g : St} {pc : Nat} {lv : List (Nat × Value)} {st : List Value} {own : String} {cc : ByteArray} {d : Nat} (hK : Cx K own cc d ad) {x y : Int32} (hd : decode cc pc = .ok (.ishr, 1)) (k : Wp K n1 n2 T ad g (pc + 1) lv (.int (x >>> (y &&& 31)) :: st)) : Wp K n1 n2 T ad g pc lv (.int y :: .int x :: st) := by
  intro H locs ls hP hD hS hl
  exact lv_ishr hK.1 hK.2.1 hd (k H locs ls hP hD hS hl)
theorem r_idiv {K : KT} {n1 n2 : Nat} {T : List TC} {ad : Nat → Nat} {g : St} {pc : Nat} {lv : List (Nat × Value)} {st : List Value} {own : String} {cc : ByteArray} {d : Nat} (hK : Cx K own cc d ad) {x y : Int32} (hd : decode cc pc = .ok (.idiv, 1)) (h0 : ¬ y = 0) (k : Wp K n1 n2 T ad g (pc + 1) lv (.int (x / y) :: st)) : Wp K n1 n2 T ad g pc lv (.int y :: .int x :: st) := by
  intro H locs ls hP hD hS hl
  exact lv_idiv hK.1 hK.2.1 hd h0 (k H locs ls hP hD hS hl)
theorem r_irem {K : KT} {n1 n2 : Nat} {T : List TC} {ad : Nat → Nat} {g : St} {pc : Nat} {lv : List (Nat × Value)} {st : List Value} {own : String} {cc : ByteArray} {d : Nat} (hK : Cx K own cc d ad) {x y : Int32} (hd : decode cc pc = .ok (.irem, 1)) (h0 : ¬ y = 0) (k : Wp K n1 n2 T ad g (pc + 1) lv (.int (x - x / y * y) :: st)) : Wp K n1 n2 T ad g pc lv (.int y :: .int x :: st) := by
  intro H locs ls hP hD hS hl
  exact lv_irem hK.1 hK.2.1 hd h0 (k H locs ls hP hD hS hl)
theorem r_ladd {K : KT} {n1 n2 : Nat} {T : List TC} {ad : Nat → Nat} {g : St} {pc : Nat} {lv : List (Nat × Value)} {st : List Value} {own : String} {cc : ByteArray} {d : Nat} (hK : Cx K own cc d ad) {x y : Int64} (hd : decode cc pc = .ok (.ladd, 1)) (k : Wp K n1 n2 T ad g (pc + 1) lv (.long (x + y) :: st)) : Wp K n1 n2 T ad g pc lv (.long y :: .long x :: st) := by
  intro H locs ls hP hD hS hl
  exact lv_ladd hK.1 hK.2.1 hd (k H locs ls hP hD hS hl)
theorem r_lsub {K : KT} {n1 n2 : Nat} {T : List TC} {ad : Nat → Nat} {g : St} {pc : Nat} {lv : List (Nat × Value)} {st : List Value} {own : String} {cc : ByteArray} {d : Nat} (hK : Cx K own cc d ad) {x y : Int64} (hd : decode cc pc = .ok (.lsub, 1)) (k : Wp K n1 n2 T ad g (pc + 1) lv (.long (x - y) :: st)) : Wp K n1 n2 T ad g pc lv (.long y :: .long x :: st) := by
  intro H locs ls hP hD hS hl
  exact lv_lsub hK.1 hK.2.1 hd (k H locs ls hP hD hS hl)
theorem r_lmul {K : KT} {n1 n2 : Nat} {T : List TC} {ad : Nat → Nat} {g : St} {pc : Nat} {lv : List (Nat × Value)} {st : List Value} {own : String} {cc : ByteArray} {d : Nat} (hK : Cx K own cc d ad) {x y : Int64} (hd : decode cc pc = .ok (.lmul, 1)) (k : Wp K n1 n2 T ad g (pc + 1) lv (.long (x * y) :: st)) : Wp K n1 n2 T ad g pc lv (.long y :: .long x :: st) := by
  intro H locs ls hP hD hS hl
  exact lv_lmul hK.1 hK.2.1 hd (k H locs ls hP hD hS hl)
theorem r_land {K : KT} {n1 n2 : Nat} {T : List TC} {ad : Nat → Nat} {g : St} {pc : Nat} {lv : List (Nat × Value)} {st : List Value} {own : String} {cc : ByteArray} {d : Nat} (hK : Cx K own cc d ad) {x y : Int64} (hd : decode cc pc = .ok (.land, 1)) (k : Wp K n1 n2 T ad g (pc + 1) lv (.long (x &&& y) :: st)) : Wp K n1 n2 T ad g pc lv (.long y :: .long x :: st) := by
  intro H locs ls hP hD hS hl
  exact lv_land hK.1 hK.2.1 hd (k H locs ls hP hD hS hl)
theorem r_lor {K : KT} {n1 n2 : Nat} {T : List TC} {ad : Nat → Nat} {g : St} {pc : Nat} {lv : List (Nat × Value)} {st : List Value} {own : String} {cc : ByteArray} {d : Nat} (hK : Cx K own cc d ad) {x y : Int64} (hd : decode cc pc = .ok (.lor, 1)) (k : Wp K n1 n2 T ad g (pc + 1) lv (.long (x ||| y) :: st)) : Wp K n1 n2 T ad g pc lv (.long y :: .long x :: st) := by
  intro H locs ls hP hD hS hl
  exact lv_lor hK.1 hK.2.1 hd (k H locs ls hP hD hS hl)
theorem r_ldiv {K : KT} {n1 n2 : Nat} {T : List TC} {ad : Nat → Nat} {g : St} {pc : Nat} {lv : List (Nat × Value)} {st : List Value} {own : String} {cc : ByteArray} {d : Nat} (hK : Cx K own cc d ad) {x y : Int64} (hd : decode cc pc = .ok (.ldiv, 1)) (h0 : ¬ y = 0) (k : Wp K n1 n2 T ad g (pc + 1) lv (.long (x / y) :: st)) : Wp K n1 n2 T ad g pc lv (.long y :: .long x :: st) := by
  intro H locs ls hP hD hS hl
  exact lv_ldiv hK.1 hK.2.1 hd h0 (k H locs ls hP hD hS hl)
theorem r_lrem {K : KT} {n1 n2 : Nat} {T : List TC} {ad : Nat → Nat} {g : St} {pc : Nat} {lv : List (Nat × Value)} {st : List Value} {own : String} {cc : ByteArray} {d : Nat} (hK : Cx K own cc d ad) {x y : Int64} (hd : decode cc pc = .ok (.lrem, 1)) (h0 : ¬ y = 0) (k : Wp K n1 n2 T ad g (pc + 1) lv (.long (x - x / y * y) :: st)) : Wp K n1 n2 T ad g pc lv (.long y :: .long x :: st) := by
  intro H locs ls hP hD hS hl
  exact lv_lrem hK.1 hK.2.1 hd h0 (k H locs ls hP hD hS hl)
theorem r_lushr {K : KT} {n1 n2 : Nat} {T : List TC} {ad : Nat → Nat} {g : St} {pc : Nat} {lv : List (Nat × Value)} {st : List Value} {own : String} {cc : ByteArray} {d : Nat} (hK : Cx K own cc d ad) {x : Int64} {y : Int32} (hd : decode cc pc = .ok (.lushr, 1)) (k : Wp K n1 n2 T ad g (pc + 1) lv (.long ((x.toUInt64 >>> (y.toInt64.toUInt64 &&& Int64.toUInt64 63)).toInt64) :: st)) : Wp K n1 n2 T ad g pc lv (.int y :: .long x :: st) := by
  intro H locs ls hP hD hS hl
  exact lv_lushr hK.1 hK.2.1 hd rfl (k H locs ls hP hD hS hl)
theorem r_lshl {K : KT} {n1 n2 : Nat} {T : List TC} {ad : Nat → Nat} {g : St} {pc : Nat} {lv : List (Nat × Value)} {st : List Value} {own : String} {cc : ByteArray} {d : Nat} (hK : Cx K own cc d ad) {x : Int64} {y : Int32} (hd : decode cc pc = .ok (.lshl, 1)) (k : Wp K n1 n2 T ad g (pc + 1) lv (.long (x <<< (y.toInt64 &&& 63)) :: st)) : Wp K n1 n2 T ad g pc lv (.int y :: .long x :: st) := by
  intro H locs ls hP hD hS hl
  exact lv_lshl hK.1 hK.2.1 hd rfl (k H locs ls hP hD hS hl)
theorem r_lshr {K : KT} {n1 n2 : Nat} {T : List TC} {ad : Nat → Nat} {g : St} {pc : Nat} {lv : List (Nat × Value)} {st : List Value} {own : String} {cc : ByteArray} {d : Nat} (hK : Cx K own cc d ad) {x : Int64} {y : Int32} (hd : decode cc pc = .ok (.lshr, 1)) (k : Wp K n1 n2 T ad g (pc + 1) lv (.long (x >>> (y.toInt64 &&& 63)) :: st)) : Wp K n1 n2 T ad g pc lv (.int y :: .long x :: st) := by
  intro H locs ls hP hD hS hl
  exact lv_lshr hK.1 hK.2.1 hd rfl (k H locs ls hP hD hS hl)
theorem r_lcmp {K : KT} {n1 n2 : Nat} {T : List TC} {ad : Nat → Nat} {g : St} {pc : Nat} {lv : List (Nat × Value)} {st : List Value} {own : String} {cc : ByteArray} {d : Nat} (hK : Cx K own cc d ad) {x y : Int64} (hd : decode cc pc = .ok (.lcmp, 1)) (k : Wp K n1 n2 T ad g (pc + 1) lv (.int (lg_cmp x y) :: st)) : Wp K n1 n2 T ad g pc lv (.long y :: .long x :: st) := by
  intro H locs ls hP hD hS hl
  exact W.lcmp hK.1 hK.2.1 hd (k H locs ls hP hD hS hl)
theorem r_i2l {K : KT} {n1 n2 : Nat} {T : List TC} {ad : Nat → Nat} {g : St} {pc : Nat} {lv : List (Nat × Value)} {st : List Value} {own : String} {cc : ByteArray} {d : Nat} (hK : Cx K own cc d ad) {x : Int32} (hd : decode cc pc = .ok (.i2l, 1)) (k : Wp K n1 n2 T ad g (pc + 1) lv (.long x.toInt64 :: st)) : Wp K n1 n2 T ad g pc lv (.int x :: st) := by
  intro H locs ls hP hD hS hl
  exact lv_i2l hK.1 hK.2.1 hd rfl (k H locs ls hP hD hS hl)
theorem r_l2i {K : KT} {n1 n2 : Nat} {T : List TC} {ad : Nat → Nat} {g : St} {pc : Nat} {lv : List (Nat × Value)} {st : List Value} {own : String} {cc : ByteArray} {d : Nat} (hK : Cx K own cc d ad) {x : Int64} (hd : decode cc pc = .ok (.l2i, 1)) (k : Wp K n1 n2 T ad g (pc + 1) lv (.int x.toInt32 :: st)) : Wp K n1 n2 T ad g pc lv (.long x :: st) := by
  intro H locs ls hP hD hS hl
  exact lv_l2i hK.1 hK.2.1 hd rfl (k H locs ls hP hD hS hl)
theorem r_i2c {K : KT} {n1 n2 : Nat} {T : List TC} {ad : Nat → Nat} {g : St} {pc : Nat} {lv : List (Nat × Value)} {st : List Value} {own : String} {cc : ByteArray} {d : Nat} (hK : Cx K own cc d ad) {x : Int32} (hd : decode cc pc = .ok (.i2c, 1)) (k : Wp K n1 n2 T ad g (pc + 1) lv (.int ((x.toUInt32 % 65536).toInt32) :: st)) : Wp K n1 n2 T ad g pc lv (.int x :: st) := by
  intro H locs ls hP hD hS hl
  exact lv_i2c hK.1 hK.2.1 hd rfl (k H locs ls hP hD hS hl)
theorem r_dup {K : KT} {n1 n2 : Nat} {T : List TC} {ad : Nat → Nat} {g : St} {pc : Nat} {lv : List (Nat × Value)} {st : List Value} {own : String} {cc : ByteArray} {d : Nat} (hK : Cx K own cc d ad) {va : Value} (hd : decode cc pc = .ok (.dup, 1)) (hva : va.category = 1) (k : Wp K n1 n2 T ad g (pc + 1) lv (va :: va :: st)) : Wp K n1 n2 T ad g pc lv (va :: st) := by
  intro H locs ls hP hD hS hl
  exact lv_dup hK.1 hK.2.1 hd (by rw [vv_cat]; exact hva) (k H locs ls hP hD hS hl)
theorem r_pop {K : KT} {n1 n2 : Nat} {T : List TC} {ad : Nat → Nat} {g : St} {pc : Nat} {lv : List (Nat × Value)} {st : List Value} {own : String} {cc : ByteArray} {d : Nat} (hK : Cx K own cc d ad) {va : Value} (hd : decode cc pc = .ok (.pop, 1)) (hva : va.category = 1) (k : Wp K n1 n2 T ad g (pc + 1) lv st) : Wp K n1 n2 T ad g pc lv (va :: st) := by
  intro H locs ls hP hD hS hl
  exact lv_pop hK.1 hK.2.1 hd (by rw [vv_cat]; exact hva) (k H locs ls hP hD hS hl)
theorem r_dup2 {K : KT} {n1 n2 : Nat} {T : List TC} {ad : Nat → Nat} {g : St} {pc : Nat} {lv : List (Nat × Value)} {st : List Value} {own : String} {cc : ByteArray} {d : Nat} (hK : Cx K own cc d ad) {va vb : Value} (hd : decode cc pc = .ok (.dup2, 1)) (hva : va.category = 1) (hvb : vb.category = 1) (k : Wp K n1 n2 T ad g (pc + 1) lv (va :: vb :: va :: vb :: st)) : Wp K n1 n2 T ad g pc lv (va :: vb :: st) := by
  intro H locs ls hP hD hS hl
  exact lv_dup2_11 hK.1 hK.2.1 hd (by rw [vv_cat]; exact hva) (by rw [vv_cat]; exact hvb) (k H locs ls hP hD hS hl)
theorem r_null {K : KT} {n1 n2 : Nat} {T : List TC} {ad : Nat → Nat} {g : St} {pc : Nat} {lv : List (Nat × Value)} {st : List Value} {own : String} {cc : ByteArray} {d : Nat} (hK : Cx K own cc d ad) (hd : decode cc pc = .ok (.aconst_null, 1)) (k : Wp K n1 n2 T ad g (pc + 1) lv (.null :: st)) : Wp K n1 n2 T ad g pc lv st := by
  intro H locs ls hP hD hS hl
  exact lv_null hK.1 hK.2.1 hd (k H locs ls hP hD hS hl)
theorem r_if_eq {K : KT} {n1 n2 : Nat} {T : List TC} {ad : Nat → Nat} {g : St} {pc : Nat} {lv : List (Nat × Value)} {st : List Value} {own : String} {cc : ByteArray} {d : Nat} (hK : Cx K own cc d ad) {x : Int32} {off : Int} {tgt : Nat} (hd : decode cc pc = .ok (.ifCond .eq off, 3)) (ht : (pc : Int) + off = (tgt : Int)) (kt : x = 0 → Wp K n1 n2 T ad g tgt lv st) (kf : ¬ x = 0 → Wp K n1 n2 T ad g (pc + 3) lv st) : Wp K n1 n2 T ad g pc lv (.int x :: st) := by
  intro H locs ls hP hD hS hl
  exact lv_if_eq hK.1 hK.2.1 hd ht (fun h => kt h H locs ls hP hD hS hl) (fun h => kf h H locs ls hP hD hS hl)
theorem r_icmp_eq {K : KT} {n1 n2 : Nat} {T : List TC} {ad : Nat → Nat} {g : St} {pc : Nat} {lv : List (Nat × Value)} {st : List Value} {own : String} {cc : ByteArray} {d : Nat} (hK : Cx K own cc d ad) {x y : Int32} {off : Int} {tgt : Nat} (hd : decode cc pc = .ok (.if_icmp .eq off, 3)) (ht : (pc : Int) + off = (tgt : Int)) (kt : x = y → Wp K n1 n2 T ad g tgt lv st) (kf : ¬ x = y → Wp K n1 n2 T ad g (pc + 3) lv st) : Wp K n1 n2 T ad g pc lv (.int y :: .int x :: st) := by
  intro H locs ls hP hD hS hl
  exact lv_icmp_eq hK.1 hK.2.1 hd ht (fun h => kt h H locs ls hP hD hS hl) (fun h => kf h H locs ls hP hD hS hl)
theorem r_if_ne {K : KT} {n1 n2 : Nat} {T : List TC} {ad : Nat → Nat} {g : St} {pc : Nat} {lv : List (Nat × Value)} {st : List Value} {own : String} {cc : ByteArray} {d : Nat} (hK : Cx K own cc d ad) {x : Int32} {off : Int} {tgt : Nat} (hd : decode cc pc = .ok (.ifCond .ne off, 3)) (ht : (pc : Int) + off = (tgt : Int)) (kt : ¬ x = 0 → Wp K n1 n2 T ad g tgt lv st) (kf : x = 0 → Wp K n1 n2 T ad g (pc + 3) lv st) : Wp K n1 n2 T ad g pc lv (.int x :: st) := by
  intro H locs ls hP hD hS hl
  exact lv_if_ne hK.1 hK.2.1 hd ht (fun h => kt h H locs ls hP hD hS hl) (fun h => kf h H locs ls hP hD hS hl)
theorem r_icmp_ne {K : KT} {n1 n2 : Nat} {T : List TC} {ad : Nat → Nat} {g : St} {pc : Nat} {lv : List (Nat × Value)} {st : List Value} {own : String} {cc : ByteArray} {d : Nat} (hK : Cx K own cc d ad) {x y : Int32} {off : Int} {tgt : Nat} (hd : decode cc pc = .ok (.if_icmp .ne off, 3)) (ht : (pc : Int) + off = (tgt : Int)) (kt : ¬ x = y → Wp K n1 n2 T ad g tgt lv st) (kf : x = y → Wp K n1 n2 T ad g (pc + 3) lv st) : Wp K n1 n2 T ad g pc lv (.int y :: .int x :: st) := by
  intro H locs ls hP hD hS hl
  exact lv_icmp_ne hK.1 hK.2.1 hd ht (fun h => kt h H locs ls hP hD hS hl) (fun h => kf h H locs ls hP hD hS hl)
theorem r_if_lt {K : KT} {n1 n2 : Nat} {T : List TC} {ad : Nat → Nat} {g : St} {pc : Nat} {lv : List (Nat × Value)} {st : List Value} {own : String} {cc : ByteArray} {d : Nat} (hK : Cx K own cc d ad) {x : Int32} {off : Int} {tgt : Nat} (hd : decode cc pc = .ok (.ifCond .lt off, 3)) (ht : (pc : Int) + off = (tgt : Int)) (kt : x < 0 → Wp K n1 n2 T ad g tgt lv st) (kf : ¬ x < 0 → Wp K n1 n2 T ad g (pc + 3) lv st) : Wp K n1 n2 T ad g pc lv (.int x :: st) := by
  intro H locs ls hP hD hS hl
  exact lv_if_lt hK.1 hK.2.1 hd ht (fun h => kt h H locs ls hP hD hS hl) (fun h => kf h H locs ls hP hD hS hl)
theorem r_icmp_lt {K : KT} {n1 n2 : Nat} {T : List TC} {ad : Nat → Nat} {g : St} {pc : Nat} {lv : List (Nat × Value)} {st : List Value} {own : String} {cc : ByteArray} {d : Nat} (hK : Cx K own cc d ad) {x y : Int32} {off : Int} {tgt : Nat} (hd : decode cc pc = .ok (.if_icmp .lt off, 3)) (ht : (pc : Int) + off = (tgt : Int)) (kt : x < y → Wp K n1 n2 T ad g tgt lv st) (kf : ¬ x < y → Wp K n1 n2 T ad g (pc + 3) lv st) : Wp K n1 n2 T ad g pc lv (.int y :: .int x :: st) := by
  intro H locs ls hP hD hS hl
  exact lv_icmp_lt hK.1 hK.2.1 hd ht (fun h => kt h H locs ls hP hD hS hl) (fun h => kf h H locs ls hP hD hS hl)
theorem r_if_ge {K : KT} {n1 n2 : Nat} {T : List TC} {ad : Nat → Nat} {g : St} {pc : Nat} {lv : List (Nat × Value)} {st : List Value} {own : String} {cc : ByteArray} {d : Nat} (hK : Cx K own cc d ad) {x : Int32} {off : Int} {tgt : Nat} (hd : decode cc pc = .ok (.ifCond .ge off, 3)) (ht : (pc : Int) + off = (tgt : Int)) (kt : 0 ≤ x → Wp K n1 n2 T ad g tgt lv st) (kf : ¬ 0 ≤ x → Wp K n1 n2 T ad g (pc + 3) lv st) : Wp K n1 n2 T ad g pc lv (.int x :: st) := by
  intro H locs ls hP hD hS hl
  exact lv_if_ge hK.1 hK.2.1 hd ht (fun h => kt h H locs ls hP hD hS hl) (fun h => kf h H locs ls hP hD hS hl)
theorem r_icmp_ge {K : KT} {n1 n2 : Nat} {T : List TC} {ad : Nat → Nat} {g : St} {pc : Nat} {lv : List (Nat × Value)} {st : List Value} {own : String} {cc : ByteArray} {d : Nat} (hK : Cx K own cc d ad) {x y : Int32} {off : Int} {tgt : Nat} (hd : decode cc pc = .ok (.if_icmp .ge off, 3)) (ht : (pc : Int) + off = (tgt : Int)) (kt : y ≤ x → Wp K n1 n2 T ad g tgt lv st) (kf : ¬ y ≤ x → Wp K n1 n2 T ad g (pc + 3) lv st) : Wp K n1 n2 T ad g pc lv (.int y :: .int x :: st) := by
  intro H locs ls hP hD hS hl
  exact lv_icmp_ge hK.1 hK.2.1 hd ht (fun h => kt h H locs ls hP hD hS hl) (fun h => kf h H locs ls hP hD hS hl)
theorem r_if_gt {K : KT} {n1 n2 : Nat} {T : List TC} {ad : Nat → Nat} {g : St} {pc : Nat} {lv : List (Nat × Value)} {st : List Value} {own : String} {cc : ByteArray} {d : Nat} (hK : Cx K own cc d ad) {x : Int32} {off : Int} {tgt : Nat} (hd : decode cc pc = .ok (.ifCond .gt off, 3)) (ht : (pc : Int) + off = (tgt : Int)) (kt : 0 < x → Wp K n1 n2 T ad g tgt lv st) (kf : ¬ 0 < x → Wp K n1 n2 T ad g (pc + 3) lv st) : Wp K n1 n2 T ad g pc lv (.int x :: st) := by
  intro H locs ls hP hD hS hl
  exact lv_if_gt hK.1 hK.2.1 hd ht (fun h => kt h H locs ls hP hD hS hl) (fun h => kf h H locs ls hP hD hS hl)
theorem r_icmp_gt {K : KT} {n1 n2 : Nat} {T : List TC} {ad : Nat → Nat} {g : St} {pc : Nat} {lv : List (Nat × Value)} {st : List Value} {own : String} {cc : ByteArray} {d : Nat} (hK : Cx K own cc d ad) {x y : Int32} {off : Int} {tgt : Nat} (hd : decode cc pc = .ok (.if_icmp .gt off, 3)) (ht : (pc : Int) + off = (tgt : Int)) (kt : y < x → Wp K n1 n2 T ad g tgt lv st) (kf : ¬ y < x → Wp K n1 n2 T ad g (pc + 3) lv st) : Wp K n1 n2 T ad g pc lv (.int y :: .int x :: st) := by
  intro H locs ls hP hD hS hl
  exact lv_icmp_gt hK.1 hK.2.1 hd ht (fun h => kt h H locs ls hP hD hS hl) (fun h => kf h H locs ls hP hD hS hl)
theorem r_if_le {K : KT} {n1 n2 : Nat} {T : List TC} {ad : Nat → Nat} {g : St} {pc : Nat} {lv : List (Nat × Value)} {st : List Value} {own : String} {cc : ByteArray} {d : Nat} (hK : Cx K own cc d ad) {x : Int32} {off : Int} {tgt : Nat} (hd : decode cc pc = .ok (.ifCond .le off, 3)) (ht : (pc : Int) + off = (tgt : Int)) (kt : x ≤ 0 → Wp K n1 n2 T ad g tgt lv st) (kf : ¬ x ≤ 0 → Wp K n1 n2 T ad g (pc + 3) lv st) : Wp K n1 n2 T ad g pc lv (.int x :: st) := by
  intro H locs ls hP hD hS hl
  exact lv_if_le hK.1 hK.2.1 hd ht (fun h => kt h H locs ls hP hD hS hl) (fun h => kf h H locs ls hP hD hS hl)
theorem r_icmp_le {K : KT} {n1 n2 : Nat} {T : List TC} {ad : Nat → Nat} {g : St} {pc : Nat} {lv : List (Nat × Value)} {st : List Value} {own : String} {cc : ByteArray} {d : Nat} (hK : Cx K own cc d ad) {x y : Int32} {off : Int} {tgt : Nat} (hd : decode cc pc = .ok (.if_icmp .le off, 3)) (ht : (pc : Int) + off = (tgt : Int)) (kt : x ≤ y → Wp K n1 n2 T ad g tgt lv st) (kf : ¬ x ≤ y → Wp K n1 n2 T ad g (pc + 3) lv st) : Wp K n1 n2 T ad g pc lv (.int y :: .int x :: st) := by
  intro H locs ls hP hD hS hl
  exact lv_icmp_le hK.1 hK.2.1 hd ht (fun h => kt h H locs ls hP hD hS hl) (fun h => kf h H locs ls hP hD hS hl)
theorem r_goto {K : KT} {n1 n2 : Nat} {T : List TC} {ad : Nat → Nat} {g : St} {pc : Nat} {lv : List (Nat × Value)} {st : List Value} {own : String} {cc : ByteArray} {d : Nat} (hK : Cx K own cc d ad) {off : Int} {tgt : Nat} (hd : decode cc pc = .ok (.goto off, 3)) (ht : (pc : Int) + off = (tgt : Int)) (k : Wp K n1 n2 T ad g tgt lv st) : Wp K n1 n2 T ad g pc lv st := by
  intro H locs ls hP hD hS hl
  exact lv_goto hK.1 hK.2.1 hd ht (k H locs ls hP hD hS hl)
theorem r_ifnull {K : KT} {n1 n2 : Nat} {T : List TC} {ad : Nat → Nat} {g : St} {pc : Nat} {lv : List (Nat × Value)} {st : List Value} {own : String} {cc : ByteArray} {d : Nat} (hK : Cx K own cc d ad) {o : Nat} {off : Int} (hd : decode cc pc = .ok (.ifnull off, 3)) (k : Wp K n1 n2 T ad g (pc + 3) lv st) : Wp K n1 n2 T ad g pc lv (.ref o :: st) := by
  intro H locs ls hP hD hS hl
  exact lv_ifnull hK.1 hK.2.1 hd (k H locs ls hP hD hS hl)
theorem r_ifnullN {K : KT} {n1 n2 : Nat} {T : List TC} {ad : Nat → Nat} {g : St} {pc : Nat} {lv : List (Nat × Value)} {st : List Value} {own : String} {cc : ByteArray} {d : Nat} (hK : Cx K own cc d ad) {off : Int} {tgt : Nat} (hd : decode cc pc = .ok (.ifnull off, 3)) (ht : (pc : Int) + off = (tgt : Int)) (k : Wp K n1 n2 T ad g tgt lv st) : Wp K n1 n2 T ad g pc lv (.null :: st) := by
  intro H locs ls hP hD hS hl
  exact lv_ifnullN hK.1 hK.2.1 hd ht (k H locs ls hP hD hS hl)
theorem r_ifnonnull {K : KT} {n1 n2 : Nat} {T : List TC} {ad : Nat → Nat} {g : St} {pc : Nat} {lv : List (Nat × Value)} {st : List Value} {own : String} {cc : ByteArray} {d : Nat} (hK : Cx K own cc d ad) {o : Nat} {off : Int} {tgt : Nat} (hd : decode cc pc = .ok (.ifnonnull off, 3)) (ht : (pc : Int) + off = (tgt : Int)) (k : Wp K n1 n2 T ad g tgt lv st) : Wp K n1 n2 T ad g pc lv (.ref o :: st) := by
  intro H locs ls hP hD hS hl
  exact lv_ifnonnull hK.1 hK.2.1 hd ht (k H locs ls hP hD hS hl)
theorem r_ifnonnullN {K : KT} {n1 n2 : Nat} {T : List TC} {ad : Nat → Nat} {g : St} {pc : Nat} {lv : List (Nat × Value)} {st : List Value} {own : String} {cc : ByteArray} {d : Nat} (hK : Cx K own cc d ad) {off : Int} (hd : decode cc pc = .ok (.ifnonnull off, 3)) (k : Wp K n1 n2 T ad g (pc + 3) lv st) : Wp K n1 n2 T ad g pc lv (.null :: st) := by
  intro H locs ls hP hD hS hl
  exact lv_ifnonnullN hK.1 hK.2.1 hd (k H locs ls hP hD hS hl)
theorem r_tout {K : KT} {n1 n2 : Nat} {T : List TC} {ad : Nat → Nat} {g : St} {pc : Nat} {lv : List (Nat × Value)} {st : List Value} {own : String} {cc : ByteArray} {d : Nat} (hK : Cx K own cc d ad) {dflt lo hi : Int} {offs : Array Int} {len : Nat} {x : Int32} {tgt : Nat} (hd : decode cc pc = .ok (.tableswitch dflt lo hi offs, len)) (h : x.toInt < lo ∨ hi < x.toInt) (ht : (pc : Int) + dflt = (tgt : Int)) (k : Wp K n1 n2 T ad g tgt lv st) : Wp K n1 n2 T ad g pc lv (.int x :: st) := by
  intro H locs ls hP hD hS hl
  exact lv_tableOut hK.1 hK.2.1 hd h ht (k H locs ls hP hD hS hl)
theorem r_tin {K : KT} {n1 n2 : Nat} {T : List TC} {ad : Nat → Nat} {g : St} {pc : Nat} {lv : List (Nat × Value)} {st : List Value} {own : String} {cc : ByteArray} {d : Nat} (hK : Cx K own cc d ad) {dflt lo hi : Int} {offs : Array Int} {len : Nat} {x : Int32} {off : Int} {tgt : Nat} (hd : decode cc pc = .ok (.tableswitch dflt lo hi offs, len)) (h1 : ¬ x.toInt < lo) (h2 : ¬ hi < x.toInt) (ho : offs[(x.toInt - lo).toNat]? = some off) (ht : (pc : Int) + off = (tgt : Int)) (k : Wp K n1 n2 T ad g tgt lv st) : Wp K n1 n2 T ad g pc lv (.int x :: st) := by
  intro H locs ls hP hD hS hl
  exact lv_tableIn hK.1 hK.2.1 hd h1 h2 ho ht (k H locs ls hP hD hS hl)
theorem r_lsw {K : KT} {n1 n2 : Nat} {T : List TC} {ad : Nat → Nat} {g : St} {pc : Nat} {lv : List (Nat × Value)} {st : List Value} {own : String} {cc : ByteArray} {d : Nat} (hK : Cx K own cc d ad) {dflt : Int} {ps : Array (Int × Int)} {len : Nat} {x : Int32} {off : Int} {tgt : Nat} (hd : decode cc pc = .ok (.lookupswitch dflt ps, len)) (hp : (ps.toList.zip (ps.toList.drop 1)).all (fun (a, next) => a.1 < next.1) = true) (ho : Op.lookupswitch.offset ps.toList dflt x.toInt = off) (ht : (pc : Int) + off = (tgt : Int)) (k : Wp K n1 n2 T ad g tgt lv st) : Wp K n1 n2 T ad g pc lv (.int x :: st) := by
  intro H locs ls hP hD hS hl
  exact lv_lookup hK.1 hK.2.1 hd hp ho ht (k H locs ls hP hD hS hl)
theorem sw_split (n : Nat) (hn : n < 2 ^ 31) (x : Int32) : (∃ i, i < n ∧ x = nI i) ∨ (x.toInt < 0 ∨ ((n : Int) - 1) < x.toInt) := by
  by_cases h : x < 0
  · refine Or.inr (Or.inl ?_)
    rw [Int32.lt_iff_toInt_lt, Int32.toInt_zero] at h
    exact h
  · obtain ⟨j, hj, rfl⟩ := nI_of h
    by_cases hjn : j < n
    · exact Or.inl ⟨j, hjn, rfl⟩
    · refine Or.inr (Or.inr ?_)
      rw [nI_toInt hj]
      omega
theorem r_loc {K : KT} {n1 n2 : Nat} {T : List TC} {ad : Nat → Nat} {g : St} {pc : Nat} {lv lv' : List (Nat × Value)} {st : List Value} (h : lv'.map (fun q => lget lv q.1) = lv'.map (fun q => some q.2)) (k : Wp K n1 n2 T ad g pc lv' st) : Wp K n1 n2 T ad g pc lv st := by
  intro H locs ls hP hD hS hl
  refine k H locs ls hP hD hS ⟨hl.1, hl.2.1, fun q hq => ?_⟩
  obtain ⟨q0, h1, h2⟩ := List.mem_map.mp hq
  obtain ⟨i, hi⟩ := List.getElem?_of_mem h1
  have h3 : (lv'.map (fun q => lget lv q.1))[i]? = (lv'.map (fun q => some q.2))[i]? := by rw [h]
  rw [List.getElem?_map, List.getElem?_map, hi] at h3
  have h4 : lget lv q0.1 = some q0.2 := Option.some.inj h3
  rw [← h2]
  exact lget_at hl h4
theorem r_wide {K : KT} {n1 n2 m1 m2 : Nat} {T : List TC} {ad : Nat → Nat} {g : St} {pc : Nat} {lv : List (Nat × Value)} {st : List Value} (h1 : n1 ≤ m1) (h2 : n2 ≤ m2) (k : Wp K m1 m2 T ad g pc lv st) : Wp K n1 n2 T ad g pc lv st := by
  intro H locs ls hP hD hS hl
  exact W.widen h1 h2 (k H locs ls hP hD hS hl)
def c_va (g : St) (o k : Nat) (f : Nat × Nat) : Value := match f.1 with
  | 0 => .int (g.1 o k)
  | 1 => .long (g.2 o k)
  | 2 => .ref f.2
  | 3 => if g.1 o k = 0 then .null else .ref f.2
  | _ => .null
theorem c_va_fv {ad : Nat → Nat} {g : St} {o k : Nat} (f : Nat × Nat) : vv ad (c_va g o k f) = c_fv ad g o k f := by
  obtain ⟨a, b⟩ := f
  unfold c_va c_fv
  match a with
  | 0 => rfl
  | 1 => rfl
  | 2 => rfl
  | 3 =>
    show vv ad (if g.1 o k = 0 then .null else .ref b) = if g.1 o k = 0 then .null else .ref (ad b)
    split <;> rfl
  | n + 4 => rfl
theorem c_fs_get {ad : Nat → Nat} {g : St} {o k : Nat} {fs : List (Nat × Nat)} {f : Nat × Nat} (h : fs[k]? = some f) : (fs.mapIdx (fun k f => c_fv ad g o k f))[k]? = some (vv ad (c_va g o k f)) := by
  rw [List.getElem?_mapIdx, h, c_va_fv]; rfl
theorem c_fs_set {ad : Nat → Nat} {g g' : St} {o k : Nat} {fs : List (Nat × Nat)} {f : Nat × Nat} {v : Value} (h : fs[k]? = some f) (h1 : c_fv ad g' o k f = v) (h2 : ∀ j, j ≠ k → g'.1 o j = g.1 o j ∧ g'.2 o j = g.2 o j) : fs.mapIdx (fun k f => c_fv ad g' o k f) = (fs.mapIdx (fun k f => c_fv ad g o k f)).set k v := by
  apply List.ext_getElem?
  intro j
  have hl : k < (fs.mapIdx (fun k f => c_fv ad g o k f)).length := by rw [List.length_mapIdx]; exact (List.getElem?_eq_some_iff.mp h).1
  by_cases hj : j = k
  · subst hj
    rw [List.getElem?_set_self hl, List.getElem?_mapIdx, h, Option.map_some, h1]
  · rw [List.getElem?_set_ne (Ne.symm hj), List.getElem?_mapIdx, List.getElem?_mapIdx]
    cases fs[j]? with
    | none => rfl
    | some f' => simp only [Option.map_some, c_fv, (h2 j hj).1, (h2 j hj).2]

theorem r_get {K : KT} {n1 n2 : Nat} {T : List TC} {ad : Nat → Nat} {g : St} {pc : Nat} {lv : List (Nat × Value)} {st : List Value} {own : String} {cc : ByteArray} {d : Nat} (hK : Cx K own cc d ad) {idx o ci k : Nat} {fs : List (Nat × Nat)} {f : Nat × Nat} (hF : Fl own idx ci k) (ho : T[o]? = some (.inl (ci, fs))) (hf : fs[k]? = some f) (hd : decode cc pc = .ok (.getfield idx, 3)) (kk : Wp K n1 n2 T ad g (pc + 3) lv (c_va g o k f :: st)) : Wp K n1 n2 T ad g pc lv (.ref o :: st) := by
  intro H locs ls hP hD hS hl
  obtain ⟨C, Tt, N, ty, f1, f2, f3, f4, f5, f6, f7⟩ := hF
  obtain ⟨hx, hb, hown, hts, hN, hKK, hA, hE, hdep⟩ := hK
  have hget := Wd_get (cy := K.2.2.2.1.2.1) (ad := ad) (g := g) ho
  have hsame : ∀ x, K.2.1.1.fieldFound? (Tt k).1 (Tt k).2.1 (Tt k).2.2.1 = some x → K.2.1.1.fieldFound? C (Tt k).2.1 (Tt k).2.2.1 = some x := fun x hx => by rw [f7] at hx; exact hx
  rcases f6 with f6 | ⟨host, f6⟩
  · exact va_get hx hb hts f3 hown hKK hP o hget f1 k f2 (hts _ f6) hsame (c_fs_get hf) hd (kk H locs ls hP hD hS hl)
  · exact va_getN hx hb hts f3 hown hKK hP o hget f1 k f2 (va_Nw.use rfl (hN _ f6)) hsame (c_fs_get hf) hd (kk H locs ls hP hD hS hl)
theorem r_getI {K : KT} {n1 n2 : Nat} {T : List TC} {ad : Nat → Nat} {g : St} {pc : Nat} {lv : List (Nat × Value)} {st : List Value} {own : String} {cc : ByteArray} {d : Nat} (hK : Cx K own cc d ad) {idx o ci k x : Nat} {fs : List (Nat × Nat)} (hF : Fl own idx ci k) (ho : T[o]? = some (.inl (ci, fs))) (hf : fs[k]? = some (0, x)) (hd : decode cc pc = .ok (.getfield idx, 3)) (kk : Wp K n1 n2 T ad g (pc + 3) lv (.int (g.1 o k) :: st)) : Wp K n1 n2 T ad g pc lv (.ref o :: st) := r_get hK hF ho hf hd kk
theorem r_getL {K : KT} {n1 n2 : Nat} {T : List TC} {ad : Nat → Nat} {g : St} {pc : Nat} {lv : List (Nat × Value)} {st : List Value} {own : String} {cc : ByteArray} {d : Nat} (hK : Cx K own cc d ad) {idx o ci k x : Nat} {fs : List (Nat × Nat)} (hF : Fl own idx ci k) (ho : T[o]? = some (.inl (ci, fs))) (hf : fs[k]? = some (1, x)) (hd : decode cc pc = .ok (.getfield idx, 3)) (kk : Wp K n1 n2 T ad g (pc + 3) lv (.long (g.2 o k) :: st)) : Wp K n1 n2 T ad g pc lv (.ref o :: st) := r_get hK hF ho hf hd kk
theorem r_getA {K : KT} {n1 n2 : Nat} {T : List TC} {ad : Nat → Nat} {g : St} {pc : Nat} {lv : List (Nat × Value)} {st : List Value} {own : String} {cc : ByteArray} {d : Nat} (hK : Cx K own cc d ad) {idx o ci k x : Nat} {fs : List (Nat × Nat)} (hF : Fl own idx ci k) (ho : T[o]? = some (.inl (ci, fs))) (hf : fs[k]? = some (2, x)) (hd : decode cc pc = .ok (.getfield idx, 3)) (kk : Wp K n1 n2 T ad g (pc + 3) lv (.ref x :: st)) : Wp K n1 n2 T ad g pc lv (.ref o :: st) := r_get hK hF ho hf hd kk
theorem r_getO0 {K : KT} {n1 n2 : Nat} {T : List TC} {ad : Nat → Nat} {g : St} {pc : Nat} {lv : List (Nat × Value)} {st : List Value} {own : String} {cc : ByteArray} {d : Nat} (hK : Cx K own cc d ad) {idx o ci k x : Nat} {fs : List (Nat × Nat)} (h0 : g.1 o k = 0) (hF : Fl own idx ci k) (ho : T[o]? = some (.inl (ci, fs))) (hf : fs[k]? = some (3, x)) (hd : decode cc pc = .ok (.getfield idx, 3)) (kk : Wp K n1 n2 T ad g (pc + 3) lv (.null :: st)) : Wp K n1 n2 T ad g pc lv (.ref o :: st) := r_get hK hF ho hf hd (by simpa [c_va, h0] using kk)
theorem r_getO1 {K : KT} {n1 n2 : Nat} {T : List TC} {ad : Nat → Nat} {g : St} {pc : Nat} {lv : List (Nat × Value)} {st : List Value} {own : String} {cc : ByteArray} {d : Nat} (hK : Cx K own cc d ad) {idx o ci k x : Nat} {fs : List (Nat × Nat)} (h0 : ¬ g.1 o k = 0) (hF : Fl own idx ci k) (ho : T[o]? = some (.inl (ci, fs))) (hf : fs[k]? = some (3, x)) (hd : decode cc pc = .ok (.getfield idx, 3)) (kk : Wp K n1 n2 T ad g (pc + 3) lv (.ref x :: st)) : Wp K n1 n2 T ad g pc lv (.ref o :: st) := r_get hK hF ho hf hd (by simpa [c_va, h0] using kk)
theorem r_putI {K : KT} {n1 n2 : Nat} {T : List TC} {ad : Nat → Nat} {g : St} {pc : Nat} {lv : List (Nat × Value)} {st : List Value} {own : String} {cc : ByteArray} {d : Nat} (hK : Cx K own cc d ad) {idx o ci k x : Nat} {v : Int32} {fs : List (Nat × Nat)} (hF : Fl own idx ci k) (hT : Ft ci k .int false) (ho : T[o]? = some (.inl (ci, fs))) (hf : fs[k]? = some (0, x))  (hd : decode cc pc = .ok (.putfield idx, 3)) (kk : Wp K n1 n2 T ad (upI g o k v) (pc + 3) lv st) : Wp K n1 n2 T ad g pc lv (.int v :: .ref o :: st) := by
  intro H locs ls hP hD hS hl
  obtain ⟨C, Tt, N, tyy, f1, f2, f3, f4, f5, f6, f7⟩ := hF
  obtain ⟨hx, hb, hown, hts, hN, hKK, hA, hE, hdep⟩ := hK
  obtain ⟨t1, t2⟩ := hT C Tt N f1
  have hget := Wd_get (cy := K.2.2.2.1.2.1) (ad := ad) (g := g) ho
  have hsame : ∀ x, K.2.1.1.fieldFound? (Tt k).1 (Tt k).2.1 (Tt k).2.2.1 = some x → K.2.1.1.fieldFound? C (Tt k).2.1 (Tt k).2.2.1 = some x := fun x hx => by rw [f7] at hx; exact hx
  have hlen : k < (fs.mapIdx (fun k f => c_fv ad g o k f)).length := by rw [List.length_mapIdx]; exact (List.getElem?_eq_some_iff.mp hf).1
  have hnar : narrow .int (vv ad (.int v)) = vv ad (.int v) := rfl
  have hfit : fits .int (vv ad (.int v)) = true := rfl
  have hset : (Wd K.2.2.2.1.2.1 ad g T).set o (ad o, .inr (ci, (fs.mapIdx (fun k f => c_fv ad g o k f)).set k (vv ad (.int v)))) = Wd K.2.2.2.1.2.1 ad (upI g o k v) T := by
    refine Wd_set ho ?_ (fun j hj => ⟨upI_n hj, rfl⟩)
    simp only [c_ce]
    rw [c_fs_set (g := g) hf (v := vv ad (.int v)) (by simp [c_fv, upI, upd, vv]) (fun j hj => by simp [upI, upd, hj])]
  rcases f6 with f6 | ⟨host, f6⟩
  · exact va_put hx hb hts f3 tyy f4 f5 hown hKK hP hD hS o hget f1 k f2 (hts _ f6) hsame t2 t1 hnar hfit hlen hd (fun H1 locs1 h1 h2 h3 => kk H1 locs1 ls (hset ▸ h1) (hset ▸ h2) h3 hl)
  · exact va_putN hx hb hts f3 tyy f4 f5 hown hKK hP hD hS o hget f1 k f2 (va_Nw.use rfl (hN _ f6)) hsame t2 t1 hnar hfit hlen hd (fun H1 locs1 h1 h2 h3 => kk H1 locs1 ls (hset ▸ h1) (hset ▸ h2) h3 hl)
theorem r_putL {K : KT} {n1 n2 : Nat} {T : List TC} {ad : Nat → Nat} {g : St} {pc : Nat} {lv : List (Nat × Value)} {st : List Value} {own : String} {cc : ByteArray} {d : Nat} (hK : Cx K own cc d ad) {idx o ci k x : Nat} {v : Int64} {fs : List (Nat × Nat)} (hF : Fl own idx ci k) (hT : Ft ci k .long false) (ho : T[o]? = some (.inl (ci, fs))) (hf : fs[k]? = some (1, x))  (hd : decode cc pc = .ok (.putfield idx, 3)) (kk : Wp K n1 n2 T ad (upL g o k v) (pc + 3) lv st) : Wp K n1 n2 T ad g pc lv (.long v :: .ref o :: st) := by
  intro H locs ls hP hD hS hl
  obtain ⟨C, Tt, N, tyy, f1, f2, f3, f4, f5, f6, f7⟩ := hF
  obtain ⟨hx, hb, hown, hts, hN, hKK, hA, hE, hdep⟩ := hK
  obtain ⟨t1, t2⟩ := hT C Tt N f1
  have hget := Wd_get (cy := K.2.2.2.1.2.1) (ad := ad) (g := g) ho
  have hsame : ∀ x, K.2.1.1.fieldFound? (Tt k).1 (Tt k).2.1 (Tt k).2.2.1 = some x → K.2.1.1.fieldFound? C (Tt k).2.1 (Tt k).2.2.1 = some x := fun x hx => by rw [f7] at hx; exact hx
  have hlen : k < (fs.mapIdx (fun k f => c_fv ad g o k f)).length := by rw [List.length_mapIdx]; exact (List.getElem?_eq_some_iff.mp hf).1
  have hnar : narrow .long (vv ad (.long v)) = vv ad (.long v) := rfl
  have hfit : fits .long (vv ad (.long v)) = true := rfl
  have hset : (Wd K.2.2.2.1.2.1 ad g T).set o (ad o, .inr (ci, (fs.mapIdx (fun k f => c_fv ad g o k f)).set k (vv ad (.long v)))) = Wd K.2.2.2.1.2.1 ad (upL g o k v) T := by
    refine Wd_set ho ?_ (fun j hj => ⟨rfl, upL_n hj⟩)
    simp only [c_ce]
    rw [c_fs_set (g := g) hf (v := vv ad (.long v)) (by simp [c_fv, upL, vp_updL, vv]) (fun j hj => by simp [upL, vp_updL, hj])]
  rcases f6 with f6 | ⟨host, f6⟩
  · exact va_put hx hb hts f3 tyy f4 f5 hown hKK hP hD hS o hget f1 k f2 (hts _ f6) hsame t2 t1 hnar hfit hlen hd (fun H1 locs1 h1 h2 h3 => kk H1 locs1 ls (hset ▸ h1) (hset ▸ h2) h3 hl)
  · exact va_putN hx hb hts f3 tyy f4 f5 hown hKK hP hD hS o hget f1 k f2 (va_Nw.use rfl (hN _ f6)) hsame t2 t1 hnar hfit hlen hd (fun H1 locs1 h1 h2 h3 => kk H1 locs1 ls (hset ▸ h1) (hset ▸ h2) h3 hl)
theorem r_putZ {K : KT} {n1 n2 : Nat} {T : List TC} {ad : Nat → Nat} {g : St} {pc : Nat} {lv : List (Nat × Value)} {st : List Value} {own : String} {cc : ByteArray} {d : Nat} (hK : Cx K own cc d ad) {idx o ci k x : Nat} {v : Int32} {fs : List (Nat × Nat)} (hF : Fl own idx ci k) (hT : Ft ci k .boolean false) (ho : T[o]? = some (.inl (ci, fs))) (hf : fs[k]? = some (0, x)) (hv : v = 0 ∨ v = 1) (hd : decode cc pc = .ok (.putfield idx, 3)) (kk : Wp K n1 n2 T ad (upI g o k v) (pc + 3) lv st) : Wp K n1 n2 T ad g pc lv (.int v :: .ref o :: st) := by
  intro H locs ls hP hD hS hl
  obtain ⟨C, Tt, N, tyy, f1, f2, f3, f4, f5, f6, f7⟩ := hF
  obtain ⟨hx, hb, hown, hts, hN, hKK, hA, hE, hdep⟩ := hK
  obtain ⟨t1, t2⟩ := hT C Tt N f1
  have hget := Wd_get (cy := K.2.2.2.1.2.1) (ad := ad) (g := g) ho
  have hsame : ∀ x, K.2.1.1.fieldFound? (Tt k).1 (Tt k).2.1 (Tt k).2.2.1 = some x → K.2.1.1.fieldFound? C (Tt k).2.1 (Tt k).2.2.1 = some x := fun x hx => by rw [f7] at hx; exact hx
  have hlen : k < (fs.mapIdx (fun k f => c_fv ad g o k f)).length := by rw [List.length_mapIdx]; exact (List.getElem?_eq_some_iff.mp hf).1
  have hnar : narrow .boolean (vv ad (.int v)) = vv ad (.int v) := (by rcases hv with rfl | rfl <;> rfl)
  have hfit : fits .boolean (vv ad (.int v)) = true := (by rcases hv with rfl | rfl <;> rfl)
  have hset : (Wd K.2.2.2.1.2.1 ad g T).set o (ad o, .inr (ci, (fs.mapIdx (fun k f => c_fv ad g o k f)).set k (vv ad (.int v)))) = Wd K.2.2.2.1.2.1 ad (upI g o k v) T := by
    refine Wd_set ho ?_ (fun j hj => ⟨upI_n hj, rfl⟩)
    simp only [c_ce]
    rw [c_fs_set (g := g) hf (v := vv ad (.int v)) (by simp [c_fv, upI, upd, vv]) (fun j hj => by simp [upI, upd, hj])]
  rcases f6 with f6 | ⟨host, f6⟩
  · exact va_put hx hb hts f3 tyy f4 f5 hown hKK hP hD hS o hget f1 k f2 (hts _ f6) hsame t2 t1 hnar hfit hlen hd (fun H1 locs1 h1 h2 h3 => kk H1 locs1 ls (hset ▸ h1) (hset ▸ h2) h3 hl)
  · exact va_putN hx hb hts f3 tyy f4 f5 hown hKK hP hD hS o hget f1 k f2 (va_Nw.use rfl (hN _ f6)) hsame t2 t1 hnar hfit hlen hd (fun H1 locs1 h1 h2 h3 => kk H1 locs1 ls (hset ▸ h1) (hset ▸ h2) h3 hl)
