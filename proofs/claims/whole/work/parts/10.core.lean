/-! CORE: a world of fixed shape (a list of templates) over a memory of numbers; walks by rows over it -/
/-- a template: an object (class, its fields: 0 an int, 1 a long, 2 a fixed reference, 3 null or a fixed reference, else null), or an array (kind: 0 ints, 1 longs, 2 booleans, 3, 4 of references; length; the references) -/
abbrev TC : Type := (Nat × List (Nat × Nat)) ⊕ (Nat × Nat × List Nat)
/-- the memory: ints and longs, by place and index -/
abbrev St : Type := (Nat → Nat → Int32) × (Nat → Nat → Int64)
def c_fv (ad : Nat → Nat) (g : St) (o k : Nat) (f : Nat × Nat) : Value := match f.1 with
  | 0 => .int (g.1 o k)
  | 1 => .long (g.2 o k)
  | 2 => .ref (ad f.2)
  | 3 => if g.1 o k = 0 then .null else .ref (ad f.2)
  | _ => .null
def c_ar (kd : Nat) (ad : Nat → Nat) (g : St) (o : Nat) (rs : List Nat) : (Nat → Int32) ⊕ (Nat → Int64) ⊕ (Nat → UInt32) ⊕ (Nat → UInt64) ⊕ (Nat → Option Nat) := match kd with
  | 0 => .inl (g.1 o)
  | 1 => .inr (.inl (g.2 o))
  | 2 => .inl (g.1 o)
  | _ => .inr (.inr (.inr (.inr (fun j => (rs[j]?).map ad))))
def c_ce (cy : Nat → ClassId) (ad : Nat → Nat) (g : St) (o : Nat) : TC → va_E
  | .inl q => .inr (q.1, q.2.mapIdx (fun k f => c_fv ad g o k f))
  | .inr q => .inl (cy q.1, q.2.1, c_ar q.1 ad g o q.2.2)
def Wd (cy : Nat → ClassId) (ad : Nat → Nat) (g : St) (T : List TC) : va_W := T.mapIdx (fun o c => (ad o, c_ce cy ad g o c))
theorem Wd_get {cy : Nat → ClassId} {ad : Nat → Nat} {g : St} {T : List TC} {o : Nat} {c : TC} (h : T[o]? = some c) : (Wd cy ad g T)[o]? = some (ad o, c_ce cy ad g o c) := by
  simp [Wd, List.getElem?_mapIdx, h]
theorem Wd_inv {cy : Nat → ClassId} {ad : Nat → Nat} {g : St} {T : List TC} {k : Nat} {q : Nat × va_E} (h : (Wd cy ad g T)[k]? = some q) : ∃ c, T[k]? = some c ∧ q = (ad k, c_ce cy ad g k c) := by
  simp only [Wd, List.getElem?_mapIdx, Option.map_eq_some_iff] at h
  obtain ⟨c, h1, h2⟩ := h
  exact ⟨c, h1, h2.symm⟩
theorem Wd_len {cy : Nat → ClassId} {ad : Nat → Nat} {g : St} {T : List TC} : (Wd cy ad g T).length = T.length := by simp [Wd]
theorem c_ce_same {cy : Nat → ClassId} {ad : Nat → Nat} {g g' : St} {o : Nat} (c : TC) (h1 : g'.1 o = g.1 o) (h2 : g'.2 o = g.2 o) : c_ce cy ad g' o c = c_ce cy ad g o c := by
  cases c with
  | inl q => simp only [c_ce, c_fv, h1, h2]
  | inr q => simp only [c_ce, c_ar, h1, h2]
theorem Wd_set {cy : Nat → ClassId} {ad : Nat → Nat} {g g' : St} {T : List TC} {o : Nat} {c : TC} (h : T[o]? = some c) {e : va_E} (h1 : c_ce cy ad g' o c = e) (h2 : ∀ j, j ≠ o → g'.1 j = g.1 j ∧ g'.2 j = g.2 j) : (Wd cy ad g T).set o (ad o, e) = Wd cy ad g' T := by
  apply List.ext_getElem?
  intro j
  by_cases hj : j = o
  · subst hj
    have hl : j < (Wd cy ad g T).length := by rw [Wd_len]; exact (List.getElem?_eq_some_iff.mp h).1
    rw [List.getElem?_set_self hl, Wd_get h, h1]
  · rw [List.getElem?_set_ne (Ne.symm hj)]
    simp only [Wd, List.getElem?_mapIdx]
    cases hc : T[j]? with
    | none => rfl
    | some c' =>
      simp only [Option.map_some]
      rw [c_ce_same c' (h2 j hj).1 (h2 j hj).2]
def upI (g : St) (o k : Nat) (x : Int32) : St := (fun a => if a = o then upd (g.1 o) k x else g.1 a, g.2)
def upL (g : St) (o k : Nat) (x : Int64) : St := (g.1, fun a => if a = o then vp_updL (g.2 o) k x else g.2 a)
def upR (g : St) (o : Nat) (f : Nat → Int32) : St := (fun a => if a = o then f else g.1 a, g.2)
theorem upI_s {g : St} {o k : Nat} {x : Int32} : (upI g o k x).1 o = upd (g.1 o) k x := by simp [upI]
theorem upI_n {g : St} {o k j : Nat} {x : Int32} (h : j ≠ o) : (upI g o k x).1 j = g.1 j := by simp [upI, h]
theorem upL_s {g : St} {o k : Nat} {x : Int64} : (upL g o k x).2 o = vp_updL (g.2 o) k x := by simp [upL]
theorem upL_n {g : St} {o k j : Nat} {x : Int64} (h : j ≠ o) : (upL g o k x).2 j = g.2 j := by simp [upL, h]
theorem upR_s {g : St} {o : Nat} {f : Nat → Int32} : (upR g o f).1 o = f := by simp [upR]
theorem upR_n {g : St} {o j : Nat} {f : Nat → Int32} (h : j ≠ o) : (upR g o f).1 j = g.1 j := by simp [upR, h]
/-- a value: its reference is a place, that stands at an address -/
def vv (ad : Nat → Nat) : Value → Value
  | .ref o => .ref (ad o)
  | v => v
theorem vv_cat {ad : Nat → Nat} (v : Value) : (vv ad v).category = v.category := by cases v <;> rfl
abbrev vl (ad : Nat → Nat) (lv : List (Nat × Value)) : List (Nat × Value) := lv.map (fun q => (q.1, vv ad q.2))
theorem vv_args (ad : Nat → Nat) : ∀ (vs : List Value) (n : Nat), lv_args n (vs.map (vv ad)) = vl ad (lv_args n vs)
  | [], _ => rfl
  | v :: vs, n => by
    simp only [List.map_cons, lv_args, vv_cat, vl]
    rw [vv_args ad vs]
/-- the words that every method may use -/
def gT : List Cond := lw_tbl.filter goodWord
theorem gT_of {w : Cond} (i : Nat) (h : tables_1[i]? = some w) (hg : goodWord w = true) : w ∈ gT := List.mem_filter.mpr ⟨List.mem_append_right _ (List.mem_of_getElem? h), hg⟩
theorem gT_sel {y : MethodName} {n : Nat} (h : (y, n) ∈ lw_privs) (hg : goodWord (Cond.selects y.cls y y) = true) : Cond.selects y.cls y y ∈ gT := List.mem_filter.mpr ⟨List.mem_append_left _ (List.mem_map.mpr ⟨(y, n), h, rfl⟩), hg⟩
theorem gT_good {big : List Cond} (h : ∀ w ∈ gT, w ∈ big) : GoodIn big gT := fun w hw => ⟨h w hw, good_of_word (List.mem_filter.mp hw).2⟩
/-- the words of nest mates -/
def isNest : Cond → Bool
  | .fieldLinkNest _ _ _ _ _ _ => true
  | .methodLinkNest _ _ _ _ => true
  | _ => false
def nT : List Cond := tables_1.filter isNest
theorem nT_of {w : Cond} (i : Nat) (h : tables_1[i]? = some w) (hg : isNest w = true) : w ∈ nT := List.mem_filter.mpr ⟨List.mem_of_getElem? h, hg⟩
theorem nT_warm {s U : State} (hW : s.WarmedH U.vm) (h : ∀ w ∈ nT, va_Nw w s) : ∀ w ∈ nT, va_Nw w U := by
  intro w hw
  have h1 := h w hw
  have h2 := (List.mem_filter.mp hw).2
  cases w <;> first | (simp [isNest] at h2; done) | exact va_Nw.warmF hW h1 | exact va_Nw.warmM hW h1
theorem nT_same {s U : State} (hv : s.vm = U.vm) (h : ∀ w ∈ nT, va_Nw w s) : ∀ w ∈ nT, va_Nw w U := by
  intro w hw
  have h1 := h w hw
  have h2 := (List.mem_filter.mp hw).2
  cases w <;> first | (simp [isNest] at h2; done) | exact va_Nw.same rfl hv h1
abbrev tyL (cy : Nat → ClassId) : List (ClassId × FieldType) := [(cy 0, .int), (cy 1, .long), (cy 2, .boolean), (cy 3, .object RX1), (cy 4, .object RX2)]
/-- the texts: their lengths, their bytes; the entries that load them -/
def sxLen : List Nat := [6, 3, 6, 6, 5, 6, 5, 5]
def sxB : List (List Int32) := [[112, 108, 97, 99, 101, 115], [119, 97, 121], [112, 101, 114, 115, 111, 110], [115, 105, 108, 101, 110, 116], [102, 105, 114, 115, 116], [101, 114, 114, 97, 110, 100], [119, 104, 111, 108, 101], [107, 110, 111, 119, 115]]
def sxT : List String := ["places", "way", "person", "silent", "first", "errand", "whole", "knows"]
def sxI : List Nat := [41, 52, 57, 125, 127, 129, 131, 120]
abbrev vwCl : List vw_C := [(RX0, TX0, 1), (RX1, TX1, 12), (RX2, TX2, 5), (RX3, TX3, 8), (RX4, TX4, 11), (RX5, TX5, 12), (RX6, TX6, 4), (RX7, TX7, 9), (RX8, TX8, 2), (RX9, TX9, 10), (RX10, TX10, 57)]
abbrev MT : Type := MethodName × ByteArray × Nat × Option FieldType
/-- a field as a class's methods name it -/
def Fl (own : String) (idx ci k : Nat) : Prop := ∃ (C : String) (Tt : u_T) (N : Nat) (ty : Nat → FieldType), vwCl[ci]? = some (C, Tt, N) ∧ k < N ∧ (∀ w ∈ u_ws C Tt N, w ∈ gT) ∧ (∀ k, k < N → parseFieldDescriptor (Tt k).2.2.1 = some (ty k)) ∧ (∀ a, a < N → ∀ b, b < N → a ≠ b → (Tt a).2.1 ≠ (Tt b).2.1) ∧ (Cond.fieldLink own idx C (Tt k).2.1 (Tt k).2.2.1 ∈ gT ∨ ∃ host, Cond.fieldLinkNest own idx C (Tt k).2.1 (Tt k).2.2.1 host ∈ nT) ∧ (Tt k).1 = C
/-- its type, and whether it is final -/
def Ft (ci k : Nat) (ty : FieldType) (fin : Bool) : Prop := ∀ (C : String) (Tt : u_T) (N : Nat), vwCl[ci]? = some (C, Tt, N) → parseFieldDescriptor (Tt k).2.2.1 = some ty ∧ (Tt k).2.2.2 = fin
def MtI (mt : MT) (n : Nat) : Prop := Cond.code mt.1 mt.2.1 mt.2.2.1 mt.2.2.2 ∈ gT ∧ Cond.initialized mt.1.cls ∈ gT ∧ (mt.1.cls ≠ "java/lang/invoke/MethodHandle" ∧ mt.1.cls ≠ "java/lang/invoke/VarHandle") ∧ (parseMethodDescriptor mt.1.desc).map (fun d => d.parameters.length) = some n ∧ mt.2.2.1 ≤ 45
def MtV (mt : MT) (n : Nat) : Prop := MtI mt n ∧ Cond.instanceMethod mt.1 ∈ gT ∧ Cond.selects mt.1.cls mt.1 mt.1 ∈ gT
def MtS (mt : MT) (n : Nat) : Prop := MtI mt n ∧ Cond.static mt.1 ∈ gT
def MtN (mt : MT) (n : Nat) : Prop := MtI mt n ∧ Cond.instanceMethod mt.1 ∈ gT ∧ mt.1.name = "<init>" ∧ mt.2.2.2 = none
/-- a method as a class's methods name it -/
def Ml (own : String) (idx : Nat) (y : MethodName) : Prop := Cond.methodLink own idx y ∈ gT ∨ ∃ host, Cond.methodLinkNest own idx y host ∈ nT
