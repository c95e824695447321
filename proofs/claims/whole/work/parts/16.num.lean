/-! NUMBERS -/
theorem lit_nI (n : Nat) : (OfNat.ofNat n : Int32) = nI n := rfl
theorem min_nI {a b : Nat} (ha : a < 2 ^ 31) (hb : b < 2 ^ 31) : (if nI b < nI a then nI b else nI a) = nI (min a b) := by
  by_cases h : b < a
  · rw [if_pos (nI_lt h ha), Nat.min_eq_right (by omega)]
  · rw [if_neg (nI_nlt (by omega) hb), Nat.min_eq_left (by omega)]
theorem max_nI {a b : Nat} (ha : a < 2 ^ 31) (hb : b < 2 ^ 31) : (if nI a < nI b then nI b else nI a) = nI (max a b) := by
  by_cases h : a < b
  · rw [if_pos (nI_lt h hb), Nat.max_eq_right (by omega)]
  · rw [if_neg (nI_nlt (by omega) ha), Nat.max_eq_left (by omega)]
theorem sh_l : ∀ n, n < 32 → ((nI n &&& 31).toBitVec.smod 32).toNat = n := by decide +kernel
theorem tb_nI {k w : Nat} (hk : k < 2 ^ 31) (hw : w < 31) : (nI k >>> (nI w &&& 31)) &&& 1 = nI (k / 2 ^ w % 2) := by
  rw [pk_shrN hk _ w (sh_l w (by omega))]
  have h := pk_andN (n := k / 2 ^ w) (m := 1) (Nat.lt_of_le_of_lt (Nat.div_le_self _ _) (by omega)) 1 (by decide)
  rw [h]
theorem tb_iff {k w : Nat} (hk : k < 2 ^ 31) (hw : w < 31) : (nI k >>> (nI w &&& 31)) &&& 1 = 1 ↔ k.testBit w = true := by
  rw [tb_nI hk hw, show (1 : Int32) = nI 1 from rfl, nI_eq (by omega) (by decide), Nat.testBit_eq_decide_div_mod_eq, decide_eq_true_eq]
theorem tb_if {k w : Nat} (hk : k < 2 ^ 31) (hw : w < 31) : (nI k >>> (nI w &&& 31)) &&& 1 = if k.testBit w = true then 1 else 0 := by
  rw [tb_nI hk hw]
  have h : k / 2 ^ w % 2 = 0 ∨ k / 2 ^ w % 2 = 1 := by omega
  have h2 := Nat.testBit_eq_decide_div_mod_eq (x := k) (i := w)
  rcases h with h | h <;> rw [h] at h2 ⊢ <;> simp [h2] <;> rfl
theorem nI_inj {a b : Nat} (ha : a < 2 ^ 31) (hb : b < 2 ^ 31) (h : nI a = nI b) : a = b := (nI_eq ha hb).mp h
theorem nI_m1 {a : Nat} (ha : a < 2 ^ 31) : nI a ≠ -1 := by
  intro h
  have := congrArg Int32.toInt h
  rw [nI_toInt ha] at this
  have h2 : (-1 : Int32).toInt = -1 := by decide
  omega
theorem r_top {K : KT} {n1 n2 : Nat} {T : List TC} {ad : Nat → Nat} {g : St} {pc : Nat} {lv : List (Nat × Value)} {st : List Value} {x y : Int32} (h : x = y) (k : Wp K n1 n2 T ad g pc lv (.int y :: st)) : Wp K n1 n2 T ad g pc lv (.int x :: st) := by rw [h]; exact k
theorem r_topL {K : KT} {n1 n2 : Nat} {T : List TC} {ad : Nat → Nat} {g : St} {pc : Nat} {lv : List (Nat × Value)} {st : List Value} {x y : Int64} (h : x = y) (k : Wp K n1 n2 T ad g pc lv (.long y :: st)) : Wp K n1 n2 T ad g pc lv (.long x :: st) := by rw [h]; exact k
theorem r_g {K : KT} {n1 n2 : Nat} {T : List TC} {ad : Nat → Nat} {g g' : St} {pc : Nat} {lv : List (Nat × Value)} {st : List Value} (h : g = g') (k : Wp K n1 n2 T ad g' pc lv st) : Wp K n1 n2 T ad g pc lv st := by rw [h]; exact k
theorem Ci.eq {d : Nat} {mt : MT} {as : List Value} {ad : Nat → Nat} {g s s' : St} {e e' : Int32} (h : Ci d mt as ad g (fun v g' => v = e ∧ g' = s)) (he : e = e') (hs : s = s') : Ci d mt as ad g (fun v g' => v = e' ∧ g' = s') := by rw [← he, ← hs]; exact h
theorem Cv.eq {d : Nat} {mt : MT} {as : List Value} {ad : Nat → Nat} {g s s' : St} (h : Cv d mt as ad g (fun g' => g' = s)) (hs : s = s') : Cv d mt as ad g (fun g' => g' = s') := by rw [← hs]; exact h
theorem upR_upI {g : St} {r k : Nat} {f : Nat → Int32} {x : Int32} : upI (upR g r f) r k x = upR g r (upd f k x) := by
  unfold upI upR
  congr 1
  funext a
  by_cases h : a = r
  · subst h; simp
  · simp [h]
theorem upR_upR {g : St} {r : Nat} {f f' : Nat → Int32} : upR (upR g r f) r f' = upR g r f' := by
  unfold upR
  congr 1
  funext a
  by_cases h : a = r
  · subst h; simp
  · simp [h]
theorem upR_id {g : St} {r : Nat} : upR g r (g.1 r) = g := by
  unfold upR
  obtain ⟨a, b⟩ := g
  congr 1
  funext j
  by_cases h : j = r
  · subst h; simp
  · simp [h]
theorem upI_upR {g : St} {r k : Nat} {x : Int32} : upI g r k x = upR g r (upd (g.1 r) k x) := by
  unfold upI upR
  congr 1
theorem upd_s {f : Nat → Int32} {k : Nat} {x : Int32} : upd f k x k = x := by simp [upd]
theorem upd_n {f : Nat → Int32} {k j : Nat} {x : Int32} (h : j ≠ k) : upd f k x j = f j := by simp [upd, h]
theorem c_atE {ad : Nat → Nat} {g : St} {r n k : Nat} {rs : List Nat} {i y : Int32} (hr : TT[r]? = some (.inr (0, n, rs))) (hn : n < 2 ^ 31) (hi : i = nI k) (hk : k < n) (hv : g.1 r k = y) : Ci 1 mX9_at [.ref r, .int i] ad g (fun v g' => v = y ∧ g' = g) := by
  subst hi
  exact Ci.eq (c_at hr hn) (by rw [atF_in hk hn]; exact hv) rfl
theorem c_ptE {ad : Nat → Nat} {g s : St} {r n k : Nat} {rs : List Nat} {i x : Int32} (hr : TT[r]? = some (.inr (0, n, rs))) (hn : n < 2 ^ 31) (hi : i = nI k) (hk : k < n) (hs : upI g r k x = s) : Cv 1 mX9_put [.ref r, .int i, .int x] ad g (fun g' => g' = s) := by
  subst hi
  exact Cv.eq (c_put hr hn) (by rw [ptF_in hk hn]; exact hs)
theorem r_iincN {K : KT} {n1 n2 : Nat} {T : List TC} {ad : Nat → Nat} {g : St} {pc : Nat} {lv : List (Nat × Value)} {st : List Value} {own : String} {cc : ByteArray} {d : Nat} (hK : Cx K own cc d ad) {i nL k : Nat} (hm : K.2.2.1.2.maxLocals = nL) (hd : decode cc pc = .ok (.iinc i 1, 3)) (h : lget lv i = some (.int (nI k))) (hn : i < nL) (kk : Wp K n1 n2 T ad g (pc + 3) (lset lv i (.int (nI (k + 1)))) st) : Wp K n1 n2 T ad g pc lv st :=
  r_iinc hK hm hd h (v := nI (k + 1)) (by rw [nI_succ]; rfl) hn kk
theorem r_iincD {K : KT} {n1 n2 : Nat} {T : List TC} {ad : Nat → Nat} {g : St} {pc : Nat} {lv : List (Nat × Value)} {st : List Value} {own : String} {cc : ByteArray} {d : Nat} (hK : Cx K own cc d ad) {i nL k : Nat} (hm : K.2.2.1.2.maxLocals = nL) (hd : decode cc pc = .ok (.iinc i (-1), 3)) (h : lget lv i = some (.int (nI (k + 1)))) (hn : i < nL) (kk : Wp K n1 n2 T ad g (pc + 3) (lset lv i (.int (nI k))) st) : Wp K n1 n2 T ad g pc lv st :=
  r_iinc hK hm hd h (v := nI k) (by rw [show Int32.ofInt (-1) = (-1 : Int32) from by decide]; exact pk_m1 k) hn kk
