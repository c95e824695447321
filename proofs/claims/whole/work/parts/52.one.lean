/-! LESSONS, one of them -/
abbrev kL (X : LN) (k : Nat) : Nat := X.2.2.2.2.1 (k / 14) ||| 1 <<< (k % 14)
def lS (X : LN) (t p kn : Nat) : Nat := sdF X.2.1 (knb kn) t (X.2.2.1.2.1 p) (X.2.2.2.1 p) (X.2.2.1.2.2.1 p)
def lE (X : LN) (t p kn : Nat) : Nat := vcE X.2.1 (knb kn) t (X.2.2.1.2.1 p) (lS X t p kn)
def lM (X : LN) (t p kn : Nat) : Nat := rM X.2.1 (knb kn) t (X.2.2.1.2.1 p) (lS X t p kn)
def upV (V : VT) (p e m : Nat) : VT := (fun q => if q = p then e else V.1 q, fun q => if q = p then m else V.2 q)
def oneB (X : LN) (a t d k : Nat) : Bool := cbL X k && inT X.2.2.1 (upV (vX X t false) (k / 14) (lE X t (k / 14) (kL X k)) (lM X t (k / 14) (kL X k))) a t d
/-- what is known of the lessons before k -/
def TbC (g : St) (X : LN) (t k : Nat) : Prop := ∀ j, j < k → cbL X j = true → g.1 72 j = enI (lE X t (j / 14) (kL X j)) ∧ g.1 73 j = nI (lM X t (j / 14) (kL X j))
theorem upV_ok {X : LN} (hok : wOk X.1 X.2.1) (hpo : pOk X.1 X.2.2.1 X.2.2.2.1 X.2.2.2.2.1) {V : VT} (hv : vOk X.1 X.2.2.1 V) {t p kn : Nat} (hp : p < X.2.2.1.1) : vOk X.1 X.2.2.1 (upV V p (lE X t p kn) (lM X t p kn)) := by
  obtain ⟨v1, v2, v3⟩ := hv
  refine ⟨v1, v2, fun q hq => ?_⟩
  obtain ⟨q1, q2, q3⟩ := v3 q hq
  have hb := (rt_b hok (knb kn) t (hpo.2 p hp).1).2 _ (sdF_le (ha := X.2.2.2.1 p) (er := X.2.2.1.2.2.1 p))
  refine ⟨q1, ?_, ?_⟩
  · show (if q = p then _ else _) < 10 → (if q = p then _ else _) < X.1
    split
    · exact fun hv' => vcE_lt hv' hb.1
    · exact q2
  · show (if q = p then _ else _) ≤ 891
    split
    · exact hb.2
    · exact q3
/-- after one asks p with these ways known -/
theorem GsC_ask {g : St} {X : LN} {V : VT} (hok : wOk X.1 X.2.1) (hpo : pOk X.1 X.2.2.1 X.2.2.2.1 X.2.2.2.2.1) {o t p kn : Nat} {f1 f2 f3 : Nat → Int32} {v : Int32} (ho : 27 ≤ o) (hs : GsC g o X.1 X.2.2.1 V) (hp : p < X.2.2.1.1) : GsC (gE (pG g f1 f2 f3 v) o (upd (g.1 (o + 1)) p (enI (lE X t p kn))) (upd (g.1 (o + 2)) p (nI (lM X t p kn)))) o X.1 X.2.2.1 (upV V p (lE X t p kn) (lM X t p kn)) := by
  obtain ⟨hv, s1, s2, s3⟩ := hs
  refine ⟨upV_ok hok hpo hv hp, ?_, ?_, ?_⟩
  · rw [gE_n (by omega) (by omega), pG_n (by omega)]; exact s1
  · intro q hq
    rw [gE_n (by omega) (by omega), pG_n (by omega)]; exact s2 q hq
  · intro q hq
    rw [gE_1, gE_2]
    obtain ⟨e1, e2⟩ := s3 q hq
    unfold upd
    show (if q = p then _ else _) = enI (if q = p then _ else _) ∧ (if q = p then _ else _) = nI (if q = p then _ else _)
    by_cases h : q = p
    · rw [if_pos h, if_pos h, if_pos h, if_pos h]; exact ⟨rfl, rfl⟩
    · rw [if_neg h, if_neg h, if_neg h, if_neg h]; exact ⟨e1, e2⟩

