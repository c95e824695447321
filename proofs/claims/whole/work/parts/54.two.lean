/-! LESSONS, two of them: what applying and forgetting does -/
theorem GsC_ap {g : St} {np : Nat} {P : PD} {V : VT} {o p e m : Nat} (hs : GsC g o np P V) (hv : vOk np P (upV V p e m)) (ho : 27 ≤ o) {x y : Int32} (hx : x = enI e) (hy : y = nI m) : GsC (gE g o (upd (g.1 (o + 1)) p x) (upd (g.1 (o + 2)) p y)) o np P (upV V p e m) := by
  subst hx; subst hy
  obtain ⟨-, s1, s2, s3⟩ := hs
  refine ⟨hv, ?_, ?_, ?_⟩
  · rw [gE_n (by omega) (by omega)]; exact s1
  · intro q hq
    rw [gE_n (by omega) (by omega)]; exact s2 q hq
  · intro q hq
    rw [gE_1, gE_2]
    obtain ⟨e1, e2⟩ := s3 q hq
    unfold upd
    show (if q = p then _ else _) = enI (if q = p then _ else _) ∧ (if q = p then _ else _) = nI (if q = p then _ else _)
    by_cases h : q = p
    · rw [if_pos h, if_pos h, if_pos h, if_pos h]; exact ⟨rfl, rfl⟩
    · rw [if_neg h, if_neg h, if_neg h, if_neg h]; exact ⟨e1, e2⟩
/-- two ways for one person, or one for each of two -/
def twoB (X : LN) (a t d j k : Nat) : Bool := if j / 14 = k / 14 then inT X.2.2.1 (upV (vX X t false) (j / 14) (lE X t (j / 14) (kL X j ||| 1 <<< (k % 14))) (lM X t (j / 14) (kL X j ||| 1 <<< (k % 14)))) a t d else inT X.2.2.1 (upV (upV (vX X t false) (j / 14) (lE X t (j / 14) (kL X j)) (lM X t (j / 14) (kL X j))) (k / 14) (lE X t (k / 14) (kL X k)) (lM X t (k / 14) (kL X k))) a t d
theorem upV_same {V : VT} {p e m : Nat} (h1 : V.1 p = e) (h2 : V.2 p = m) : upV V p e m = V := by
  unfold upV
  refine Prod.ext (funext fun q => ?_) (funext fun q => ?_)
  · show (if q = p then e else V.1 q) = V.1 q
    split
    · rename_i h; rw [h, h1]
    · rfl
  · show (if q = p then m else V.2 q) = V.2 q
    split
    · rename_i h; rw [h, h2]
    · rfl
theorem upV_comm {V : VT} {p q e m e' m' : Nat} (h : p ≠ q) : upV (upV V p e m) q e' m' = upV (upV V q e' m') p e m := by
  unfold upV
  refine Prod.ext (funext fun r => ?_) (funext fun r => ?_)
  · show (if r = q then e' else if r = p then e else V.1 r) = (if r = p then e else if r = q then e' else V.1 r)
    by_cases h1 : r = q
    · rw [if_pos h1, if_neg (fun z => h (z.symm.trans h1)), if_pos h1]
    · rw [if_neg h1, if_neg h1]
  · show (if r = q then m' else if r = p then m else V.2 r) = (if r = p then m else if r = q then m' else V.2 r)
    by_cases h1 : r = q
    · rw [if_pos h1, if_neg (fun z => h (z.symm.trans h1)), if_pos h1]
    · rw [if_neg h1, if_neg h1]

