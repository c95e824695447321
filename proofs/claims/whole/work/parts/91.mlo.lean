/-! THE MODEL: by lot, the queue -/
def cAdd (A B : CA) : CA := (A.1 + B.1, max A.2.1 B.2.1, A.2.2 + B.2.2)
theorem cA_z (A : CA) : cAdd (0, 0, 0) A = A := by
  unfold cAdd
  refine Prod.ext (Nat.zero_add _) (Prod.ext (Nat.zero_max _) (Nat.zero_add _))
theorem cA_r (A : CA) : cAdd A (0, 0, 0) = A := by
  unfold cAdd
  refine Prod.ext rfl (Prod.ext (Nat.max_zero _) rfl)
theorem cA_a (A B C : CA) : cAdd (cAdd A B) C = cAdd A (cAdd B C) := by
  unfold cAdd
  refine Prod.ext (Nat.add_assoc _ _ _) (Prod.ext (Nat.max_assoc _ _ _) (Nat.add_assoc _ _ _))
theorem itF_add {f : Nat → CA → CA} (hf : ∀ i A, f i A = cAdd A (f i (0, 0, 0))) : ∀ n A, itF f n A = cAdd A (itF f n (0, 0, 0))
  | 0, A => (cA_r A).symm
  | n + 1, A => by
    rw [itF_succ, itF_succ, hf n (itF f n A), hf n (itF f n (0, 0, 0)), itF_add hf n A, cA_a]
theorem ctF_add {P : PD} {V : VT} {t : Nat} : ∀ n set here odds gone A, ctF P V t n set here odds gone A = cAdd A (ctF P V t n set here odds gone (0, 0, 0))
  | 0, set, here, odds, gone, A => (cA_r A).symm
  | n + 1, set, here, odds, gone, A => by
    rw [ctF_succ, ctF_succ]
    split
    · unfold cAdd
      refine Prod.ext rfl (Prod.ext ?_ ?_)
      · show max A.2.1 (gone + 1) = max A.2.1 (max 0 (gone + 1)); rw [Nat.zero_max]
      · show A.2.2 + odds * gone = A.2.2 + (0 + odds * gone); rw [Nat.zero_add]
    · split
      · unfold cAdd
        refine Prod.ext ?_ (Prod.ext ?_ rfl)
        · show A.1 + odds = A.1 + (0 + odds); rw [Nat.zero_add]
        · show A.2.1 = max A.2.1 0; rw [Nat.max_zero]
      · refine itF_add ?_ _ A
        intro i A'
        exact ctF_add n _ _ _ _ A'
theorem itF_cg {f f2 : Nat → CA → CA} : ∀ n A, (∀ i A, i < n → f i A = f2 i A) → itF f n A = itF f2 n A
  | 0, _, _ => rfl
  | n + 1, A, h => by rw [itF_succ, itF_succ, itF_cg n A (fun i A hi => h i A (by omega)), h n _ (Nat.lt_succ_self n)]
theorem ctF_fu {P : PD} {V : VT} {t : Nat} : ∀ n n2 set here odds gone A, frS P set < n → frS P set < n2 → ctF P V t n set here odds gone A = ctF P V t n2 set here odds gone A
  | 0, _, _, _, _, _, _, h, _ => absurd h (Nat.not_lt_zero _)
  | _ + 1, 0, _, _, _, _, _, _, h => absurd h (Nat.not_lt_zero _)
  | n + 1, n2 + 1, set, here, odds, gone, A, h, h2 => by
    rw [ctF_succ, ctF_succ]
    split
    · rfl
    · split
      · rfl
      · refine itF_cg _ _ (fun i A hi => ?_)
        obtain ⟨q1, q2, q3, q4⟩ := ctQ_is hi
        have h3 := frS_lt q1 q4
        exact ctF_fu n n2 _ _ _ _ _ (by omega) (by omega)
/-- an entry: where, who led, minutes gone, odds -/
abbrev QE : Type := Nat × Nat × Nat × Nat
def cE (P : PD) (V : VT) (t : Nat) (e : QE) : CA := ctF P V t 7 e.2.1 e.1 e.2.2.2 e.2.2.1 (0, 0, 0)
def chE (P : PD) (V : VT) (e : QE) (c : Nat) : QE := (V.1 (ctQ P V e.2.1 e.1 c), e.2.1 ||| 1 <<< ctQ P V e.2.1 e.1 c, e.2.2.1 + V.2 (ctQ P V e.2.1 e.1 c), ctO (ctM P V e.2.1 e.1) e.2.2.2 c)
def qS {α : Type} (op : α → α → α) (z : α) (f : QE → α) (q : Nat → QE) (i : Nat) : Nat → α
  | 0 => z
  | n + 1 => op (qS op z f q i n) (f (q (i + n)))
theorem qS_s {α : Type} {op : α → α → α} {z : α} {f : QE → α} {q : Nat → QE} {i n : Nat} : qS op z f q i (n + 1) = op (qS op z f q i n) (f (q (i + n))) := rfl
theorem qS_h {α : Type} {op : α → α → α} {z : α} (h1 : ∀ x, op z x = x) (h2 : ∀ x, op x z = x) (h3 : ∀ x y w, op (op x y) w = op x (op y w)) {f : QE → α} {q : Nat → QE} {i : Nat} : ∀ n, qS op z f q i (n + 1) = op (f (q i)) (qS op z f q (i + 1) n)
  | 0 => by rw [qS_s]; show op z (f (q i)) = op (f (q i)) z; rw [h1, h2]
  | n + 1 => by rw [qS_s, qS_h h1 h2 h3 n, qS_s, h3, show i + 1 + n = i + (n + 1) by omega]
theorem qS_cg {α : Type} {op : α → α → α} {z : α} {f : QE → α} {q q2 : Nat → QE} {i : Nat} : ∀ n, (∀ j, i ≤ j → j < i + n → q j = q2 j) → qS op z f q i n = qS op z f q2 i n
  | 0, _ => rfl
  | n + 1, h => by rw [qS_s, qS_s, qS_cg n (fun j a b => h j a (by omega)), h (i + n) (by omega) (by omega)]
theorem qS_ap {α : Type} {op : α → α → α} {z : α} (h2 : ∀ x, op x z = x) (h3 : ∀ x y w, op (op x y) w = op x (op y w)) {f : QE → α} {q : Nat → QE} {i k : Nat} : ∀ n, qS op z f q i (k + n) = op (qS op z f q i k) (qS op z f q (i + k) n)
  | 0 => (h2 _).symm
  | n + 1 => by rw [← Nat.add_assoc, qS_s, qS_ap h2 h3 n, qS_s, h3, Nat.add_assoc]
theorem cE_t {P : PD} {V : VT} {t : Nat} {e : QE} (h : e.1 = t) : cE P V t e = (0, e.2.2.1 + 1, e.2.2.2 * e.2.2.1) := by
  unfold cE
  rw [ctF_succ, if_pos h]
  refine Prod.ext rfl (Prod.ext (Nat.zero_max _) (Nat.zero_add _))
theorem cE_0 {P : PD} {V : VT} {t : Nat} {e : QE} (h : ¬ e.1 = t) (h2 : ctM P V e.2.1 e.1 = 0) : cE P V t e = (e.2.2.2, 0, 0) := by
  unfold cE
  rw [ctF_succ, if_neg h, if_pos h2]
  refine Prod.ext (Nat.zero_add _) rfl
theorem itF_qS {f : Nat → CA → CA} {g : QE → CA} {q : Nat → QE} {k : Nat} (hf : ∀ i A, f i A = cAdd A (f i (0, 0, 0))) : ∀ n, (∀ i, i < n → f i (0, 0, 0) = g (q (k + i))) → itF f n (0, 0, 0) = qS cAdd (0, 0, 0) g q k n
  | 0, _ => rfl
  | n + 1, h => by rw [itF_succ, qS_s, hf, itF_qS hf n (fun i hi => h i (by omega)), h n (Nat.lt_succ_self n)]
theorem frS_6 {P : PD} (h6 : P.1 ≤ 6) (set : Nat) : frS P set ≤ 6 := Nat.le_trans (sp_cn_le _ _) h6
theorem cE_c {P : PD} {V : VT} {t : Nat} {e : QE} (h6 : P.1 ≤ 6) (h : ¬ e.1 = t) (h2 : ¬ ctM P V e.2.1 e.1 = 0) {q : Nat → QE} {k : Nat} (hq : ∀ c, c < ctM P V e.2.1 e.1 → q (k + c) = chE P V e c) : cE P V t e = qS cAdd (0, 0, 0) (cE P V t) q k (ctM P V e.2.1 e.1) := by
  show ctF P V t 7 e.2.1 e.1 e.2.2.2 e.2.2.1 (0, 0, 0) = qS cAdd (0, 0, 0) (cE P V t) q k (ctM P V e.2.1 e.1)
  rw [ctF_succ, if_neg h, if_neg h2]
  refine itF_qS ?_ _ (fun i hi => ?_)
  · intro i A
    exact ctF_add 6 _ _ _ _ A
  rw [hq i hi]
  unfold chE
  obtain ⟨q1, q2, q3, q4⟩ := ctQ_is hi
  have h3 := frS_lt q1 q4
  have h4 := frS_6 h6 e.2.1
  exact ctF_fu 6 7 _ _ _ _ _ (by omega) (by omega)
/-- how many entries there may be -/
def nP : Nat → Nat
  | 0 => 1
  | f + 1 => 1 + (f + 1) * nP f
theorem nP_s (f : Nat) : nP (f + 1) = 1 + (f + 1) * nP f := rfl
theorem nP_1 : ∀ f, 1 ≤ nP f
  | 0 => Nat.le_refl 1
  | f + 1 => by rw [nP_s]; omega
theorem nP_m : ∀ n f, nP f ≤ nP (f + n)
  | 0, _ => Nat.le_refl _
  | n + 1, f => by
    rw [← Nat.add_assoc, nP_s]
    have h := nP_m n f
    have h2 : 1 * nP (f + n) ≤ (f + n + 1) * nP (f + n) := Nat.mul_le_mul_right _ (by omega)
    omega
def qW (P : PD) (e : QE) : Nat := nP (frS P e.2.1)
abbrev pS (P : PD) (q : Nat → QE) (i n : Nat) : Nat := qS (· + ·) 0 (qW P) q i n
theorem pS_ge {P : PD} {q : Nat → QE} {i : Nat} : ∀ n, n ≤ pS P q i n
  | 0 => Nat.le_refl 0
  | n + 1 => by
    have h := pS_ge (P := P) (q := q) (i := i) n
    have h2 := nP_1 (frS P (q (i + n)).2.1)
    show n + 1 ≤ pS P q i n + nP (frS P (q (i + n)).2.1)
    omega
theorem ctM_fr {P : PD} {V : VT} {set here : Nat} : ctM P V set here ≤ frS P set := by
  unfold ctM frS
  refine sp_cn_mono _ (fun k _ h => ?_)
  obtain ⟨a, b, c⟩ := ldB_iff.mp h
  simp [c]
theorem pS_c {P : PD} {V : VT} {e : QE} {q : Nat → QE} {k : Nat} : ∀ n, n ≤ ctM P V e.2.1 e.1 → (∀ c, c < n → q (k + c) = chE P V e c) → pS P q k n ≤ n * nP (frS P e.2.1 - 1)
  | 0, _, _ => Nat.zero_le _
  | n + 1, hn, h => by
    have h1 := pS_c n (by omega) (fun c hc => h c (by omega))
    obtain ⟨q1, q2, q3, q4⟩ := ctQ_is (P := P) (V := V) (set := e.2.1) (here := e.1) (i := n) (by omega)
    have h3 := frS_lt q1 q4
    have h4 : nP (frS P (q (k + n)).2.1) ≤ nP (frS P e.2.1 - 1) := by
      rw [h n (Nat.lt_succ_self n)]
      show nP (frS P (e.2.1 ||| 1 <<< ctQ P V e.2.1 e.1 n)) ≤ _
      have h5 := nP_m (frS P e.2.1 - 1 - frS P (e.2.1 ||| 1 <<< ctQ P V e.2.1 e.1 n)) (frS P (e.2.1 ||| 1 <<< ctQ P V e.2.1 e.1 n))
      rw [Nat.add_sub_cancel' (by omega)] at h5
      exact h5
    show pS P q k n + nP (frS P (q (k + n)).2.1) ≤ (n + 1) * nP (frS P e.2.1 - 1)
    rw [Nat.succ_mul]
    omega
theorem pS_ch {P : PD} {V : VT} {e : QE} {q : Nat → QE} {k : Nat} (h0 : ¬ ctM P V e.2.1 e.1 = 0) (h : ∀ c, c < ctM P V e.2.1 e.1 → q (k + c) = chE P V e c) : pS P q k (ctM P V e.2.1 e.1) + 1 ≤ qW P e := by
  have h1 := pS_c (P := P) (V := V) (e := e) (q := q) (k := k) _ (Nat.le_refl _) h
  have h2 := ctM_fr (P := P) (V := V) (set := e.2.1) (here := e.1)
  unfold qW
  obtain ⟨f, hf⟩ : ∃ f, frS P e.2.1 = f + 1 := ⟨frS P e.2.1 - 1, by omega⟩
  rw [hf] at h1 h2 ⊢
  rw [nP_s]
  have h3 : ctM P V e.2.1 e.1 * nP (f + 1 - 1) ≤ (f + 1) * nP f := Nat.mul_le_mul_right _ h2
  omega
theorem nP_6 {P : PD} (h6 : P.1 ≤ 6) (e : QE) : qW P e ≤ 1957 := by
  unfold qW
  have h := nP_m (6 - frS P e.2.1) (frS P e.2.1)
  rw [Nat.add_sub_cancel' (frS_6 h6 _)] at h
  exact Nat.le_trans h (by decide)
theorem ldI_at {b : Nat → Bool} {n p : Nat} (hp : p < n) (hb : b p = true) : ldI b n (sp_cn b p) = p := by
  unfold ldI
  refine fdF_is n 0 p (Nat.zero_le _) (by omega) (by rw [hb, decide_eq_true rfl]; rfl) (fun j _ hj => ?_)
  by_cases e : b j = true
  · have h1 := cn_le (b := b) (p - (j + 1)) (j + 1)
    rw [show j + 1 + (p - (j + 1)) = p by omega, sp_cn_succ, if_pos e] at h1
    rw [e, decide_eq_false (by omega)]; rfl
  · rw [Bool.not_eq_true] at e
    rw [e]; rfl
