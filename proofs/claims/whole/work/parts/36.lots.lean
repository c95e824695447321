/-! BY LOT: (lost, the longest and one more, sum) -/
abbrev CA : Type := Nat × Nat × Nat
def itF (f : Nat → CA → CA) : Nat → CA → CA
  | 0, A => A
  | i + 1, A => f i (itF f i A)
def ctQ (P : PD) (V : VT) (set here i : Nat) : Nat := ldI (ldB P V here set) P.1 i
def ctM (P : PD) (V : VT) (set here : Nat) : Nat := sp_cn (ldB P V here set) P.1
def ctO (M odds i : Nat) : Nat := if i = M - 1 then odds - odds / M * i else odds / M
def ctF (P : PD) (V : VT) (t : Nat) : Nat → Nat → Nat → Nat → Nat → CA → CA
  | 0, _, _, _, _, A => A
  | n + 1, set, here, odds, gone, A => if here = t then (A.1, max A.2.1 (gone + 1), A.2.2 + odds * gone) else if ctM P V set here = 0 then (A.1 + odds, A.2.1, A.2.2) else itF (fun i A => ctF P V t n (set ||| 1 <<< ctQ P V set here i) (V.1 (ctQ P V set here i)) (ctO (ctM P V set here) odds i) (gone + V.2 (ctQ P V set here i)) A) (ctM P V set here) A
theorem ctF_succ (P : PD) (V : VT) (t n set here odds gone : Nat) (A : CA) : ctF P V t (n + 1) set here odds gone A = if here = t then (A.1, max A.2.1 (gone + 1), A.2.2 + odds * gone) else if ctM P V set here = 0 then (A.1 + odds, A.2.1, A.2.2) else itF (fun i A => ctF P V t n (set ||| 1 <<< ctQ P V set here i) (V.1 (ctQ P V set here i)) (ctO (ctM P V set here) odds i) (gone + V.2 (ctQ P V set here i)) A) (ctM P V set here) A := rfl
theorem itF_succ (f : Nat → CA → CA) (i : Nat) (A : CA) : itF f (i + 1) A = f i (itF f i A) := rfl
def frS (P : PD) (set : Nat) : Nat := sp_cn (fun p => !set.testBit p) P.1
theorem frS_lt {P : PD} {set p : Nat} (hp : p < P.1) (h : set.testBit p = false) : frS P (set ||| 1 <<< p) < frS P set := by
  refine sp_cn_lt P.1 (fun k _ hk => ?_) ⟨p, hp, by simp [h], by simp [or_bit]⟩
  rw [or_bit] at hk
  simp only [Bool.not_eq_true', Bool.or_eq_false_iff] at hk ⊢
  exact hk.1
theorem ctQ_is {P : PD} {V : VT} {set here i : Nat} (h : i < ctM P V set here) : ctQ P V set here i < P.1 ∧ P.2.1 (ctQ P V set here i) = here ∧ V.1 (ctQ P V set here i) < 10 ∧ set.testBit (ctQ P V set here i) = false := by
  obtain ⟨a, b, c⟩ := ldI_is h
  exact ⟨a, ldB_iff.mp b⟩
theorem ctO_le {M odds i : Nat} (hi : i < M) : ctO M odds i ≤ odds := by
  unfold ctO
  split
  · omega
  · exact Nat.div_le_self _ _
theorem share_le {M odds i : Nat} (hi : i < M) : odds / M * i ≤ odds := Nat.le_trans (Nat.mul_le_mul_left _ (Nat.le_of_lt hi)) (Nat.div_mul_le_self odds M)
/-- the longest stays small -/
theorem itF_big {f : Nat → CA → CA} {B : Nat} : ∀ n, (∀ i A, i < n → A.2.1 ≤ B → (f i A).2.1 ≤ B) → ∀ A : CA, A.2.1 ≤ B → (itF f n A).2.1 ≤ B
  | 0, _, _, h => h
  | n + 1, hf, A, h => hf n _ (Nat.lt_succ_self _) (itF_big n (fun i A hi => hf i A (by omega)) A h)
theorem ctF_big {np : Nat} {P : PD} {V : VT} (hv : vOk np P V) {t : Nat} : ∀ n set here odds gone (A : CA), frS P set < n → gone + 891 * frS P set ≤ 5346 → A.2.1 ≤ 5347 → (ctF P V t n set here odds gone A).2.1 ≤ 5347
  | 0, set, here, odds, gone, A, h, _, _ => by omega
  | n + 1, set, here, odds, gone, A, h, hg, hA => by
    rw [ctF_succ]
    split
    · show max A.2.1 (gone + 1) ≤ 5347
      omega
    · split
      · exact hA
      · refine itF_big _ (fun i A' hi hA' => ?_) A hA
        obtain ⟨q1, q2, q3, q4⟩ := ctQ_is hi
        have h1 := frS_lt q1 q4
        have h2 := (hv.2.2 _ q1).2.2
        exact ctF_big hv n _ _ _ _ A' (by omega) (by omega) hA'
def lgI (L : Nat) : Int32 := if L = 0 then -1 else nI (L - 1)
theorem lg_max {L gone : Nat} (hL : L ≤ 5347) (hg : gone ≤ 5346) : (if lgI L < nI gone then nI gone else lgI L) = lgI (max L (gone + 1)) := by
  have e2 : lgI (max L (gone + 1)) = nI (max L (gone + 1) - 1) := by unfold lgI; rw [if_neg (by omega)]
  rw [e2]
  unfold lgI
  by_cases h : L = 0
  · rw [if_pos h, if_pos]
    · congr 1; omega
    · rw [Int32.lt_iff_toInt_lt, nI_toInt (by omega)]
      have : (-1 : Int32).toInt = -1 := by decide
      omega
  · rw [if_neg h]
    by_cases h2 : L - 1 < gone
    · rw [if_pos (nI_lt h2 (by omega))]
      congr 1; omega
    · rw [if_neg (nI_nlt (by omega) (by omega))]
      congr 1; omega
/-- the cells of a casting -/
def cG (g : St) (o : Nat) (x y : Int32) (z : Int64) : St := (fun j => if j = o then (fun k => if k = 9 then x else if k = 10 then y else g.1 o k) else g.1 j, fun j => if j = o then vp_updL (g.2 o) 11 z else g.2 j)
abbrev cGA (g : St) (o : Nat) (A : CA) : St := cG g o (nI A.1) (lgI A.2.1) (lN A.2.2)
theorem St_ext2 {g g' : St} (h1 : ∀ o, g.1 o = g'.1 o) (h2 : ∀ o, g.2 o = g'.2 o) : g = g' := Prod.ext (funext h1) (funext h2)
theorem cG_n {g : St} {o j : Nat} {x y : Int32} {z : Int64} (h : j ≠ o) : (cG g o x y z).1 j = g.1 j := by unfold cG; dsimp only; rw [if_neg h]
theorem cG_o {g : St} {o : Nat} {x y : Int32} {z : Int64} : (cG g o x y z).1 o = fun k => if k = 9 then x else if k = 10 then y else g.1 o k := by unfold cG; dsimp only; rw [if_pos rfl]
theorem cG_9 {g : St} {o : Nat} {x y : Int32} {z : Int64} : (cG g o x y z).1 o 9 = x := by rw [cG_o]; rfl
theorem cG_10 {g : St} {o : Nat} {x y : Int32} {z : Int64} : (cG g o x y z).1 o 10 = y := by rw [cG_o]; rfl
theorem cG_5 {g : St} {o : Nat} {x y : Int32} {z : Int64} : (cG g o x y z).1 o 5 = g.1 o 5 := by rw [cG_o]; rfl
theorem cG_L {g : St} {o : Nat} {x y : Int32} {z : Int64} : (cG g o x y z).2 o 11 = z := by unfold cG; dsimp only; rw [if_pos rfl]; unfold vp_updL; rw [if_pos rfl]
theorem cG_p9 {g : St} {o : Nat} {x y v : Int32} {z : Int64} : upI (cG g o x y z) o 9 v = cG g o v y z := by
  refine St_ext2 (fun j => ?_) (fun j => rfl)
  unfold upI
  dsimp only
  by_cases h : j = o
  · subst h
    rw [if_pos rfl, cG_o, cG_o]; funext k; unfold upd
    by_cases e : k = 9
    · subst e; rfl
    · simp only [if_neg e]
  · rw [if_neg h, cG_n h, cG_n h]
theorem cG_p10 {g : St} {o : Nat} {x y v : Int32} {z : Int64} : upI (cG g o x y z) o 10 v = cG g o x v z := by
  refine St_ext2 (fun j => ?_) (fun j => rfl)
  unfold upI
  dsimp only
  by_cases h : j = o
  · subst h
    rw [if_pos rfl, cG_o, cG_o]; funext k; unfold upd
    by_cases e : k = 10
    · subst e; rfl
    · simp only [if_neg e]
  · rw [if_neg h, cG_n h, cG_n h]
theorem cG_pL {g : St} {o : Nat} {x y : Int32} {z v : Int64} : upL (cG g o x y z) o 11 v = cG g o x y v := by
  refine St_ext2 (fun j => rfl) (fun j => ?_)
  unfold upL cG
  dsimp only
  by_cases h : j = o
  · subst h
    simp only [if_pos]
    funext k; unfold vp_updL
    split <;> rfl
  · simp only [if_neg h]
theorem cG_id {g : St} {o : Nat} : cG g o (g.1 o 9) (g.1 o 10) (g.2 o 11) = g := by
  refine St_ext2 (fun j => ?_) (fun j => ?_)
  · by_cases h : j = o
    · subst h
      rw [cG_o]; funext k
      split
      · rename_i e; rw [e]
      · split
        · rename_i e; rw [e]
        · rfl
    · rw [cG_n h]
  · unfold cG
    dsimp only
    split
    · rename_i h; rw [h]; funext k; unfold vp_updL; split
      · rename_i e; rw [e]
      · rfl
    · rfl

set_option maxHeartbeats 4000000 in
set_option maxRecDepth 100000 in
theorem l_cL {K : KT} {ad : Nat → Nat} {g : St} {np : Nat} {P : PD} {V : VT} {o : Nat} (hG : GdP o) (hs : GsC g o np P V) {t : Nat} (ht : t < 10) (htg : g.1 o 5 = nI t) {n set here odds gone dp : Nat} {A : CA} (hrec : ∀ set here odds gone dp (A : CA), frS P set < n → dp + n ≤ 7 → gone + 891 * frS P set ≤ 5346 → A.2.1 ≤ 5347 → set < 64 → here < np → odds ≤ 1000000000 → Cv (4 + n) mX1_castLots [.ref o, .int (nI here), .int (nI set), .int (nI odds), .int (nI gone), .int (nI dp)] ad (cGA g o A) (fun g' => g' = cGA g o (ctF P V t n set here odds gone A))) (hfr : frS P set < n + 1) (hdp : dp + (n + 1) ≤ 7) (hgo : gone + 891 * frS P set ≤ 5346) (hset : set < 64) (hhe : here < np) (hod : odds ≤ 1000000000) (hnt : here ≠ t) (hM0 : ctM P V set here ≠ 0) (hK : Cx K RX1 cX1_castLots (4 + (n + 1)) ad) (hm : K.2.2.1.2.maxLocals = 11) (hnn : Nn K 0 0)
    (hR : Rt K 0 0 TT ad none (Qv ad (fun g' => g' = cGA g o (ctF P V t (n + 1) set here odds gone A)))) :
    ∀ m i, i + m = ctM P V set here → ∀ B : CA, B.2.1 ≤ 5347 → itF (fun i A => ctF P V t n (set ||| 1 <<< ctQ P V set here i) (V.1 (ctQ P V set here i)) (ctO (ctM P V set here) odds i) (gone + V.2 (ctQ P V set here i)) A) i A = B → Wp K 0 0 TT ad (cGA g o B) 78 [(0, .ref o), (1, .int (nI here)), (2, .int (nI set)), (3, .int (nI odds)), (4, .int (nI gone)), (5, .int (nI dp)), (6, .int (nI (ctM P V set here))), (7, .int (nI (odds / ctM P V set here))), (8, .int (nI i))] [] := by
  have hG' := hG
  obtain ⟨o1, o2, o3, t0, t1, t2, t3⟩ := hG
  have h6 := hs.1.2.1
  have h10 := hs.1.1
  have hM6 : ctM P V set here ≤ 6 := Nat.le_trans (sp_cn_le _ _) h6
  intro m
  induction m with
  | zero =>
    intro i him B hB hBi
    refine r_iload (i := 8) hK dX1_castLots_78 rfl ?_
    refine r_iload (i := 6) hK dX1_castLots_80 rfl ?_
    refine r_icmp_ge (tgt := 168) hK dX1_castLots_82 (by decide) (fun _ => ?_) (fun h => absurd (nI_le (by omega) (by omega)) h)
    refine q_vret hK hR dX1_castLots_168 ?_
    rw [ctF_succ, if_neg hnt, if_neg hM0, ← hBi]
    rw [show i = ctM P V set here by omega]
  | succ m ih =>
    intro i him B hB hBi
    have hi : i < ctM P V set here := by omega
    obtain ⟨q1, q2, q3, q4⟩ := ctQ_is hi
    have hfr2 := frS_lt q1 q4
    have hpv := hs.1.2.2 _ q1
    have hs' : GsC (cGA g o B) o np P V := GsC_of hs (cG_n (by omega)) (cG_n (by omega)) (cG_n (by omega)) (cG_n (by omega))
    obtain ⟨hv, s1, s2, s3⟩ := id hs'
    have hshare := Nat.div_le_self odds (ctM P V set here)
    have hB2 : (ctF P V t n (set ||| 1 <<< ctQ P V set here i) (V.1 (ctQ P V set here i)) (ctO (ctM P V set here) odds i) (gone + V.2 (ctQ P V set here i)) B).2.1 ≤ 5347 := ctF_big hs.1 n _ _ _ _ B (by omega) (by omega) hB
    refine r_iload (i := 8) hK dX1_castLots_78 rfl ?_
    refine r_iload (i := 6) hK dX1_castLots_80 rfl ?_
    refine r_icmp_ge (tgt := 168) hK dX1_castLots_82 (by decide) (fun h => absurd h (nI_ge hi (by omega))) (fun _ => ?_)
    refine r_aload_n (i := 0) hK dX1_castLots_85 rfl rfl ?_
    refine r_iload_n (i := 1) hK dX1_castLots_86 rfl rfl ?_
    refine r_iload_n (i := 2) hK dX1_castLots_87 rfl rfl ?_
    refine r_iload (i := 8) hK dX1_castLots_88 rfl ?_
    refine r_ci3 hK hnn (Ci.eq (c_leader (i := i) hG' hs' rfl (by omega) rfl (by omega) rfl (by omega)) (show _ = nI (ctQ P V set here i) from if_pos q1) rfl) moX1_leader mlX1_108 t0 rfl rfl dX1_castLots_90 (by omega) (Nat.le_of_ble_eq_true rfl) (eqI ?_)
    refine r_istore (i := 9) hK hm dX1_castLots_93 (by decide) ?_
    refine r_iload (i := 9) hK dX1_castLots_95 rfl ?_
    refine r_iconst (v := (-1)) hK dX1_castLots_97 (by decide) ?_
    refine r_icmp_ne (tgt := 102) hK dX1_castLots_98 (by decide) (fun _ => ?_) (fun h => absurd h (nI_m1 (by omega)))
    refine r_iload (i := 8) hK dX1_castLots_102 rfl ?_
    refine r_iload (i := 6) hK dX1_castLots_104 rfl ?_
    refine r_iconst (v := 1) hK dX1_castLots_106 (by decide) ?_
    refine r_isub hK dX1_castLots_107 ?_
    refine r_top (y := nI (ctM P V set here - 1)) (pk_sub (a := ctM P V set here) (b := 1) (by omega)) ?_
    refine r_icmp_ne (tgt := 121) hK dX1_castLots_108 (by decide) (fun h108 => ?_) (fun h108 => ?_)
    · refine r_iload (i := 7) hK dX1_castLots_121 rfl ?_
      have ei : i ≠ ctM P V set here - 1 := fun z => h108 (by rw [z])
      have eo : ctO (ctM P V set here) odds i = odds / ctM P V set here := if_neg ei
      refine r_top (y := nI (ctO (ctM P V set here) odds i)) (by rw [eo]) ?_
      refine r_istore (i := 10) hK hm dX1_castLots_123 (by decide) ?_
      refine r_aload_n (i := 0) hK dX1_castLots_125 rfl rfl ?_
      refine r_aload_n (i := 0) hK dX1_castLots_126 rfl rfl ?_
      refine r_getA hK flX1_9 t0 rfl dX1_castLots_127 ?_
      refine r_iload (i := 9) hK dX1_castLots_130 rfl ?_
      refine r_si2 hK hnn (c_atE t1 (by decide) rfl (by omega) (by rw [(s3 _ q1).1, enI_in q3])) moX9_at mlX1_38 dX1_castLots_132 (by omega) (Nat.le_of_ble_eq_true rfl) (eqI ?_)
      refine r_iload_n (i := 2) hK dX1_castLots_135 rfl rfl ?_
      refine r_iconst (v := 1) hK dX1_castLots_136 (by decide) ?_
      refine r_iload (i := 9) hK dX1_castLots_137 rfl ?_
      refine r_ishl hK dX1_castLots_139 ?_
      refine r_ior hK dX1_castLots_140 ?_
      refine r_top (y := nI (set ||| 1 <<< ctQ P V set here i)) (setbit (by omega)) ?_
      refine r_iload (i := 10) hK dX1_castLots_141 rfl ?_
      refine r_iload (i := 4) hK dX1_castLots_143 rfl ?_
      refine r_aload_n (i := 0) hK dX1_castLots_145 rfl rfl ?_
      refine r_getA hK flX1_15 t0 rfl dX1_castLots_146 ?_
      refine r_iload (i := 9) hK dX1_castLots_149 rfl ?_
      refine r_si2 hK hnn (c_atE t2 (by decide) rfl (by omega) (s3 _ q1).2) moX9_at mlX1_38 dX1_castLots_151 (by omega) (Nat.le_of_ble_eq_true rfl) (eqI ?_)
      refine r_iadd hK dX1_castLots_154 ?_
      refine r_top (nI_add _ _) ?_
      refine r_iload (i := 5) hK dX1_castLots_155 rfl ?_
      refine r_iconst (v := 1) hK dX1_castLots_157 (by decide) ?_
      refine r_iadd hK dX1_castLots_158 ?_
      refine r_top (y := nI (dp + 1)) (nI_add dp 1) ?_
      refine r_sv6 hK hnn (hrec (set ||| 1 <<< ctQ P V set here i) (V.1 (ctQ P V set here i)) (ctO (ctM P V set here) odds i) (gone + V.2 (ctQ P V set here i)) (dp + 1) B (by omega) (by omega) (by omega) hB (bit6 hset (by omega)) (hpv.2.1 q3) (Nat.le_trans (ctO_le hi) hod)) moX1_castLots mlX1_137 dX1_castLots_159 (Nat.le_refl _) (Nat.le_of_ble_eq_true rfl) (eqV ?_)
      refine r_iincN (i := 8) hK hm dX1_castLots_162 rfl (by decide) ?_
      refine r_goto (tgt := 78) hK dX1_castLots_165 (by decide) ?_
      refine r_loc ?_ (ih (i + 1) (by omega) _ hB2 (by rw [itF_succ, ← hBi]))
      rfl
    · refine r_iload_n (i := 3) hK dX1_castLots_111 rfl rfl ?_
      refine r_iload (i := 7) hK dX1_castLots_112 rfl ?_
      refine r_iload (i := 8) hK dX1_castLots_114 rfl ?_
      refine r_imul hK dX1_castLots_116 ?_
      refine r_top (y := nI (odds / ctM P V set here * i)) (pk_mul _ _) ?_
      refine r_isub hK dX1_castLots_117 ?_
      refine r_top (y := nI (odds - odds / ctM P V set here * i)) (pk_sub (share_le hi)) ?_
      refine r_goto (tgt := 123) hK dX1_castLots_118 (by decide) ?_
      have ei : i = ctM P V set here - 1 := nI_inj (by omega) (by omega) h108
      have eo : ctO (ctM P V set here) odds i = odds - odds / ctM P V set here * i := if_pos ei
      refine r_top (y := nI (ctO (ctM P V set here) odds i)) (by rw [eo]) ?_
      refine r_istore (i := 10) hK hm dX1_castLots_123 (by decide) ?_
      refine r_aload_n (i := 0) hK dX1_castLots_125 rfl rfl ?_
      refine r_aload_n (i := 0) hK dX1_castLots_126 rfl rfl ?_
      refine r_getA hK flX1_9 t0 rfl dX1_castLots_127 ?_
      refine r_iload (i := 9) hK dX1_castLots_130 rfl ?_
      refine r_si2 hK hnn (c_atE t1 (by decide) rfl (by omega) (by rw [(s3 _ q1).1, enI_in q3])) moX9_at mlX1_38 dX1_castLots_132 (by omega) (Nat.le_of_ble_eq_true rfl) (eqI ?_)
      refine r_iload_n (i := 2) hK dX1_castLots_135 rfl rfl ?_
      refine r_iconst (v := 1) hK dX1_castLots_136 (by decide) ?_
      refine r_iload (i := 9) hK dX1_castLots_137 rfl ?_
      refine r_ishl hK dX1_castLots_139 ?_
      refine r_ior hK dX1_castLots_140 ?_
      refine r_top (y := nI (set ||| 1 <<< ctQ P V set here i)) (setbit (by omega)) ?_
      refine r_iload (i := 10) hK dX1_castLots_141 rfl ?_
      refine r_iload (i := 4) hK dX1_castLots_143 rfl ?_
      refine r_aload_n (i := 0) hK dX1_castLots_145 rfl rfl ?_
      refine r_getA hK flX1_15 t0 rfl dX1_castLots_146 ?_
      refine r_iload (i := 9) hK dX1_castLots_149 rfl ?_
      refine r_si2 hK hnn (c_atE t2 (by decide) rfl (by omega) (s3 _ q1).2) moX9_at mlX1_38 dX1_castLots_151 (by omega) (Nat.le_of_ble_eq_true rfl) (eqI ?_)
      refine r_iadd hK dX1_castLots_154 ?_
      refine r_top (nI_add _ _) ?_
      refine r_iload (i := 5) hK dX1_castLots_155 rfl ?_
      refine r_iconst (v := 1) hK dX1_castLots_157 (by decide) ?_
      refine r_iadd hK dX1_castLots_158 ?_
      refine r_top (y := nI (dp + 1)) (nI_add dp 1) ?_
      refine r_sv6 hK hnn (hrec (set ||| 1 <<< ctQ P V set here i) (V.1 (ctQ P V set here i)) (ctO (ctM P V set here) odds i) (gone + V.2 (ctQ P V set here i)) (dp + 1) B (by omega) (by omega) (by omega) hB (bit6 hset (by omega)) (hpv.2.1 q3) (Nat.le_trans (ctO_le hi) hod)) moX1_castLots mlX1_137 dX1_castLots_159 (Nat.le_refl _) (Nat.le_of_ble_eq_true rfl) (eqV ?_)
      refine r_iincN (i := 8) hK hm dX1_castLots_162 rfl (by decide) ?_
      refine r_goto (tgt := 78) hK dX1_castLots_165 (by decide) ?_
      refine r_loc ?_ (ih (i + 1) (by omega) _ hB2 (by rw [itF_succ, ← hBi]))
      rfl
set_option maxHeartbeats 4000000 in
set_option maxRecDepth 100000 in
theorem c_castLots {ad : Nat → Nat} {g : St} {np : Nat} {P : PD} {V : VT} {o : Nat} (hG : GdP o) (hs : GsC g o np P V) {t : Nat} (ht : t < 10) (htg : g.1 o 5 = nI t) : ∀ n set here odds gone dp (A : CA), frS P set < n → dp + n ≤ 7 → gone + 891 * frS P set ≤ 5346 → A.2.1 ≤ 5347 → set < 64 → here < np → odds ≤ 1000000000 → Cv (4 + n) mX1_castLots [.ref o, .int (nI here), .int (nI set), .int (nI odds), .int (nI gone), .int (nI dp)] ad (cGA g o A) (fun g' => g' = cGA g o (ctF P V t n set here odds gone A)) := by
  have hG' := hG
  obtain ⟨o1, o2, o3, t0, t1, t2, t3⟩ := hG
  have h6 := hs.1.2.1
  have h10 := hs.1.1
  intro n
  induction n with
  | zero => intro set here odds gone dp A hfr; omega
  | succ n ih =>
    intro set here odds gone dp A hfr hdp hgo hA hset hhe hod
    have hs' : GsC (cGA g o A) o np P V := GsC_of hs (cG_n (by omega)) (cG_n (by omega)) (cG_n (by omega)) (cG_n (by omega))
    have hM6 : ctM P V set here ≤ 6 := Nat.le_trans (sp_cn_le _ _) h6
    refine Cm.mk rfl (Nat.le_of_ble_eq_true rfl) (fun K hK hR hm hnn => ?_)
    refine r_iload (i := 5) hK dX1_castLots_0 rfl ?_
    refine r_bipush (v := 6) hK dX1_castLots_2 (by decide) ?_
    refine r_icmp_le (tgt := 8) hK dX1_castLots_4 (by decide) (fun _ => ?_) (fun h => absurd (show nI dp ≤ (6 : Int32) from nI_le (b := 6) (by omega) (by omega)) h)
    refine r_iload_n (i := 1) hK dX1_castLots_8 rfl rfl ?_
    refine r_aload_n (i := 0) hK dX1_castLots_9 rfl rfl ?_
    refine r_getI hK flX1_124 t0 rfl dX1_castLots_10 ?_
    refine r_top (y := nI t) (cG_5.trans htg) ?_
    refine r_icmp_ne (tgt := 45) hK dX1_castLots_13 (by decide) (fun h13 => ?_) (fun h13 => ?_)
    · refine r_aload_n (i := 0) hK dX1_castLots_45 rfl rfl ?_
      have hnt : here ≠ t := fun z => h13 (by rw [z])
      refine r_iload_n (i := 1) hK dX1_castLots_46 rfl rfl ?_
      refine r_iload_n (i := 2) hK dX1_castLots_47 rfl rfl ?_
      refine r_ci2 hK hnn (Ci.eq (c_howMany hG' hs' rfl (by omega) rfl (by omega)) (show _ = nI (ctM P V set here) from rfl) rfl) moX1_howMany mlX1_100 t0 rfl rfl dX1_castLots_48 (by omega) (Nat.le_of_ble_eq_true rfl) (eqI ?_)
      refine r_istore (i := 6) hK hm dX1_castLots_51 (by decide) ?_
      refine r_iload (i := 6) hK dX1_castLots_53 rfl ?_
      refine r_if_ne (tgt := 69) hK dX1_castLots_55 (by decide) (fun h55 => ?_) (fun h55 => ?_)
      · refine r_iload_n (i := 3) hK dX1_castLots_69 rfl rfl ?_
        have hM0 : ctM P V set here ≠ 0 := fun z => h55 (by rw [z]; rfl)
        refine r_iload (i := 6) hK dX1_castLots_70 rfl ?_
        refine r_idiv hK dX1_castLots_72 (nI_ne0 (by omega) (by omega)) ?_
        refine r_top (y := nI (odds / ctM P V set here)) (pk_div (by omega) (by omega) (by omega)) ?_
        refine r_istore (i := 7) hK hm dX1_castLots_73 (by decide) ?_
        refine r_iconst (v := 0) hK dX1_castLots_75 (by decide) ?_
        refine r_istore (i := 8) hK hm dX1_castLots_76 (by decide) ?_
        refine r_loc ?_ (l_cL hG' hs ht htg (fun set here odds gone dp A q1 q2 q3 q4 q5 q6 q7 => ih set here odds gone dp A q1 q2 q3 q4 q5 q6 q7) hfr hdp hgo hset hhe hod hnt hM0 hK hm hnn hR _ 0 (Nat.zero_add _) A hA rfl)
        rfl
      · refine r_aload_n (i := 0) hK dX1_castLots_58 rfl rfl ?_
        have hM0 : ctM P V set here = 0 := Decidable.byContradiction (fun z => nI_ne0 (by omega) (by omega) h55)
        refine r_dup hK dX1_castLots_59 rfl ?_
        refine r_getI hK flX1_127 t0 rfl dX1_castLots_60 ?_
        refine r_top (y := nI A.1) cG_9 ?_
        refine r_iload_n (i := 3) hK dX1_castLots_63 rfl rfl ?_
        refine r_iadd hK dX1_castLots_64 ?_
        refine r_top (nI_add _ _) ?_
        refine r_putI hK flX1_127 ft1_9 t0 rfl dX1_castLots_65 ?_
        refine r_g cG_p9 ?_
        refine q_vret hK hR dX1_castLots_68 ?_
        rw [ctF_succ, if_neg hnt, if_pos hM0]
    · refine r_aload_n (i := 0) hK dX1_castLots_16 rfl rfl ?_
      refine r_aload_n (i := 0) hK dX1_castLots_17 rfl rfl ?_
      refine r_getI hK flX1_130 t0 rfl dX1_castLots_18 ?_
      refine r_top (y := lgI A.2.1) cG_10 ?_
      refine r_iload (i := 4) hK dX1_castLots_21 rfl ?_
      refine r_max hK hnn mwX1_141 dX1_castLots_23 (by omega) (Nat.le_of_ble_eq_true rfl) ?_
      refine r_top (lg_max hA (by omega)) ?_
      refine r_putI hK flX1_130 ft1_10 t0 rfl dX1_castLots_26 ?_
      refine r_g cG_p10 ?_
      refine r_aload_n (i := 0) hK dX1_castLots_29 rfl rfl ?_
      refine r_dup hK dX1_castLots_30 rfl ?_
      refine r_getL hK flX1_133 t0 rfl dX1_castLots_31 ?_
      refine r_topL (y := lN A.2.2) cG_L ?_
      refine r_iload_n (i := 3) hK dX1_castLots_34 rfl rfl ?_
      refine r_i2l hK dX1_castLots_35 ?_
      refine r_topL (y := lN odds) (nI_l (by omega)) ?_
      refine r_iload (i := 4) hK dX1_castLots_36 rfl ?_
      refine r_i2l hK dX1_castLots_38 ?_
      refine r_topL (y := lN gone) (nI_l (by omega)) ?_
      refine r_lmul hK dX1_castLots_39 ?_
      refine r_topL (lN_mul _ _) ?_
      refine r_ladd hK dX1_castLots_40 ?_
      refine r_topL (lN_add _ _) ?_
      refine r_putL hK flX1_133 ft1_11 t0 rfl dX1_castLots_41 ?_
      refine r_g cG_pL ?_
      refine q_vret hK hR dX1_castLots_44 ?_
      rw [ctF_succ, if_pos (nI_inj (by omega) (by omega) h13)]
set_option maxHeartbeats 4000000 in
set_option maxRecDepth 100000 in
theorem c_lots {ad : Nat → Nat} {g : St} {np : Nat} {P : PD} {V : VT} {o : Nat} (hG : GdP o) (hs : GsC g o np P V) {a t : Nat} (ha : a < np) (ht : t < 10) : Cv 12 mX1_lots [.ref o, .int (nI a), .int (nI t)] ad g (fun g' => g' = cGA (upI g o 5 (nI t)) o (ctF P V t 7 0 a 1000000000 0 (0, 0, 0))) := by
  obtain ⟨o1, o2, o3, t0, t1, t2, t3⟩ := id hG
  have h6 := hs.1.2.1
  have hfr : frS P 0 ≤ 6 := Nat.le_trans (sp_cn_le _ _) h6
  have hs5 : GsC (upI g o 5 (nI t)) o np P V := GsC_of hs (upI_n (by omega)) (upI_n (by omega)) (upI_n (by omega)) (upI_n (by omega))
  have h10 := hs.1.1
  refine Cm.mk rfl (Nat.le_of_ble_eq_true rfl) (fun K hK hR hm hnn => ?_)
  refine r_aload_n (i := 0) hK dX1_lots_0 rfl rfl ?_
  refine r_iload_n (i := 2) hK dX1_lots_1 rfl rfl ?_
  refine r_putI hK flX1_124 ft1_5 t0 rfl dX1_lots_2 ?_
  refine r_g (g' := cG (upI g o 5 (nI t)) o _ _ _) cG_id.symm ?_
  refine r_aload_n (i := 0) hK dX1_lots_5 rfl rfl ?_
  refine r_iconst (v := 0) hK dX1_lots_6 (by decide) ?_
  refine r_putI hK flX1_127 ft1_9 t0 rfl dX1_lots_7 ?_
  refine r_g cG_p9 ?_
  refine r_aload_n (i := 0) hK dX1_lots_10 rfl rfl ?_
  refine r_iconst (v := (-1)) hK dX1_lots_11 (by decide) ?_
  refine r_putI hK flX1_130 ft1_10 t0 rfl dX1_lots_12 ?_
  refine r_g cG_p10 ?_
  refine r_aload_n (i := 0) hK dX1_lots_15 rfl rfl ?_
  refine r_lconst (v := 0) hK dX1_lots_16 (by decide) ?_
  refine r_putL hK flX1_133 ft1_11 t0 rfl dX1_lots_17 ?_
  refine r_g cG_pL ?_
  refine r_aload_n (i := 0) hK dX1_lots_20 rfl rfl ?_
  refine r_iload_n (i := 1) hK dX1_lots_21 rfl rfl ?_
  refine r_iconst (v := 0) hK dX1_lots_22 (by decide) ?_
  refine r_ldc hK ckX1_111 dX1_lots_23 ?_
  refine r_iconst (v := 0) hK dX1_lots_25 (by decide) ?_
  refine r_iconst (v := 0) hK dX1_lots_26 (by decide) ?_
  refine r_sv6 hK hnn (c_castLots (g := upI g o 5 (nI t)) hG hs5 ht (by rw [upI_s, upd_s]) 7 0 a 1000000000 0 0 (0, 0, 0) (by omega) (by omega) (by omega) (by show 0 ≤ 5347; omega) (by omega) ha (Nat.le_refl _)) moX1_castLots mlX1_137 dX1_lots_27 (Nat.le_of_ble_eq_true rfl) (Nat.le_of_ble_eq_true rfl) (eqV ?_)
  refine q_vret hK hR dX1_lots_30 ?_
  rfl
