/-! THE MODEL: led -/
theorem sp_cn_0 {b : Nat → Bool} : ∀ n, (∀ j, j < n → b j = false) → sp_cn b n = 0
  | 0, _ => rfl
  | n + 1, h => by rw [sp_cn_succ, sp_cn_0 n (fun j hj => h j (by omega)), h n (by omega)]; rfl
theorem sp_cn_pos {b : Nat → Bool} {k : Nat} (hb : b k = true) : ∀ n, k < n → 0 < sp_cn b n
  | 0, h => absurd h (Nat.not_lt_zero _)
  | n + 1, h => by
    rw [sp_cn_succ]
    by_cases e : k = n
    · subst e; rw [hb]; exact Nat.succ_pos _
    · have := sp_cn_pos hb n (by omega); omega
theorem ldI_0 {b : Nat → Bool} {n : Nat} (h : fdF b n 0 < n) : ldI b n 0 = fdF b n 0 := by
  unfold ldI
  refine fdF_is n 0 _ (Nat.zero_le _) (by omega) ?_ (fun j h1 h2 => ?_)
  · rw [fdF_at (p := b) n 0 (by omega), sp_cn_0 _ (fun j hj => fdF_bef (p := b) n 0 j (Nat.zero_le _) hj)]
    rfl
  · rw [fdF_bef (p := b) n 0 j h1 h2]
    rfl
theorem cn_fd {b : Nat → Bool} {n : Nat} : sp_cn b n = 0 ↔ ¬ fdF b n 0 < n := by
  constructor
  · intro h z
    have := sp_cn_pos (fdF_at (p := b) n 0 (by omega)) n z
    omega
  · intro h
    exact sp_cn_0 n (fun j hj => fdF_all n 0 (by have := fdF_le b n 0; omega) j (Nat.zero_le _) (by omega))
def wI (b : Nat → Bool) (n j : Nat) : Int32 := if fdF b (n - j) j < n then nI (fdF b (n - j) j) else -1
theorem wI_n (b : Nat → Bool) (n : Nat) : wI b n n = -1 := by unfold wI; rw [Nat.sub_self]; exact if_neg (Nat.lt_irrefl n)
theorem wI_s {b : Nat → Bool} {n j : Nat} (h : j < n) : wI b n j = if b j = true then nI j else wI b n (j + 1) := by
  unfold wI
  rw [show n - j = (n - (j + 1)) + 1 by omega, fdF_succ]
  by_cases hq : b j = true
  · rw [if_pos hq, if_pos h, if_pos hq]
  · rw [if_neg hq, if_neg hq]
theorem dec_1 (x : Int32) : x + Int32.ofInt (-1) = x - 1 := by
  rw [show Int32.ofInt (-1) = (-1 : Int32) from by decide, Int32.sub_eq_add_neg]

set_option maxHeartbeats 4000000 in
set_option maxRecDepth 100000 in
theorem lm_wh {K : KT} {ad : Nat → Nat} {g : St} {X : LN} (hPs : MPC g X.2.2.1 X.2.2.2.1 X.2.2.2.2.1) (h6 : X.2.2.1.1 ≤ 6) (hhm : ∀ p, p < X.2.2.1.1 → X.2.2.1.2.1 p < 10) {V : VT} (hG : MG g V X.2.2.1.1) {set here : Nat} {t2 x x7 x8 x9 : Int32} (hs : set < 2 ^ 31) (hh : here < 2 ^ 31) {b : Nat → Bool} (hb : ∀ p, b p = ldB X.2.2.1 V here set p) (hK : Cx K RX10 cX10_led 6 ad) (hm : K.2.2.1.2.maxLocals = 12) (hnn : Nn K 0 0)
    (h111 : Wp K 0 0 TT ad g 111 [(0, .ref 91), (2, .int t2), (4, .int x), (5, .int (nI here)), (6, .int (nI set)), (7, .int x7), (8, .int x8), (9, .int x9), (10, .int (wI b X.2.2.1.1 0))] []) :
    ∀ j, j ≤ X.2.2.1.1 → Wp K 0 0 TT ad g 78 [(0, .ref 91), (2, .int t2), (4, .int x), (5, .int (nI here)), (6, .int (nI set)), (7, .int x7), (8, .int x8), (9, .int x9), (10, .int (wI b X.2.2.1.1 j)), (11, .int (nI j - 1))] [] := by
  intro j
  induction j with
  | zero =>
    intro hj
    refine r_iload (i := 11) hK dX10_led_78 rfl ?_
    refine r_if_lt (tgt := 111) hK dX10_led_80 (by decide) (fun _ => ?_) (fun h => absurd (by decide) h)
    refine r_loc ?_ h111
    rfl
  | succ j ih =>
    intro hj
    have hj9 : j < X.2.2.1.1 := hj
    have ih2 := ih (by omega)
    obtain ⟨u, hu⟩ : ∃ u, u = wI b X.2.2.1.1 j := ⟨_, rfl⟩
    obtain ⟨u1, hu1⟩ : ∃ u, u = wI b X.2.2.1.1 (j + 1) := ⟨_, rfl⟩
    rw [← hu] at ih2
    rw [← hu1, nI_pred]
    clear ih
    refine r_iload (i := 11) hK dX10_led_78 rfl ?_
    refine r_if_lt (tgt := 111) hK dX10_led_80 (by decide) (fun h => absurd h (nI_pos (by omega))) (fun _ => ?_)
    refine r_aload_n (i := 0) hK dX10_led_83 rfl rfl ?_
    refine r_iload (i := 11) hK dX10_led_84 rfl ?_
    refine r_iload (i := 6) hK dX10_led_86 rfl ?_
    refine r_iload (i := 5) hK dX10_led_88 rfl ?_
    refine r_ci3 hK hnn (c_mLeads hPs h6 hhm hG rfl hj9 rfl hs rfl hh) moX10_leads mlX10_299 to_91 rfl rfl dX10_led_90 (Nat.le_of_ble_eq_true rfl) (Nat.le_of_ble_eq_true rfl) (eqI ?_)
    refine r_if_eq (tgt := 101) hK dX10_led_93 (by decide) (fun h93 => ?_) (fun h93 => ?_)
    · refine r_iload (i := 10) hK dX10_led_101 rfl ?_
      refine r_istore (i := 10) hK hm dX10_led_103 (by decide) ?_
      refine r_iincc (i := 11) (c := (-1)) hK hm dX10_led_105 rfl (by decide) (by decide) ?_
      refine r_goto (tgt := 78) hK dX10_led_108 (by decide) ?_
      first
        | (have e9 : u = nI j := (by rw [hu, wI_s hj9, hb, if_pos (B1_n.mp h93)]); rw [e9, ← dec_1] at ih2; refine r_loc ?_ ih2; rfl)
        | (have e9 : u = u1 := (by rw [hu, hu1, wI_s hj9, hb, if_neg (by rw [B1_0.mp h93]; decide)]); rw [e9, ← dec_1] at ih2; refine r_loc ?_ ih2; rfl)
    · refine r_iload (i := 11) hK dX10_led_96 rfl ?_
      refine r_goto (tgt := 103) hK dX10_led_98 (by decide) ?_
      refine r_istore (i := 10) hK hm dX10_led_103 (by decide) ?_
      refine r_iincc (i := 11) (c := (-1)) hK hm dX10_led_105 rfl (by decide) (by decide) ?_
      refine r_goto (tgt := 78) hK dX10_led_108 (by decide) ?_
      first
        | (have e9 : u = nI j := (by rw [hu, wI_s hj9, hb, if_pos (B1_n.mp h93)]); rw [e9, ← dec_1] at ih2; refine r_loc ?_ ih2; rfl)
        | (have e9 : u = u1 := (by rw [hu, hu1, wI_s hj9, hb, if_neg (by rw [B1_0.mp h93]; decide)]); rw [e9, ← dec_1] at ih2; refine r_loc ?_ ih2; rfl)
set_option maxHeartbeats 4000000 in
set_option maxRecDepth 100000 in
theorem lm_ld {K : KT} {ad : Nat → Nat} {g : St} {X : LN} (hX : MC g X) {V : VT} (hV : vOk X.1 X.2.2.1 V) (hG : MG g V X.2.2.1.1) {t : Nat} (ht : t < X.1) {x : Int32} (hK : Cx K RX10 cX10_led 6 ad) (hm : K.2.2.1.2.maxLocals = 12) (hnn : Nn K 0 0) {R : LSt}
    (h164 : Wp K 0 0 TT ad g 164 [(2, .int (nI t)), (4, .int x), (5, .int (nI R.2.1)), (7, .int (nI R.2.2.1)), (8, .int (nI R.2.2.2.1)), (9, .int (if R.2.1 = t then 0 else 1))] []) :
    ∀ n (S : LSt), frS X.2.2.1 S.1 ≤ n → S.1 < 64 → S.2.1 < X.1 → ldF X.2.2.1 V t false n S = R → Wp K 0 0 TT ad g 56 [(0, .ref 91), (2, .int (nI t)), (4, .int x), (5, .int (nI S.2.1)), (6, .int (nI S.1)), (7, .int (nI S.2.2.1)), (8, .int (nI S.2.2.2.1)), (9, .int 0)] [] := by
  obtain ⟨hok, hpo, hlaw, x1, hW, hPs, x4⟩ := id hX
  have h10 := hok.2.1
  have h6 := hpo.1
  have hhm : ∀ p, p < X.2.2.1.1 → X.2.2.1.2.1 p < 10 := fun p hp => by have := (hpo.2 p hp).1; omega
  intro n
  induction n with
  | zero =>
    intro S hfr hs hh hw
    have hw2 : S = R := hw
    subst hw2
    by_cases hst : S.2.1 = t
    · have e9 : (if S.2.1 = t then (0 : Int32) else 1) = 0 := if_pos hst
      rw [e9] at h164
      refine r_iload (i := 5) hK dX10_led_56 rfl ?_
      refine r_iload_n (i := 2) hK dX10_led_58 rfl rfl ?_
      refine r_icmp_eq (tgt := 164) hK dX10_led_59 (by decide) (fun _ => ?_) (fun h => absurd (by rw [hst]) h)
      refine r_loc ?_ h164
      rfl
    · have hno : ¬ fdF (ldB X.2.2.1 V S.2.1 S.1) X.2.2.1.1 0 < X.2.2.1.1 := fun z => by
        have hb := fdF_at (p := ldB X.2.2.1 V S.2.1 S.1) X.2.2.1.1 0 (by omega)
        have := frS_lt (P := X.2.2.1) (set := S.1) z (ldB_iff.mp hb).2.2
        omega
      have h111 : Wp K 0 0 TT ad g 111 [(0, .ref 91), (2, .int (nI t)), (4, .int x), (5, .int (nI S.2.1)), (6, .int (nI S.1)), (7, .int (nI S.2.2.1)), (8, .int (nI S.2.2.2.1)), (9, .int 0), (10, .int (wI (ldB X.2.2.1 V S.2.1 S.1) X.2.2.1.1 0))] [] := by
        have e8 : wI (ldB X.2.2.1 V S.2.1 S.1) X.2.2.1.1 0 = -1 := if_neg hno
        rw [e8]
        refine r_iload (i := 10) hK dX10_led_111 rfl ?_
        refine r_if_ge (tgt := 120) hK dX10_led_113 (by decide) (fun h => absurd h (by decide)) (fun _ => ?_)
        refine r_iconst (v := 1) hK dX10_led_116 (by decide) ?_
        refine r_goto (tgt := 121) hK dX10_led_117 (by decide) ?_
        refine r_istore (i := 9) hK hm dX10_led_121 (by decide) ?_
        refine r_iload (i := 9) hK dX10_led_123 rfl ?_
        refine r_if_ne (tgt := 161) hK dX10_led_125 (by decide) (fun _ => ?_) (fun h => absurd h (by decide))
        refine r_goto (tgt := 56) hK dX10_led_161 (by decide) ?_
        refine r_iload (i := 5) hK dX10_led_56 rfl ?_
        refine r_iload_n (i := 2) hK dX10_led_58 rfl rfl ?_
        refine r_icmp_eq (tgt := 164) hK dX10_led_59 (by decide) (fun h => absurd h (fun z => hst (nI_inj (by omega) (by omega) z))) (fun _ => ?_)
        refine r_iload (i := 9) hK dX10_led_62 rfl ?_
        refine r_if_ne (tgt := 164) hK dX10_led_64 (by decide) (fun _ => ?_) (fun h => absurd h (by decide))
        have e9 : (if S.2.1 = t then (0 : Int32) else 1) = 1 := if_neg hst
        rw [e9] at h164
        refine r_loc ?_ h164
        rfl
      refine r_iload (i := 5) hK dX10_led_56 rfl ?_
      refine r_iload_n (i := 2) hK dX10_led_58 rfl rfl ?_
      refine r_icmp_eq (tgt := 164) hK dX10_led_59 (by decide) (fun h => absurd h (fun z => hst (nI_inj (by omega) (by omega) z))) (fun _ => ?_)
      refine r_iload (i := 9) hK dX10_led_62 rfl ?_
      refine r_if_ne (tgt := 164) hK dX10_led_64 (by decide) (fun h => absurd rfl h) (fun _ => ?_)
      refine r_iconst (v := (-1)) hK dX10_led_67 (by decide) ?_
      refine r_istore (i := 10) hK hm dX10_led_68 (by decide) ?_
      refine r_aload_n (i := 0) hK dX10_led_70 rfl rfl ?_
      refine r_getI hK flX10_131 to_91 rfl dX10_led_71 ?_
      refine r_top (y := nI X.2.2.1.1) hPs.1 ?_
      refine r_iconst (v := 1) hK dX10_led_74 (by decide) ?_
      refine r_isub hK dX10_led_75 ?_
      refine r_istore (i := 11) hK hm dX10_led_76 (by decide) ?_
      have h111b := lm_wh (t2 := nI t) (x := x) (x7 := nI S.2.2.1) (x8 := nI S.2.2.2.1) (x9 := 0) hPs h6 hhm hG (set := S.1) (here := S.2.1) (by omega) (by omega) (b := ldB X.2.2.1 V S.2.1 S.1) (fun p => rfl) hK hm hnn h111 X.2.2.1.1 (Nat.le_refl _)
      rw [wI_n] at h111b
      refine r_loc ?_ h111b
      rfl
  | succ n ih =>
    intro S hfr hs hh hw
    by_cases hst : S.2.1 = t
    · have hw2 : S = R := by rw [← hw, ldF_succ, if_pos hst]
      subst hw2
      have e9 : (if S.2.1 = t then (0 : Int32) else 1) = 0 := if_pos hst
      rw [e9] at h164
      refine r_iload (i := 5) hK dX10_led_56 rfl ?_
      refine r_iload_n (i := 2) hK dX10_led_58 rfl rfl ?_
      refine r_icmp_eq (tgt := 164) hK dX10_led_59 (by decide) (fun _ => ?_) (fun h => absurd (by rw [hst]) h)
      refine r_loc ?_ h164
      rfl
    · have h111 : Wp K 0 0 TT ad g 111 [(0, .ref 91), (2, .int (nI t)), (4, .int x), (5, .int (nI S.2.1)), (6, .int (nI S.1)), (7, .int (nI S.2.2.1)), (8, .int (nI S.2.2.2.1)), (9, .int 0), (10, .int (wI (ldB X.2.2.1 V S.2.1 S.1) X.2.2.1.1 0))] [] := by
        by_cases hno : fdF (ldB X.2.2.1 V S.2.1 S.1) X.2.2.1.1 0 < X.2.2.1.1
        · have hb := ldB_iff.mp (fdF_at (p := ldB X.2.2.1 V S.2.1 S.1) X.2.2.1.1 0 (by omega))
          have hM : ¬ ldM X.2.2.1 V S = 0 := fun z => cn_fd.mp z hno
          have hP : ldP X.2.2.1 V false S = fdF (ldB X.2.2.1 V S.2.1 S.1) X.2.2.1.1 0 := ldI_0 hno
          have e8 : wI (ldB X.2.2.1 V S.2.1 S.1) X.2.2.1.1 0 = nI (fdF (ldB X.2.2.1 V S.2.1 S.1) X.2.2.1.1 0) := if_pos hno
          rw [e8]
          have hf9 := frS_lt (P := X.2.2.1) (set := S.1) hno hb.2.2
          have hw3 : ldF X.2.2.1 V t false n (ldS X.2.2.1 V false S) = R := by rw [← hw, ldF_succ, if_neg hst, if_neg hM]
          unfold ldS at hw3
          rw [hP] at hw3
          obtain ⟨p, hpe⟩ : ∃ p, p = fdF (ldB X.2.2.1 V S.2.1 S.1) X.2.2.1.1 0 := ⟨_, rfl⟩
          rw [← hpe] at hno hb hf9 hw3 ⊢
          have hp := hno
          obtain ⟨hb1, hv10, hb3⟩ := hb
          have ih2 := ih (S.1 ||| 1 <<< p, V.1 p, S.2.2.1 + V.2 p, S.2.2.2.1 + 1, if false = true then sdN S.2.2.2.2 else S.2.2.2.2) (by show frS _ (S.1 ||| 1 <<< p) ≤ n; omega) (bit6 hs (by omega)) ((hV.2.2 p hp).2.1 hv10) hw3
          have hv2 := (hV.2.2 p hp).2.2
          refine r_iload (i := 10) hK dX10_led_111 rfl ?_
          refine r_if_ge (tgt := 120) hK dX10_led_113 (by decide) (fun _ => ?_) (fun h => absurd (nI_pos' (by omega)) h)
          refine r_iconst (v := 0) hK dX10_led_120 (by decide) ?_
          refine r_istore (i := 9) hK hm dX10_led_121 (by decide) ?_
          refine r_iload (i := 9) hK dX10_led_123 rfl ?_
          refine r_if_ne (tgt := 161) hK dX10_led_125 (by decide) (fun h => absurd rfl h) (fun _ => ?_)
          refine r_iload (i := 6) hK dX10_led_128 rfl ?_
          refine r_iconst (v := 1) hK dX10_led_130 (by decide) ?_
          refine r_iload (i := 10) hK dX10_led_131 rfl ?_
          refine r_ishl hK dX10_led_133 ?_
          refine r_ior hK dX10_led_134 ?_
          refine r_top (y := nI (S.1 ||| 1 <<< p)) (setbit (by omega)) ?_
          refine r_istore (i := 6) hK hm dX10_led_135 (by decide) ?_
          refine r_iincN (i := 8) hK hm dX10_led_137 rfl (by decide) ?_
          refine r_iload (i := 7) hK dX10_led_140 rfl ?_
          refine r_aload_n (i := 0) hK dX10_led_142 rfl rfl ?_
          refine r_getA hK flX10_77 to_91 rfl dX10_led_143 ?_
          refine r_iload (i := 10) hK dX10_led_146 rfl ?_
          refine r_ialN hK to_113 rfl (by omega) (by decide) (hG p hp).2 dX10_led_148 ?_
          refine r_iadd hK dX10_led_149 ?_
          refine r_top (y := nI (S.2.2.1 + V.2 p)) (nI_add _ _) ?_
          refine r_istore (i := 7) hK hm dX10_led_150 (by decide) ?_
          refine r_aload_n (i := 0) hK dX10_led_152 rfl rfl ?_
          refine r_getA hK flX10_74 to_91 rfl dX10_led_153 ?_
          refine r_iload (i := 10) hK dX10_led_156 rfl ?_
          refine r_ialN hK to_112 rfl (by omega) (by decide) ((hG p hp).1.trans (enI_in hv10)) dX10_led_158 ?_
          refine r_istore (i := 5) hK hm dX10_led_159 (by decide) ?_
          refine r_goto (tgt := 56) hK dX10_led_161 (by decide) ?_
          refine r_loc ?_ ih2
          rfl
        · have hM : ldM X.2.2.1 V S = 0 := cn_fd.mpr hno
          have hw2 : S = R := by rw [← hw, ldF_succ, if_neg hst, if_pos hM]
          subst hw2
          have e8 : wI (ldB X.2.2.1 V S.2.1 S.1) X.2.2.1.1 0 = -1 := if_neg hno
          rw [e8]
          refine r_iload (i := 10) hK dX10_led_111 rfl ?_
          refine r_if_ge (tgt := 120) hK dX10_led_113 (by decide) (fun h => absurd h (by decide)) (fun _ => ?_)
          refine r_iconst (v := 1) hK dX10_led_116 (by decide) ?_
          refine r_goto (tgt := 121) hK dX10_led_117 (by decide) ?_
          refine r_istore (i := 9) hK hm dX10_led_121 (by decide) ?_
          refine r_iload (i := 9) hK dX10_led_123 rfl ?_
          refine r_if_ne (tgt := 161) hK dX10_led_125 (by decide) (fun _ => ?_) (fun h => absurd h (by decide))
          refine r_goto (tgt := 56) hK dX10_led_161 (by decide) ?_
          refine r_iload (i := 5) hK dX10_led_56 rfl ?_
          refine r_iload_n (i := 2) hK dX10_led_58 rfl rfl ?_
          refine r_icmp_eq (tgt := 164) hK dX10_led_59 (by decide) (fun h => absurd h (fun z => hst (nI_inj (by omega) (by omega) z))) (fun _ => ?_)
          refine r_iload (i := 9) hK dX10_led_62 rfl ?_
          refine r_if_ne (tgt := 164) hK dX10_led_64 (by decide) (fun _ => ?_) (fun h => absurd h (by decide))
          have e9 : (if S.2.1 = t then (0 : Int32) else 1) = 1 := if_neg hst
          rw [e9] at h164
          refine r_loc ?_ h164
          rfl
      refine r_iload (i := 5) hK dX10_led_56 rfl ?_
      refine r_iload_n (i := 2) hK dX10_led_58 rfl rfl ?_
      refine r_icmp_eq (tgt := 164) hK dX10_led_59 (by decide) (fun h => absurd h (fun z => hst (nI_inj (by omega) (by omega) z))) (fun _ => ?_)
      refine r_iload (i := 9) hK dX10_led_62 rfl ?_
      refine r_if_ne (tgt := 164) hK dX10_led_64 (by decide) (fun h => absurd rfl h) (fun _ => ?_)
      refine r_iconst (v := (-1)) hK dX10_led_67 (by decide) ?_
      refine r_istore (i := 10) hK hm dX10_led_68 (by decide) ?_
      refine r_aload_n (i := 0) hK dX10_led_70 rfl rfl ?_
      refine r_getI hK flX10_131 to_91 rfl dX10_led_71 ?_
      refine r_top (y := nI X.2.2.1.1) hPs.1 ?_
      refine r_iconst (v := 1) hK dX10_led_74 (by decide) ?_
      refine r_isub hK dX10_led_75 ?_
      refine r_istore (i := 11) hK hm dX10_led_76 (by decide) ?_
      have h111b := lm_wh (t2 := nI t) (x := x) (x7 := nI S.2.2.1) (x8 := nI S.2.2.2.1) (x9 := 0) hPs h6 hhm hG (set := S.1) (here := S.2.1) (by omega) (by omega) (b := ldB X.2.2.1 V S.2.1 S.1) (fun p => rfl) hK hm hnn h111 X.2.2.1.1 (Nat.le_refl _)
      rw [wI_n] at h111b
      refine r_loc ?_ h111b
      rfl
set_option maxHeartbeats 4000000 in
set_option maxRecDepth 100000 in
theorem c_mLed {ad : Nat → Nat} {g : St} {X : LN} (hX : MC g X) {a t x y : Int32} {own : Bool} (hy : y = B1 own) : Ci 6 mX10_led [.ref 91, .int a, .int t, .int y, .int x] ad g (fun v g' => v = aLed X a t own x ∧ FM g g') := by
  subst hy
  obtain ⟨hok, hpo, hlaw, x1, hW, hPs, x4⟩ := id hX
  have h10 := hok.2.1
  have h6 := hpo.1
  have h14 := hok.1
  refine Cm.mk rfl (Nat.le_of_ble_eq_true rfl) (fun K hK hR hm hnn => ?_)
  refine r_aload_n (i := 0) hK dX10_led_0 rfl rfl ?_
  refine r_iload_n (i := 1) hK dX10_led_1 rfl rfl ?_
  refine r_ci1 hK hnn (c_misPlace x1 (by omega)) moX10_isPlace mlX10_256 to_91 rfl rfl dX10_led_2 (Nat.le_of_ble_eq_true rfl) (Nat.le_of_ble_eq_true rfl) (eqI ?_)
  refine r_if_eq (tgt := 16) hK dX10_led_5 (by decide) (fun h5 => ?_) (fun h5 => ?_)
  · refine r_ldc hK ckX10_242 dX10_led_16 ?_
    refine q_iret hK hR dX10_led_18 ?_
    refine ⟨?_, FM.rf⟩
    unfold aLed
    first
      | (rw [if_neg (by rw [B1_0.mp h5]; simp)]; done)
      | (rw [if_neg (by rw [B1_0.mp h13]; simp)]; done)
  · refine r_aload_n (i := 0) hK dX10_led_8 rfl rfl ?_
    refine r_iload_n (i := 2) hK dX10_led_9 rfl rfl ?_
    refine r_ci1 hK hnn (c_misPlace x1 (by omega)) moX10_isPlace mlX10_256 to_91 rfl rfl dX10_led_10 (Nat.le_of_ble_eq_true rfl) (Nat.le_of_ble_eq_true rfl) (eqI ?_)
    refine r_if_ne (tgt := 19) hK dX10_led_13 (by decide) (fun h13 => ?_) (fun h13 => ?_)
    · refine r_iload (i := 4) hK dX10_led_19 rfl ?_
      refine r_i2l hK dX10_led_21 ?_
      refine r_lconst (v := 0) hK dX10_led_22 (by decide) ?_
      refine r_ldc2 hK ckX10_246 dX10_led_23 ?_
      refine r_si3 hK hnn c_mIn moX10_in mlX10_124 dX10_led_26 (Nat.le_of_ble_eq_true rfl) (Nat.le_of_ble_eq_true rfl) (eqI ?_)
      refine r_top (y := B1 (bI x 0 3)) (congrArg B1 (inL_b (lI := 0) (hI := 3) rfl rfl)) ?_
      refine r_if_ne (tgt := 35) hK dX10_led_29 (by decide) (fun h29 => ?_) (fun h29 => ?_)
      · refine r_aload_n (i := 0) hK dX10_led_35 rfl rfl ?_
        have hb1 := B1_n.mp h5
        have hb2 := B1_n.mp h13
        have hbb : (isB a X.1 && isB t X.1) = true := by rw [hb1, hb2]; rfl
        have hor := bI_t.mp (B1_n.mp h29)
        obtain ⟨ha1, ha2⟩ := isB_cl (by omega) hb1
        obtain ⟨ht1, ht2⟩ := isB_cl (by omega) hb2
        refine r_iload_n (i := 2) hK dX10_led_36 rfl rfl ?_
        refine r_iload_n (i := 3) hK dX10_led_37 rfl rfl ?_
        refine r_cv2 hK hnn (c_mFindEnds hX ht2 ht1 rfl) moX10_findEnds mlX10_295 to_91 rfl rfl dX10_led_38 (Nat.le_of_ble_eq_true rfl) (Nat.le_of_ble_eq_true rfl) (fun g38 q38 => ?_)
        obtain ⟨hfr, hG⟩ := q38
        refine r_iload_n (i := 1) hK dX10_led_41 rfl rfl ?_
        refine r_istore (i := 5) hK hm dX10_led_42 (by decide) ?_
        refine r_iconst (v := 0) hK dX10_led_44 (by decide) ?_
        refine r_istore (i := 6) hK hm dX10_led_45 (by decide) ?_
        refine r_iconst (v := 0) hK dX10_led_47 (by decide) ?_
        refine r_istore (i := 7) hK hm dX10_led_48 (by decide) ?_
        refine r_iconst (v := 0) hK dX10_led_50 (by decide) ?_
        refine r_istore (i := 8) hK hm dX10_led_51 (by decide) ?_
        refine r_iconst (v := 0) hK dX10_led_53 (by decide) ?_
        refine r_istore (i := 9) hK hm dX10_led_54 (by decide) ?_
        have h164 : Wp K 0 0 TT ad g38 164 [(2, .int (nI (nC t))), (4, .int x), (5, .int (nI (lX X (nC a) (nC t) own).2.1)), (7, .int (nI (lX X (nC a) (nC t) own).2.2.1)), (8, .int (nI (lX X (nC a) (nC t) own).2.2.2.1)), (9, .int (if (lX X (nC a) (nC t) own).2.1 = nC t then 0 else 1))] [] := by
          refine r_iload (i := 4) hK dX10_led_164 rfl ?_
          refine r_if_ne (tgt := 174) hK dX10_led_166 (by decide) (fun h166 => ?_) (fun h166 => ?_)
          · refine r_iload (i := 4) hK dX10_led_174 rfl ?_
            refine r_iconst (v := 1) hK dX10_led_176 (by decide) ?_
            refine r_icmp_ne (tgt := 185) hK dX10_led_177 (by decide) (fun h177 => ?_) (fun h177 => ?_)
            · refine r_iload (i := 4) hK dX10_led_185 rfl ?_
              refine r_iconst (v := 2) hK dX10_led_187 (by decide) ?_
              refine r_icmp_ne (tgt := 204) hK dX10_led_188 (by decide) (fun h188 => ?_) (fun h188 => ?_)
              · refine r_iload (i := 8) hK dX10_led_204 rfl ?_
                refine q_iret hK hR dX10_led_206 ?_
                refine ⟨?_, hfr⟩
                unfold aLed
                rw [if_pos hbb, if_neg hor]
                first
                  | (rw [if_pos h166]; done)
                  | (rw [if_neg h166, if_pos h177]; done)
                  | (rw [if_neg h166, if_neg h177, if_neg h188]; done)
                  | (rw [if_neg h166, if_neg h177, if_pos h188]; exact h193.symm)
                  | (rw [if_neg h166, if_neg h177, if_pos h188]; by_cases hst : (lX X (nC a) (nC t) own).2.1 = nC t; exact absurd (if_pos hst) h193; exact (if_neg hst).symm)
              · refine r_iload (i := 9) hK dX10_led_191 rfl ?_
                refine r_if_eq (tgt := 200) hK dX10_led_193 (by decide) (fun h193 => ?_) (fun h193 => ?_)
                · refine r_iconst (v := 0) hK dX10_led_200 (by decide) ?_
                  refine r_goto (tgt := 206) hK dX10_led_201 (by decide) ?_
                  refine q_iret hK hR dX10_led_206 ?_
                  refine ⟨?_, hfr⟩
                  unfold aLed
                  rw [if_pos hbb, if_neg hor]
                  first
                    | (rw [if_pos h166]; done)
                    | (rw [if_neg h166, if_pos h177]; done)
                    | (rw [if_neg h166, if_neg h177, if_neg h188]; done)
                    | (rw [if_neg h166, if_neg h177, if_pos h188]; exact h193.symm)
                    | (rw [if_neg h166, if_neg h177, if_pos h188]; by_cases hst : (lX X (nC a) (nC t) own).2.1 = nC t; exact absurd (if_pos hst) h193; exact (if_neg hst).symm)
                · refine r_iconst (v := 1) hK dX10_led_196 (by decide) ?_
                  refine r_goto (tgt := 206) hK dX10_led_197 (by decide) ?_
                  refine q_iret hK hR dX10_led_206 ?_
                  refine ⟨?_, hfr⟩
                  unfold aLed
                  rw [if_pos hbb, if_neg hor]
                  first
                    | (rw [if_pos h166]; done)
                    | (rw [if_neg h166, if_pos h177]; done)
                    | (rw [if_neg h166, if_neg h177, if_neg h188]; done)
                    | (rw [if_neg h166, if_neg h177, if_pos h188]; exact h193.symm)
                    | (rw [if_neg h166, if_neg h177, if_pos h188]; by_cases hst : (lX X (nC a) (nC t) own).2.1 = nC t; exact absurd (if_pos hst) h193; exact (if_neg hst).symm)
            · refine r_iload (i := 5) hK dX10_led_180 rfl ?_
              refine r_goto (tgt := 206) hK dX10_led_182 (by decide) ?_
              refine q_iret hK hR dX10_led_206 ?_
              refine ⟨?_, hfr⟩
              unfold aLed
              rw [if_pos hbb, if_neg hor]
              first
                | (rw [if_pos h166]; done)
                | (rw [if_neg h166, if_pos h177]; done)
                | (rw [if_neg h166, if_neg h177, if_neg h188]; done)
                | (rw [if_neg h166, if_neg h177, if_pos h188]; exact h193.symm)
                | (rw [if_neg h166, if_neg h177, if_pos h188]; by_cases hst : (lX X (nC a) (nC t) own).2.1 = nC t; exact absurd (if_pos hst) h193; exact (if_neg hst).symm)
          · refine r_iload (i := 7) hK dX10_led_169 rfl ?_
            refine r_goto (tgt := 206) hK dX10_led_171 (by decide) ?_
            refine q_iret hK hR dX10_led_206 ?_
            refine ⟨?_, hfr⟩
            unfold aLed
            rw [if_pos hbb, if_neg hor]
            first
              | (rw [if_pos h166]; done)
              | (rw [if_neg h166, if_pos h177]; done)
              | (rw [if_neg h166, if_neg h177, if_neg h188]; done)
              | (rw [if_neg h166, if_neg h177, if_pos h188]; exact h193.symm)
              | (rw [if_neg h166, if_neg h177, if_pos h188]; by_cases hst : (lX X (nC a) (nC t) own).2.1 = nC t; exact absurd (if_pos hst) h193; exact (if_neg hst).symm)
        refine r_loc ?_ (lm_ld (MC_of hX hfr) (VV_ok hok hpo _ _ _) hG ht1 hK hm hnn h164 6 (0, nC a, 0, 0, 0) (Nat.le_trans (sp_cn_le _ _) h6) (by show 0 < 64; omega) ha1 rfl)
        simp only [List.map_cons, List.map_nil]
        rw [← ha2, ← ht2]
        rfl
      · refine r_ldc hK ckX10_136 dX10_led_32 ?_
        refine q_iret hK hR dX10_led_34 ?_
        refine ⟨?_, FM.rf⟩
        unfold aLed
        rw [if_pos (by rw [B1_n.mp h5, B1_n.mp h13]; rfl), if_pos (bI_f.mp (B1_0.mp h29))]
    · refine r_ldc hK ckX10_242 dX10_led_16 ?_
      refine q_iret hK hR dX10_led_18 ?_
      refine ⟨?_, FM.rf⟩
      unfold aLed
      first
        | (rw [if_neg (by rw [B1_0.mp h5]; simp)]; done)
        | (rw [if_neg (by rw [B1_0.mp h13]; simp)]; done)
