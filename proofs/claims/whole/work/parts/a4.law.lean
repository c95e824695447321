/-! THE LAW: its cases, its loop -/
abbrev LW (i : Nat) : List (Nat × Value) := [(0, .ref 2000), (1, .ref 0), (2, .ref 91), (3, .int (nI i))]
theorem r_sld {K : KT} {n1 n2 : Nat} {T : List TC} {ad : Nat → Nat} {g : St} {pc : Nat} {lv : List (Nat × Value)} {st : List Value} {own : String} {cc : ByteArray} {d : Nat} (hK : Cx K own cc d ad) {L : Nat} {xs : Nat → Int32} (hX : va_X (ad 2000) L xs K.2.1.1 K.2.1.1.heap ∧ ad 2000 < K.2.1.1.heap.size ∧ ¬ K.2.2.2.1.2.2 (ad 2000)) {i : Int32} {j : Nat} (hi : i = nI j) (hj : j < L) (hL : L ≤ 320) (hd : decode cc pc = .ok (.iaload, 1)) (k : Wp K n1 n2 T ad g (pc + 1) lv (.int (xs j) :: st)) : Wp K n1 n2 T ad g pc lv (.int i :: .ref 2000 :: st) := by
  intro H locs ls hP hD hS hl
  subst hi
  have := k H locs ls hP hD hS hl
  rw [show j = (nI j).toNatClampNeg from (nI_clamp (by omega)).symm] at this
  have h2 := va_sld (rest := st.map (vv ad)) hK.1 hK.2.1 hX.1 hX.2.1 hX.2.2 hS (vp_in_nI hj (by omega)) hd this
  exact h2
theorem r_slen9 {K : KT} {n1 n2 : Nat} {T : List TC} {ad : Nat → Nat} {g : St} {pc : Nat} {lv : List (Nat × Value)} {st : List Value} {own : String} {cc : ByteArray} {d : Nat} (hK : Cx K own cc d ad) {L : Nat} {xs : Nat → Int32} (hX : va_X (ad 2000) L xs K.2.1.1 K.2.1.1.heap ∧ ad 2000 < K.2.1.1.heap.size ∧ ¬ K.2.2.2.1.2.2 (ad 2000)) (hd : decode cc pc = .ok (.arraylength, 1)) (k : Wp K n1 n2 T ad g (pc + 1) lv (.int (nI L) :: st)) : Wp K n1 n2 T ad g pc lv (.ref 2000 :: st) := by
  intro H locs ls hP hD hS hl
  exact va_slen hK.1 hK.2.1 hX.1 hX.2.1 hX.2.2 hS hd (k H locs ls hP hD hS hl)
/-- an int of the script -/
theorem r_sc {K : KT} {n1 n2 : Nat} {T : List TC} {ad : Nat → Nat} {g : St} {pc : Nat} {st : List Value} {own : String} {cc : ByteArray} {d : Nat} (hK : Cx K own cc d ad) {L i c : Nat} {xs : Nat → Int32} {ci : Int} (hX : va_X (ad 2000) L xs K.2.1.1 K.2.1.1.heap ∧ ad 2000 < K.2.1.1.heap.size ∧ ¬ K.2.2.2.1.2.2 (ad 2000)) (hj : i + c < L) (hL : L ≤ 320) (hc : Int32.ofInt ci = nI c) (d0 : decode cc pc = .ok (.aload_n 0, 1)) (d1 : decode cc (pc + 1) = .ok (.iload_n 3, 1)) (d2 : decode cc (pc + 2) = .ok (.iconst ci, 1)) (d3 : decode cc (pc + 3) = .ok (.iadd, 1)) (d4 : decode cc (pc + 4) = .ok (.iaload, 1)) (k : Wp K n1 n2 T ad g (pc + 5) (LW i) (.int (xs (i + c)) :: st)) : Wp K n1 n2 T ad g pc (LW i) st := by
  refine r_aload_n (i := 0) hK d0 rfl rfl ?_
  refine r_iload_n (i := 3) hK d1 rfl rfl ?_
  refine r_iconst (v := nI c) hK d2 hc ?_
  refine r_iadd hK d3 ?_
  exact r_sld hK hX (nI_add i c) hj hL d4 k
def nz (x : Int32) : Bool := !decide (x = 0)
theorem r_ne0 {K : KT} {n1 n2 : Nat} {T : List TC} {ad : Nat → Nat} {g : St} {pc : Nat} {lv : List (Nat × Value)} {st : List Value} {own : String} {cc : ByteArray} {d : Nat} (hK : Cx K own cc d ad) {x : Int32} {t1 t2 : Nat} (ht1 : t1 = pc + 7) (ht2 : t2 = pc + 8) (d0 : decode cc pc = .ok (.ifCond .eq 7, 3)) (d1 : decode cc (pc + 3) = .ok (.iconst 1, 1)) (d2 : decode cc (pc + 4) = .ok (.goto 4, 3)) (d3 : decode cc t1 = .ok (.iconst 0, 1)) (k : Wp K n1 n2 T ad g t2 lv (.int (B1 (nz x)) :: st)) : Wp K n1 n2 T ad g pc lv (.int x :: st) := by
  subst ht1 ht2
  refine r_if_eq (tgt := pc + 7) hK d0 (by omega) (fun h => ?_) (fun h => ?_)
  · refine r_iconst (v := 0) hK d3 (by decide) ?_
    rw [show nz x = false from by unfold nz; rw [decide_eq_true h]; rfl] at k
    exact k
  · refine r_iconst (v := 1) hK d1 (by decide) ?_
    refine r_goto (tgt := pc + 8) hK d2 (by omega) ?_
    rw [show nz x = true from by unfold nz; rw [decide_eq_false h]; rfl] at k
    exact k
set_option maxHeartbeats 4000000 in
set_option maxRecDepth 100000 in
theorem lk_0 {K : KT} {n1 n2 : Nat} {ad : Nat → Nat} {g : St} {σ : SG} {L i : Nat} {xs : Nat → Int32} (hK : Cx K RL cL_law 1000 ad) (hnn : Nn K n1 n2) (hX : va_X (ad 2000) L xs K.2.1.1 K.2.1.1.heap ∧ ad 2000 < K.2.1.1.heap.size ∧ ¬ K.2.2.2.1.2.2 (ad 2000)) (hL : L ≤ 320) (hi : i + 5 ≤ L) (h1 : CS g σ) (h2 : MS g σ) (k : ∀ g' σ', CS g' σ' → MS g' σ' → Wp K n1 n2 TT ad g' 1193 (LW i) []) : Wp K n1 n2 TT ad g 164 (LW i) [] := by
  refine r_aload_n (i := 1) hK dL_law_164 rfl rfl ?_
  refine r_sc (c := 1) hK hX (by omega) hL rfl dL_law_165 dL_law_166 dL_law_167 dL_law_168 dL_law_169 ?_
  refine r_sc (c := 2) hK hX (by omega) hL rfl dL_law_170 dL_law_171 dL_law_172 dL_law_173 dL_law_174 ?_
  refine r_i2l hK dL_law_175 ?_
  refine r_bipush (v := 32) hK dL_law_176 (by decide) ?_
  refine r_lshl hK dL_law_178 ?_
  refine r_sc (c := 3) hK hX (by omega) hL rfl dL_law_179 dL_law_180 dL_law_181 dL_law_182 dL_law_183 ?_
  refine r_i2l hK dL_law_184 ?_
  refine r_ldc2 hK ckL_13 dL_law_185 ?_
  refine r_land hK dL_law_188 ?_
  refine r_lor hK dL_law_189 ?_
  refine r_ci2 hK hnn (x_feed h1) moX9_feed mlL_15 to_0 rfl rfl dL_law_190 (Nat.le_of_ble_eq_true rfl) (Nat.le_of_ble_eq_true rfl) (fun vg1 g1 q => ?_)
  obtain ⟨rfl, c1, f1⟩ := q
  refine r_aload_n (i := 2) hK dL_law_193 rfl rfl ?_
  refine r_sc (c := 1) hK hX (by omega) hL rfl dL_law_194 dL_law_195 dL_law_196 dL_law_197 dL_law_198 ?_
  refine r_sc (c := 2) hK hX (by omega) hL rfl dL_law_199 dL_law_200 dL_law_201 dL_law_202 dL_law_203 ?_
  refine r_i2l hK dL_law_204 ?_
  refine r_bipush (v := 32) hK dL_law_205 (by decide) ?_
  refine r_lshl hK dL_law_207 ?_
  refine r_sc (c := 3) hK hX (by omega) hL rfl dL_law_208 dL_law_209 dL_law_210 dL_law_211 dL_law_212 ?_
  refine r_i2l hK dL_law_213 ?_
  refine r_ldc2 hK ckL_13 dL_law_214 ?_
  refine r_land hK dL_law_217 ?_
  refine r_lor hK dL_law_218 ?_
  refine r_ci2 hK hnn (y_feed (MS_lo h2 f1)) moX10_feed mlL_19 to_91 rfl rfl dL_law_219 (Nat.le_of_ble_eq_true rfl) (Nat.le_of_ble_eq_true rfl) (fun vg2 g2 q => ?_)
  obtain ⟨rfl, m2, f2⟩ := q
  exact r_icmp_eq (tgt := 1193) hK dL_law_222 (by decide) (fun _ => k _ _ (CS_hi c1 f2) m2) (fun h => absurd rfl h)
set_option maxHeartbeats 4000000 in
set_option maxRecDepth 100000 in
theorem lk_1 {K : KT} {n1 n2 : Nat} {ad : Nat → Nat} {g : St} {σ : SG} {L i : Nat} {xs : Nat → Int32} (hK : Cx K RL cL_law 1000 ad) (hnn : Nn K n1 n2) (hX : va_X (ad 2000) L xs K.2.1.1 K.2.1.1.heap ∧ ad 2000 < K.2.1.1.heap.size ∧ ¬ K.2.2.2.1.2.2 (ad 2000)) (hL : L ≤ 320) (hi : i + 5 ≤ L) (h1 : CS g σ) (h2 : MS g σ) (k : ∀ g' σ', CS g' σ' → MS g' σ' → Wp K n1 n2 TT ad g' 1193 (LW i) []) : Wp K n1 n2 TT ad g 227 (LW i) [] := by
  refine r_aload_n (i := 1) hK dL_law_227 rfl rfl ?_
  refine r_ci0 hK hnn (x_land h1) moX9_land mlL_20 to_0 rfl rfl dL_law_228 (Nat.le_of_ble_eq_true rfl) (Nat.le_of_ble_eq_true rfl) (fun vg1 g1 q => ?_)
  obtain ⟨rfl, c1, f1⟩ := q
  refine r_aload_n (i := 2) hK dL_law_231 rfl rfl ?_
  refine r_ci0 hK hnn (y_land (MS_lo h2 f1)) moX10_land mlL_24 to_91 rfl rfl dL_law_232 (Nat.le_of_ble_eq_true rfl) (Nat.le_of_ble_eq_true rfl) (fun vg2 g2 q => ?_)
  obtain ⟨rfl, m2, f2⟩ := q
  exact r_icmp_eq (tgt := 1193) hK dL_law_235 (by decide) (fun _ => k _ _ (CS_hi c1 f2) m2) (fun h => absurd rfl h)
set_option maxHeartbeats 4000000 in
set_option maxRecDepth 100000 in
theorem lk_2 {K : KT} {n1 n2 : Nat} {ad : Nat → Nat} {g : St} {σ : SG} {L i : Nat} {xs : Nat → Int32} (hK : Cx K RL cL_law 1000 ad) (hnn : Nn K n1 n2) (hX : va_X (ad 2000) L xs K.2.1.1 K.2.1.1.heap ∧ ad 2000 < K.2.1.1.heap.size ∧ ¬ K.2.2.2.1.2.2 (ad 2000)) (hL : L ≤ 320) (hi : i + 5 ≤ L) (h1 : CS g σ) (h2 : MS g σ) (k : ∀ g' σ', CS g' σ' → MS g' σ' → Wp K n1 n2 TT ad g' 1193 (LW i) []) : Wp K n1 n2 TT ad g 240 (LW i) [] := by
  refine r_aload_n (i := 1) hK dL_law_240 rfl rfl ?_
  refine r_ci0 hK hnn (x_fault h1) moX9_fault mlL_25 to_0 rfl rfl dL_law_241 (Nat.le_of_ble_eq_true rfl) (Nat.le_of_ble_eq_true rfl) (fun vg1 g1 q => ?_)
  obtain ⟨rfl, c1, f1⟩ := q
  refine r_aload_n (i := 2) hK dL_law_244 rfl rfl ?_
  refine r_ci0 hK hnn (y_fault (MS_lo h2 f1)) moX10_fault mlL_28 to_91 rfl rfl dL_law_245 (Nat.le_of_ble_eq_true rfl) (Nat.le_of_ble_eq_true rfl) (fun vg2 g2 q => ?_)
  obtain ⟨rfl, m2, f2⟩ := q
  exact r_icmp_eq (tgt := 1193) hK dL_law_248 (by decide) (fun _ => k _ _ (CS_hi c1 f2) m2) (fun h => absurd rfl h)
set_option maxHeartbeats 4000000 in
set_option maxRecDepth 100000 in
theorem lk_3 {K : KT} {n1 n2 : Nat} {ad : Nat → Nat} {g : St} {σ : SG} {L i : Nat} {xs : Nat → Int32} (hK : Cx K RL cL_law 1000 ad) (hnn : Nn K n1 n2) (hX : va_X (ad 2000) L xs K.2.1.1 K.2.1.1.heap ∧ ad 2000 < K.2.1.1.heap.size ∧ ¬ K.2.2.2.1.2.2 (ad 2000)) (hL : L ≤ 320) (hi : i + 5 ≤ L) (h1 : CS g σ) (h2 : MS g σ) (k : ∀ g' σ', CS g' σ' → MS g' σ' → Wp K n1 n2 TT ad g' 1193 (LW i) []) : Wp K n1 n2 TT ad g 253 (LW i) [] := by
  refine r_aload_n (i := 1) hK dL_law_253 rfl rfl ?_
  refine r_sc (c := 1) hK hX (by omega) hL rfl dL_law_254 dL_law_255 dL_law_256 dL_law_257 dL_law_258 ?_
  refine r_ci1 hK hnn (x_told h1) moX9_told mlL_29 to_0 rfl rfl dL_law_259 (Nat.le_of_ble_eq_true rfl) (Nat.le_of_ble_eq_true rfl) (fun vg1 g1 q => ?_)
  obtain ⟨rfl, c1, f1⟩ := q
  refine r_aload_n (i := 2) hK dL_law_262 rfl rfl ?_
  refine r_sc (c := 1) hK hX (by omega) hL rfl dL_law_263 dL_law_264 dL_law_265 dL_law_266 dL_law_267 ?_
  refine r_ci1 hK hnn (y_told (MS_lo h2 f1)) moX10_told mlL_33 to_91 rfl rfl dL_law_268 (Nat.le_of_ble_eq_true rfl) (Nat.le_of_ble_eq_true rfl) (fun vg2 g2 q => ?_)
  obtain ⟨rfl, m2, f2⟩ := q
  exact r_icmp_eq (tgt := 1193) hK dL_law_271 (by decide) (fun _ => k _ _ (CS_hi c1 f2) m2) (fun h => absurd rfl h)
set_option maxHeartbeats 4000000 in
set_option maxRecDepth 100000 in
theorem lk_4 {K : KT} {n1 n2 : Nat} {ad : Nat → Nat} {g : St} {σ : SG} {L i : Nat} {xs : Nat → Int32} (hK : Cx K RL cL_law 1000 ad) (hnn : Nn K n1 n2) (hX : va_X (ad 2000) L xs K.2.1.1 K.2.1.1.heap ∧ ad 2000 < K.2.1.1.heap.size ∧ ¬ K.2.2.2.1.2.2 (ad 2000)) (hL : L ≤ 320) (hi : i + 5 ≤ L) (h1 : CS g σ) (h2 : MS g σ) (k : ∀ g' σ', CS g' σ' → MS g' σ' → Wp K n1 n2 TT ad g' 1193 (LW i) []) : Wp K n1 n2 TT ad g 276 (LW i) [] := by
  refine r_aload_n (i := 1) hK dL_law_276 rfl rfl ?_
  refine r_sc (c := 1) hK hX (by omega) hL rfl dL_law_277 dL_law_278 dL_law_279 dL_law_280 dL_law_281 ?_
  refine r_sc (c := 2) hK hX (by omega) hL rfl dL_law_282 dL_law_283 dL_law_284 dL_law_285 dL_law_286 ?_
  refine r_ci2 hK hnn (x_way h1) moX9_way mlL_34 to_0 rfl rfl dL_law_287 (Nat.le_of_ble_eq_true rfl) (Nat.le_of_ble_eq_true rfl) (fun vg1 g1 q => ?_)
  obtain ⟨rfl, c1, f1⟩ := q
  refine r_aload_n (i := 2) hK dL_law_290 rfl rfl ?_
  refine r_sc (c := 1) hK hX (by omega) hL rfl dL_law_291 dL_law_292 dL_law_293 dL_law_294 dL_law_295 ?_
  refine r_sc (c := 2) hK hX (by omega) hL rfl dL_law_296 dL_law_297 dL_law_298 dL_law_299 dL_law_300 ?_
  refine r_ci2 hK hnn (y_way (MS_lo h2 f1)) moX10_way mlL_38 to_91 rfl rfl dL_law_301 (Nat.le_of_ble_eq_true rfl) (Nat.le_of_ble_eq_true rfl) (fun vg2 g2 q => ?_)
  obtain ⟨rfl, m2, f2⟩ := q
  exact r_icmp_eq (tgt := 1193) hK dL_law_304 (by decide) (fun _ => k _ _ (CS_hi c1 f2) m2) (fun h => absurd rfl h)
set_option maxHeartbeats 4000000 in
set_option maxRecDepth 100000 in
theorem lk_5 {K : KT} {n1 n2 : Nat} {ad : Nat → Nat} {g : St} {σ : SG} {L i : Nat} {xs : Nat → Int32} (hK : Cx K RL cL_law 1000 ad) (hnn : Nn K n1 n2) (hX : va_X (ad 2000) L xs K.2.1.1 K.2.1.1.heap ∧ ad 2000 < K.2.1.1.heap.size ∧ ¬ K.2.2.2.1.2.2 (ad 2000)) (hL : L ≤ 320) (hi : i + 5 ≤ L) (h1 : CS g σ) (h2 : MS g σ) (k : ∀ g' σ', CS g' σ' → MS g' σ' → Wp K n1 n2 TT ad g' 1193 (LW i) []) : Wp K n1 n2 TT ad g 309 (LW i) [] := by
  refine r_aload_n (i := 1) hK dL_law_309 rfl rfl ?_
  refine r_sc (c := 1) hK hX (by omega) hL rfl dL_law_310 dL_law_311 dL_law_312 dL_law_313 dL_law_314 ?_
  refine r_sc (c := 2) hK hX (by omega) hL rfl dL_law_315 dL_law_316 dL_law_317 dL_law_318 dL_law_319 ?_
  refine r_ci2 hK hnn (x_person h1) moX9_person mlL_39 to_0 rfl rfl dL_law_320 (Nat.le_of_ble_eq_true rfl) (Nat.le_of_ble_eq_true rfl) (fun vg1 g1 q => ?_)
  obtain ⟨rfl, c1, f1⟩ := q
  refine r_aload_n (i := 2) hK dL_law_323 rfl rfl ?_
  refine r_sc (c := 1) hK hX (by omega) hL rfl dL_law_324 dL_law_325 dL_law_326 dL_law_327 dL_law_328 ?_
  refine r_sc (c := 2) hK hX (by omega) hL rfl dL_law_329 dL_law_330 dL_law_331 dL_law_332 dL_law_333 ?_
  refine r_ci2 hK hnn (y_person (MS_lo h2 f1)) moX10_person mlL_42 to_91 rfl rfl dL_law_334 (Nat.le_of_ble_eq_true rfl) (Nat.le_of_ble_eq_true rfl) (fun vg2 g2 q => ?_)
  obtain ⟨rfl, m2, f2⟩ := q
  exact r_icmp_eq (tgt := 1193) hK dL_law_337 (by decide) (fun _ => k _ _ (CS_hi c1 f2) m2) (fun h => absurd rfl h)
set_option maxHeartbeats 4000000 in
set_option maxRecDepth 100000 in
theorem lk_6 {K : KT} {n1 n2 : Nat} {ad : Nat → Nat} {g : St} {σ : SG} {L i : Nat} {xs : Nat → Int32} (hK : Cx K RL cL_law 1000 ad) (hnn : Nn K n1 n2) (hX : va_X (ad 2000) L xs K.2.1.1 K.2.1.1.heap ∧ ad 2000 < K.2.1.1.heap.size ∧ ¬ K.2.2.2.1.2.2 (ad 2000)) (hL : L ≤ 320) (hi : i + 5 ≤ L) (h1 : CS g σ) (h2 : MS g σ) (k : ∀ g' σ', CS g' σ' → MS g' σ' → Wp K n1 n2 TT ad g' 1193 (LW i) []) : Wp K n1 n2 TT ad g 342 (LW i) [] := by
  refine r_aload_n (i := 1) hK dL_law_342 rfl rfl ?_
  refine r_sc (c := 1) hK hX (by omega) hL rfl dL_law_343 dL_law_344 dL_law_345 dL_law_346 dL_law_347 ?_
  refine r_sc (c := 2) hK hX (by omega) hL rfl dL_law_348 dL_law_349 dL_law_350 dL_law_351 dL_law_352 ?_
  refine r_ci2 hK hnn (x_far h1) moX9_far mlL_43 to_0 rfl rfl dL_law_353 (Nat.le_of_ble_eq_true rfl) (Nat.le_of_ble_eq_true rfl) (fun vg1 g1 q => ?_)
  obtain ⟨rfl, c1, f1⟩ := q
  refine r_aload_n (i := 2) hK dL_law_356 rfl rfl ?_
  refine r_sc (c := 1) hK hX (by omega) hL rfl dL_law_357 dL_law_358 dL_law_359 dL_law_360 dL_law_361 ?_
  refine r_sc (c := 2) hK hX (by omega) hL rfl dL_law_362 dL_law_363 dL_law_364 dL_law_365 dL_law_366 ?_
  refine r_ci2 hK hnn (y_far (MS_lo h2 f1)) moX10_far mlL_46 to_91 rfl rfl dL_law_367 (Nat.le_of_ble_eq_true rfl) (Nat.le_of_ble_eq_true rfl) (fun vg2 g2 q => ?_)
  obtain ⟨rfl, m2, f2⟩ := q
  exact r_icmp_eq (tgt := 1193) hK dL_law_370 (by decide) (fun _ => k _ _ (CS_hi c1 f2) m2) (fun h => absurd rfl h)
set_option maxHeartbeats 4000000 in
set_option maxRecDepth 100000 in
theorem lk_7 {K : KT} {n1 n2 : Nat} {ad : Nat → Nat} {g : St} {σ : SG} {L i : Nat} {xs : Nat → Int32} (hK : Cx K RL cL_law 1000 ad) (hnn : Nn K n1 n2) (hX : va_X (ad 2000) L xs K.2.1.1 K.2.1.1.heap ∧ ad 2000 < K.2.1.1.heap.size ∧ ¬ K.2.2.2.1.2.2 (ad 2000)) (hL : L ≤ 320) (hi : i + 5 ≤ L) (h1 : CS g σ) (h2 : MS g σ) (k : ∀ g' σ', CS g' σ' → MS g' σ' → Wp K n1 n2 TT ad g' 1193 (LW i) []) : Wp K n1 n2 TT ad g 375 (LW i) [] := by
  refine r_aload_n (i := 1) hK dL_law_375 rfl rfl ?_
  refine r_sc (c := 1) hK hX (by omega) hL rfl dL_law_376 dL_law_377 dL_law_378 dL_law_379 dL_law_380 ?_
  refine r_ci1 hK hnn (x_law h1) moX9_law mlL_47 to_0 rfl rfl dL_law_381 (Nat.le_of_ble_eq_true rfl) (Nat.le_of_ble_eq_true rfl) (fun vg1 g1 q => ?_)
  obtain ⟨rfl, c1, f1⟩ := q
  refine r_aload_n (i := 2) hK dL_law_384 rfl rfl ?_
  refine r_sc (c := 1) hK hX (by omega) hL rfl dL_law_385 dL_law_386 dL_law_387 dL_law_388 dL_law_389 ?_
  refine r_ci1 hK hnn (y_law (MS_lo h2 f1)) moX10_law mlL_50 to_91 rfl rfl dL_law_390 (Nat.le_of_ble_eq_true rfl) (Nat.le_of_ble_eq_true rfl) (fun vg2 g2 q => ?_)
  obtain ⟨rfl, m2, f2⟩ := q
  exact r_icmp_eq (tgt := 1193) hK dL_law_393 (by decide) (fun _ => k _ _ (CS_hi c1 f2) m2) (fun h => absurd rfl h)
set_option maxHeartbeats 4000000 in
set_option maxRecDepth 100000 in
theorem lk_8 {K : KT} {n1 n2 : Nat} {ad : Nat → Nat} {g : St} {σ : SG} {L i : Nat} {xs : Nat → Int32} (hK : Cx K RL cL_law 1000 ad) (hnn : Nn K n1 n2) (hX : va_X (ad 2000) L xs K.2.1.1 K.2.1.1.heap ∧ ad 2000 < K.2.1.1.heap.size ∧ ¬ K.2.2.2.1.2.2 (ad 2000)) (hL : L ≤ 320) (hi : i + 5 ≤ L) (h1 : CS g σ) (h2 : MS g σ) (k : ∀ g' σ', CS g' σ' → MS g' σ' → Wp K n1 n2 TT ad g' 1193 (LW i) []) : Wp K n1 n2 TT ad g 398 (LW i) [] := by
  refine r_aload_n (i := 1) hK dL_law_398 rfl rfl ?_
  refine r_sc (c := 1) hK hX (by omega) hL rfl dL_law_399 dL_law_400 dL_law_401 dL_law_402 dL_law_403 ?_
  refine r_sc (c := 2) hK hX (by omega) hL rfl dL_law_404 dL_law_405 dL_law_406 dL_law_407 dL_law_408 ?_
  refine r_sc (c := 3) hK hX (by omega) hL rfl dL_law_409 dL_law_410 dL_law_411 dL_law_412 dL_law_413 ?_
  refine r_ne0 (t1 := 421) (t2 := 422) hK rfl rfl dL_law_414 dL_law_417 dL_law_418 dL_law_421 ?_
  refine r_ci3 hK hnn (x_learn h1) moX9_learn mlL_51 to_0 rfl rfl dL_law_422 (Nat.le_of_ble_eq_true rfl) (Nat.le_of_ble_eq_true rfl) (fun vg1 g1 q => ?_)
  obtain ⟨rfl, c1, f1⟩ := q
  refine r_aload_n (i := 2) hK dL_law_425 rfl rfl ?_
  refine r_sc (c := 1) hK hX (by omega) hL rfl dL_law_426 dL_law_427 dL_law_428 dL_law_429 dL_law_430 ?_
  refine r_sc (c := 2) hK hX (by omega) hL rfl dL_law_431 dL_law_432 dL_law_433 dL_law_434 dL_law_435 ?_
  refine r_sc (c := 3) hK hX (by omega) hL rfl dL_law_436 dL_law_437 dL_law_438 dL_law_439 dL_law_440 ?_
  refine r_ne0 (t1 := 448) (t2 := 449) hK rfl rfl dL_law_441 dL_law_444 dL_law_445 dL_law_448 ?_
  refine r_ci3 hK hnn (y_learn (MS_lo h2 f1)) moX10_learn mlL_55 to_91 rfl rfl dL_law_449 (Nat.le_of_ble_eq_true rfl) (Nat.le_of_ble_eq_true rfl) (fun vg2 g2 q => ?_)
  obtain ⟨rfl, m2, f2⟩ := q
  exact r_icmp_eq (tgt := 1193) hK dL_law_452 (by decide) (fun _ => k _ _ (CS_hi c1 f2) m2) (fun h => absurd rfl h)
set_option maxHeartbeats 4000000 in
set_option maxRecDepth 100000 in
theorem lk_9 {K : KT} {n1 n2 : Nat} {ad : Nat → Nat} {g : St} {σ : SG} {L i : Nat} {xs : Nat → Int32} (hK : Cx K RL cL_law 1000 ad) (hnn : Nn K n1 n2) (hX : va_X (ad 2000) L xs K.2.1.1 K.2.1.1.heap ∧ ad 2000 < K.2.1.1.heap.size ∧ ¬ K.2.2.2.1.2.2 (ad 2000)) (hL : L ≤ 320) (hi : i + 5 ≤ L) (h1 : CS g σ) (h2 : MS g σ) (k : ∀ g' σ', CS g' σ' → MS g' σ' → Wp K n1 n2 TT ad g' 1193 (LW i) []) : Wp K n1 n2 TT ad g 457 (LW i) [] := by
  refine r_aload_n (i := 1) hK dL_law_457 rfl rfl ?_
  refine r_sc (c := 1) hK hX (by omega) hL rfl dL_law_458 dL_law_459 dL_law_460 dL_law_461 dL_law_462 ?_
  refine r_sc (c := 2) hK hX (by omega) hL rfl dL_law_463 dL_law_464 dL_law_465 dL_law_466 dL_law_467 ?_
  refine r_ci2 hK hnn (x_habit h1) moX9_habit mlL_56 to_0 rfl rfl dL_law_468 (Nat.le_of_ble_eq_true rfl) (Nat.le_of_ble_eq_true rfl) (fun vg1 g1 q => ?_)
  obtain ⟨rfl, c1, f1⟩ := q
  refine r_aload_n (i := 2) hK dL_law_471 rfl rfl ?_
  refine r_sc (c := 1) hK hX (by omega) hL rfl dL_law_472 dL_law_473 dL_law_474 dL_law_475 dL_law_476 ?_
  refine r_sc (c := 2) hK hX (by omega) hL rfl dL_law_477 dL_law_478 dL_law_479 dL_law_480 dL_law_481 ?_
  refine r_ci2 hK hnn (y_habit (MS_lo h2 f1)) moX10_habit mlL_59 to_91 rfl rfl dL_law_482 (Nat.le_of_ble_eq_true rfl) (Nat.le_of_ble_eq_true rfl) (fun vg2 g2 q => ?_)
  obtain ⟨rfl, m2, f2⟩ := q
  exact r_icmp_eq (tgt := 1193) hK dL_law_485 (by decide) (fun _ => k _ _ (CS_hi c1 f2) m2) (fun h => absurd rfl h)
set_option maxHeartbeats 4000000 in
set_option maxRecDepth 100000 in
theorem lk_10 {K : KT} {n1 n2 : Nat} {ad : Nat → Nat} {g : St} {σ : SG} {L i : Nat} {xs : Nat → Int32} (hK : Cx K RL cL_law 1000 ad) (hnn : Nn K n1 n2) (hX : va_X (ad 2000) L xs K.2.1.1 K.2.1.1.heap ∧ ad 2000 < K.2.1.1.heap.size ∧ ¬ K.2.2.2.1.2.2 (ad 2000)) (hL : L ≤ 320) (hi : i + 5 ≤ L) (h1 : CS g σ) (h2 : MS g σ) (k : ∀ g' σ', CS g' σ' → MS g' σ' → Wp K n1 n2 TT ad g' 1193 (LW i) []) : Wp K n1 n2 TT ad g 490 (LW i) [] := by
  refine r_aload_n (i := 1) hK dL_law_490 rfl rfl ?_
  refine r_sc (c := 1) hK hX (by omega) hL rfl dL_law_491 dL_law_492 dL_law_493 dL_law_494 dL_law_495 ?_
  refine r_sc (c := 2) hK hX (by omega) hL rfl dL_law_496 dL_law_497 dL_law_498 dL_law_499 dL_law_500 ?_
  refine r_sc (c := 3) hK hX (by omega) hL rfl dL_law_501 dL_law_502 dL_law_503 dL_law_504 dL_law_505 ?_
  refine r_sc (c := 4) hK hX (by omega) hL rfl dL_law_506 dL_law_507 dL_law_508 dL_law_509 dL_law_510 ?_
  refine r_ci4 hK hnn (x_route h1) moX9_route mlL_60 to_0 rfl rfl dL_law_511 (Nat.le_of_ble_eq_true rfl) (Nat.le_of_ble_eq_true rfl) (fun vg1 g1 q => ?_)
  obtain ⟨rfl, c1, f1⟩ := q
  refine r_aload_n (i := 2) hK dL_law_514 rfl rfl ?_
  refine r_sc (c := 1) hK hX (by omega) hL rfl dL_law_515 dL_law_516 dL_law_517 dL_law_518 dL_law_519 ?_
  refine r_sc (c := 2) hK hX (by omega) hL rfl dL_law_520 dL_law_521 dL_law_522 dL_law_523 dL_law_524 ?_
  refine r_sc (c := 3) hK hX (by omega) hL rfl dL_law_525 dL_law_526 dL_law_527 dL_law_528 dL_law_529 ?_
  refine r_sc (c := 4) hK hX (by omega) hL rfl dL_law_530 dL_law_531 dL_law_532 dL_law_533 dL_law_534 ?_
  refine r_ci4 hK hnn (y_route (MS_lo h2 f1)) moX10_route mlL_64 to_91 rfl rfl dL_law_535 (Nat.le_of_ble_eq_true rfl) (Nat.le_of_ble_eq_true rfl) (fun vg2 g2 q => ?_)
  obtain ⟨rfl, m2, f2⟩ := q
  exact r_icmp_eq (tgt := 1193) hK dL_law_538 (by decide) (fun _ => k _ _ (CS_hi c1 f2) m2) (fun h => absurd rfl h)
set_option maxHeartbeats 4000000 in
set_option maxRecDepth 100000 in
theorem lk_11 {K : KT} {n1 n2 : Nat} {ad : Nat → Nat} {g : St} {σ : SG} {L i : Nat} {xs : Nat → Int32} (hK : Cx K RL cL_law 1000 ad) (hnn : Nn K n1 n2) (hX : va_X (ad 2000) L xs K.2.1.1 K.2.1.1.heap ∧ ad 2000 < K.2.1.1.heap.size ∧ ¬ K.2.2.2.1.2.2 (ad 2000)) (hL : L ≤ 320) (hi : i + 5 ≤ L) (h1 : CS g σ) (h2 : MS g σ) (k : ∀ g' σ', CS g' σ' → MS g' σ' → Wp K n1 n2 TT ad g' 1193 (LW i) []) : Wp K n1 n2 TT ad g 543 (LW i) [] := by
  refine r_aload_n (i := 1) hK dL_law_543 rfl rfl ?_
  refine r_sc (c := 1) hK hX (by omega) hL rfl dL_law_544 dL_law_545 dL_law_546 dL_law_547 dL_law_548 ?_
  refine r_sc (c := 2) hK hX (by omega) hL rfl dL_law_549 dL_law_550 dL_law_551 dL_law_552 dL_law_553 ?_
  refine r_sc (c := 3) hK hX (by omega) hL rfl dL_law_554 dL_law_555 dL_law_556 dL_law_557 dL_law_558 ?_
  refine r_sc (c := 4) hK hX (by omega) hL rfl dL_law_559 dL_law_560 dL_law_561 dL_law_562 dL_law_563 ?_
  refine r_ci4 hK hnn (x_says h1) moX9_says mlL_65 to_0 rfl rfl dL_law_564 (Nat.le_of_ble_eq_true rfl) (Nat.le_of_ble_eq_true rfl) (fun vg1 g1 q => ?_)
  obtain ⟨rfl, c1, f1⟩ := q
  refine r_aload_n (i := 2) hK dL_law_567 rfl rfl ?_
  refine r_sc (c := 1) hK hX (by omega) hL rfl dL_law_568 dL_law_569 dL_law_570 dL_law_571 dL_law_572 ?_
  refine r_sc (c := 2) hK hX (by omega) hL rfl dL_law_573 dL_law_574 dL_law_575 dL_law_576 dL_law_577 ?_
  refine r_sc (c := 3) hK hX (by omega) hL rfl dL_law_578 dL_law_579 dL_law_580 dL_law_581 dL_law_582 ?_
  refine r_sc (c := 4) hK hX (by omega) hL rfl dL_law_583 dL_law_584 dL_law_585 dL_law_586 dL_law_587 ?_
  refine r_ci4 hK hnn (y_says (MS_lo h2 f1)) moX10_says mlL_68 to_91 rfl rfl dL_law_588 (Nat.le_of_ble_eq_true rfl) (Nat.le_of_ble_eq_true rfl) (fun vg2 g2 q => ?_)
  obtain ⟨rfl, m2, f2⟩ := q
  exact r_icmp_eq (tgt := 1193) hK dL_law_591 (by decide) (fun _ => k _ _ (CS_hi c1 f2) m2) (fun h => absurd rfl h)
set_option maxHeartbeats 4000000 in
set_option maxRecDepth 100000 in
theorem lk_12 {K : KT} {n1 n2 : Nat} {ad : Nat → Nat} {g : St} {σ : SG} {L i : Nat} {xs : Nat → Int32} (hK : Cx K RL cL_law 1000 ad) (hnn : Nn K n1 n2) (hX : va_X (ad 2000) L xs K.2.1.1 K.2.1.1.heap ∧ ad 2000 < K.2.1.1.heap.size ∧ ¬ K.2.2.2.1.2.2 (ad 2000)) (hL : L ≤ 320) (hi : i + 5 ≤ L) (h1 : CS g σ) (h2 : MS g σ) (k : ∀ g' σ', CS g' σ' → MS g' σ' → Wp K n1 n2 TT ad g' 1193 (LW i) []) : Wp K n1 n2 TT ad g 596 (LW i) [] := by
  refine r_aload_n (i := 1) hK dL_law_596 rfl rfl ?_
  refine r_sc (c := 1) hK hX (by omega) hL rfl dL_law_597 dL_law_598 dL_law_599 dL_law_600 dL_law_601 ?_
  refine r_sc (c := 2) hK hX (by omega) hL rfl dL_law_602 dL_law_603 dL_law_604 dL_law_605 dL_law_606 ?_
  refine r_sc (c := 3) hK hX (by omega) hL rfl dL_law_607 dL_law_608 dL_law_609 dL_law_610 dL_law_611 ?_
  refine r_sc (c := 4) hK hX (by omega) hL rfl dL_law_612 dL_law_613 dL_law_614 dL_law_615 dL_law_616 ?_
  refine r_ci4 hK hnn (x_own h1) moX9_own mlL_69 to_0 rfl rfl dL_law_617 (Nat.le_of_ble_eq_true rfl) (Nat.le_of_ble_eq_true rfl) (fun vg1 g1 q => ?_)
  obtain ⟨rfl, c1, f1⟩ := q
  refine r_aload_n (i := 2) hK dL_law_620 rfl rfl ?_
  refine r_sc (c := 1) hK hX (by omega) hL rfl dL_law_621 dL_law_622 dL_law_623 dL_law_624 dL_law_625 ?_
  refine r_sc (c := 2) hK hX (by omega) hL rfl dL_law_626 dL_law_627 dL_law_628 dL_law_629 dL_law_630 ?_
  refine r_sc (c := 3) hK hX (by omega) hL rfl dL_law_631 dL_law_632 dL_law_633 dL_law_634 dL_law_635 ?_
  refine r_sc (c := 4) hK hX (by omega) hL rfl dL_law_636 dL_law_637 dL_law_638 dL_law_639 dL_law_640 ?_
  refine r_ci4 hK hnn (y_own (MS_lo h2 f1)) moX10_own mlL_72 to_91 rfl rfl dL_law_641 (Nat.le_of_ble_eq_true rfl) (Nat.le_of_ble_eq_true rfl) (fun vg2 g2 q => ?_)
  obtain ⟨rfl, m2, f2⟩ := q
  exact r_icmp_eq (tgt := 1193) hK dL_law_644 (by decide) (fun _ => k _ _ (CS_hi c1 f2) m2) (fun h => absurd rfl h)
set_option maxHeartbeats 4000000 in
set_option maxRecDepth 100000 in
theorem lk_13 {K : KT} {n1 n2 : Nat} {ad : Nat → Nat} {g : St} {σ : SG} {L i : Nat} {xs : Nat → Int32} (hK : Cx K RL cL_law 1000 ad) (hnn : Nn K n1 n2) (hX : va_X (ad 2000) L xs K.2.1.1 K.2.1.1.heap ∧ ad 2000 < K.2.1.1.heap.size ∧ ¬ K.2.2.2.1.2.2 (ad 2000)) (hL : L ≤ 320) (hi : i + 5 ≤ L) (h1 : CS g σ) (h2 : MS g σ) (k : ∀ g' σ', CS g' σ' → MS g' σ' → Wp K n1 n2 TT ad g' 1193 (LW i) []) : Wp K n1 n2 TT ad g 649 (LW i) [] := by
  refine r_aload_n (i := 1) hK dL_law_649 rfl rfl ?_
  refine r_sc (c := 1) hK hX (by omega) hL rfl dL_law_650 dL_law_651 dL_law_652 dL_law_653 dL_law_654 ?_
  refine r_sc (c := 2) hK hX (by omega) hL rfl dL_law_655 dL_law_656 dL_law_657 dL_law_658 dL_law_659 ?_
  refine r_sc (c := 3) hK hX (by omega) hL rfl dL_law_660 dL_law_661 dL_law_662 dL_law_663 dL_law_664 ?_
  refine r_ne0 (t1 := 672) (t2 := 673) hK rfl rfl dL_law_665 dL_law_668 dL_law_669 dL_law_672 ?_
  refine r_sc (c := 4) hK hX (by omega) hL rfl dL_law_673 dL_law_674 dL_law_675 dL_law_676 dL_law_677 ?_
  refine r_ci4 hK hnn (x_led h1 rfl) moX9_led mlL_73 to_0 rfl rfl dL_law_678 (Nat.le_of_ble_eq_true rfl) (Nat.le_of_ble_eq_true rfl) (fun vg1 g1 q => ?_)
  obtain ⟨rfl, c1, f1⟩ := q
  refine r_aload_n (i := 2) hK dL_law_681 rfl rfl ?_
  refine r_sc (c := 1) hK hX (by omega) hL rfl dL_law_682 dL_law_683 dL_law_684 dL_law_685 dL_law_686 ?_
  refine r_sc (c := 2) hK hX (by omega) hL rfl dL_law_687 dL_law_688 dL_law_689 dL_law_690 dL_law_691 ?_
  refine r_sc (c := 3) hK hX (by omega) hL rfl dL_law_692 dL_law_693 dL_law_694 dL_law_695 dL_law_696 ?_
  refine r_ne0 (t1 := 704) (t2 := 705) hK rfl rfl dL_law_697 dL_law_700 dL_law_701 dL_law_704 ?_
  refine r_sc (c := 4) hK hX (by omega) hL rfl dL_law_705 dL_law_706 dL_law_707 dL_law_708 dL_law_709 ?_
  refine r_ci4 hK hnn (y_led (MS_lo h2 f1) rfl) moX10_led mlL_77 to_91 rfl rfl dL_law_710 (Nat.le_of_ble_eq_true rfl) (Nat.le_of_ble_eq_true rfl) (fun vg2 g2 q => ?_)
  obtain ⟨rfl, m2, f2⟩ := q
  exact r_icmp_eq (tgt := 1193) hK dL_law_713 (by decide) (fun _ => k _ _ (CS_hi c1 f2) m2) (fun h => absurd rfl h)
set_option maxHeartbeats 4000000 in
set_option maxRecDepth 100000 in
theorem lk_14 {K : KT} {n1 n2 : Nat} {ad : Nat → Nat} {g : St} {σ : SG} {L i : Nat} {xs : Nat → Int32} (hK : Cx K RL cL_law 1000 ad) (hnn : Nn K n1 n2) (hX : va_X (ad 2000) L xs K.2.1.1 K.2.1.1.heap ∧ ad 2000 < K.2.1.1.heap.size ∧ ¬ K.2.2.2.1.2.2 (ad 2000)) (hL : L ≤ 320) (hi : i + 5 ≤ L) (h1 : CS g σ) (h2 : MS g σ) (k : ∀ g' σ', CS g' σ' → MS g' σ' → Wp K n1 n2 TT ad g' 1193 (LW i) []) : Wp K n1 n2 TT ad g 718 (LW i) [] := by
  refine r_aload_n (i := 1) hK dL_law_718 rfl rfl ?_
  refine r_sc (c := 1) hK hX (by omega) hL rfl dL_law_719 dL_law_720 dL_law_721 dL_law_722 dL_law_723 ?_
  refine r_sc (c := 2) hK hX (by omega) hL rfl dL_law_724 dL_law_725 dL_law_726 dL_law_727 dL_law_728 ?_
  refine r_ci2 hK hnn (x_soonest h1) moX9_soonest mlL_78 to_0 rfl rfl dL_law_729 (Nat.le_of_ble_eq_true rfl) (Nat.le_of_ble_eq_true rfl) (fun vg1 g1 q => ?_)
  obtain ⟨rfl, c1, f1⟩ := q
  refine r_aload_n (i := 2) hK dL_law_732 rfl rfl ?_
  refine r_sc (c := 1) hK hX (by omega) hL rfl dL_law_733 dL_law_734 dL_law_735 dL_law_736 dL_law_737 ?_
  refine r_sc (c := 2) hK hX (by omega) hL rfl dL_law_738 dL_law_739 dL_law_740 dL_law_741 dL_law_742 ?_
  refine r_ci2 hK hnn (y_soonest (MS_lo h2 f1)) moX10_soonest mlL_81 to_91 rfl rfl dL_law_743 (Nat.le_of_ble_eq_true rfl) (Nat.le_of_ble_eq_true rfl) (fun vg2 g2 q => ?_)
  obtain ⟨rfl, m2, f2⟩ := q
  exact r_icmp_eq (tgt := 1193) hK dL_law_746 (by decide) (fun _ => k _ _ (CS_hi c1 f2) m2) (fun h => absurd rfl h)
set_option maxHeartbeats 4000000 in
set_option maxRecDepth 100000 in
theorem lk_15 {K : KT} {n1 n2 : Nat} {ad : Nat → Nat} {g : St} {σ : SG} {L i : Nat} {xs : Nat → Int32} (hK : Cx K RL cL_law 1000 ad) (hnn : Nn K n1 n2) (hX : va_X (ad 2000) L xs K.2.1.1 K.2.1.1.heap ∧ ad 2000 < K.2.1.1.heap.size ∧ ¬ K.2.2.2.1.2.2 (ad 2000)) (hL : L ≤ 320) (hi : i + 5 ≤ L) (h1 : CS g σ) (h2 : MS g σ) (k : ∀ g' σ', CS g' σ' → MS g' σ' → Wp K n1 n2 TT ad g' 1193 (LW i) []) : Wp K n1 n2 TT ad g 751 (LW i) [] := by
  refine r_aload_n (i := 1) hK dL_law_751 rfl rfl ?_
  refine r_sc (c := 1) hK hX (by omega) hL rfl dL_law_752 dL_law_753 dL_law_754 dL_law_755 dL_law_756 ?_
  refine r_sc (c := 2) hK hX (by omega) hL rfl dL_law_757 dL_law_758 dL_law_759 dL_law_760 dL_law_761 ?_
  refine r_sc (c := 3) hK hX (by omega) hL rfl dL_law_762 dL_law_763 dL_law_764 dL_law_765 dL_law_766 ?_
  refine r_ci3 hK hnn (x_guide h1) moX9_guide mlL_82 to_0 rfl rfl dL_law_767 (Nat.le_of_ble_eq_true rfl) (Nat.le_of_ble_eq_true rfl) (fun vg1 g1 q => ?_)
  obtain ⟨rfl, c1, f1⟩ := q
  refine r_aload_n (i := 2) hK dL_law_770 rfl rfl ?_
  refine r_sc (c := 1) hK hX (by omega) hL rfl dL_law_771 dL_law_772 dL_law_773 dL_law_774 dL_law_775 ?_
  refine r_sc (c := 2) hK hX (by omega) hL rfl dL_law_776 dL_law_777 dL_law_778 dL_law_779 dL_law_780 ?_
  refine r_sc (c := 3) hK hX (by omega) hL rfl dL_law_781 dL_law_782 dL_law_783 dL_law_784 dL_law_785 ?_
  refine r_ci3 hK hnn (y_guide (MS_lo h2 f1)) moX10_guide mlL_86 to_91 rfl rfl dL_law_786 (Nat.le_of_ble_eq_true rfl) (Nat.le_of_ble_eq_true rfl) (fun vg2 g2 q => ?_)
  obtain ⟨rfl, m2, f2⟩ := q
  exact r_icmp_eq (tgt := 1193) hK dL_law_789 (by decide) (fun _ => k _ _ (CS_hi c1 f2) m2) (fun h => absurd rfl h)
set_option maxHeartbeats 4000000 in
set_option maxRecDepth 100000 in
theorem lk_16 {K : KT} {n1 n2 : Nat} {ad : Nat → Nat} {g : St} {σ : SG} {L i : Nat} {xs : Nat → Int32} (hK : Cx K RL cL_law 1000 ad) (hnn : Nn K n1 n2) (hX : va_X (ad 2000) L xs K.2.1.1 K.2.1.1.heap ∧ ad 2000 < K.2.1.1.heap.size ∧ ¬ K.2.2.2.1.2.2 (ad 2000)) (hL : L ≤ 320) (hi : i + 5 ≤ L) (h1 : CS g σ) (h2 : MS g σ) (k : ∀ g' σ', CS g' σ' → MS g' σ' → Wp K n1 n2 TT ad g' 1193 (LW i) []) : Wp K n1 n2 TT ad g 794 (LW i) [] := by
  refine r_aload_n (i := 1) hK dL_law_794 rfl rfl ?_
  refine r_sc (c := 1) hK hX (by omega) hL rfl dL_law_795 dL_law_796 dL_law_797 dL_law_798 dL_law_799 ?_
  refine r_sc (c := 2) hK hX (by omega) hL rfl dL_law_800 dL_law_801 dL_law_802 dL_law_803 dL_law_804 ?_
  refine r_sc (c := 3) hK hX (by omega) hL rfl dL_law_805 dL_law_806 dL_law_807 dL_law_808 dL_law_809 ?_
  refine r_ci3 hK hnn (x_lot h1) moX9_lot mlL_87 to_0 rfl rfl dL_law_810 (Nat.le_of_ble_eq_true rfl) (Nat.le_of_ble_eq_true rfl) (fun vg1 g1 q => ?_)
  obtain ⟨rfl, c1, f1⟩ := q
  refine r_aload_n (i := 2) hK dL_law_813 rfl rfl ?_
  refine r_sc (c := 1) hK hX (by omega) hL rfl dL_law_814 dL_law_815 dL_law_816 dL_law_817 dL_law_818 ?_
  refine r_sc (c := 2) hK hX (by omega) hL rfl dL_law_819 dL_law_820 dL_law_821 dL_law_822 dL_law_823 ?_
  refine r_sc (c := 3) hK hX (by omega) hL rfl dL_law_824 dL_law_825 dL_law_826 dL_law_827 dL_law_828 ?_
  refine r_ci3 hK hnn (y_lot (MS_lo h2 f1)) moX10_lot mlL_90 to_91 rfl rfl dL_law_829 (Nat.le_of_ble_eq_true rfl) (Nat.le_of_ble_eq_true rfl) (fun vg2 g2 q => ?_)
  obtain ⟨rfl, m2, f2⟩ := q
  exact r_icmp_eq (tgt := 1193) hK dL_law_832 (by decide) (fun _ => k _ _ (CS_hi c1 f2) m2) (fun h => absurd rfl h)
set_option maxHeartbeats 4000000 in
set_option maxRecDepth 100000 in
theorem lk_17 {K : KT} {n1 n2 : Nat} {ad : Nat → Nat} {g : St} {σ : SG} {L i : Nat} {xs : Nat → Int32} (hK : Cx K RL cL_law 1000 ad) (hnn : Nn K n1 n2) (hX : va_X (ad 2000) L xs K.2.1.1 K.2.1.1.heap ∧ ad 2000 < K.2.1.1.heap.size ∧ ¬ K.2.2.2.1.2.2 (ad 2000)) (hL : L ≤ 320) (hi : i + 5 ≤ L) (h1 : CS g σ) (h2 : MS g σ) (k : ∀ g' σ', CS g' σ' → MS g' σ' → Wp K n1 n2 TT ad g' 1193 (LW i) []) : Wp K n1 n2 TT ad g 837 (LW i) [] := by
  refine r_aload_n (i := 1) hK dL_law_837 rfl rfl ?_
  refine r_sc (c := 1) hK hX (by omega) hL rfl dL_law_838 dL_law_839 dL_law_840 dL_law_841 dL_law_842 ?_
  refine r_sc (c := 2) hK hX (by omega) hL rfl dL_law_843 dL_law_844 dL_law_845 dL_law_846 dL_law_847 ?_
  refine r_sc (c := 3) hK hX (by omega) hL rfl dL_law_848 dL_law_849 dL_law_850 dL_law_851 dL_law_852 ?_
  refine r_ci3 hK hnn (x_say h1) moX9_say mlL_91 to_0 rfl rfl dL_law_853 (Nat.le_of_ble_eq_true rfl) (Nat.le_of_ble_eq_true rfl) (fun vg1 g1 q => ?_)
  obtain ⟨rfl, c1, f1⟩ := q
  refine r_aload_n (i := 2) hK dL_law_856 rfl rfl ?_
  refine r_sc (c := 1) hK hX (by omega) hL rfl dL_law_857 dL_law_858 dL_law_859 dL_law_860 dL_law_861 ?_
  refine r_sc (c := 2) hK hX (by omega) hL rfl dL_law_862 dL_law_863 dL_law_864 dL_law_865 dL_law_866 ?_
  refine r_sc (c := 3) hK hX (by omega) hL rfl dL_law_867 dL_law_868 dL_law_869 dL_law_870 dL_law_871 ?_
  refine r_ci3 hK hnn (y_say (MS_lo h2 f1)) moX10_say mlL_94 to_91 rfl rfl dL_law_872 (Nat.le_of_ble_eq_true rfl) (Nat.le_of_ble_eq_true rfl) (fun vg2 g2 q => ?_)
  obtain ⟨rfl, m2, f2⟩ := q
  exact r_icmp_eq (tgt := 1193) hK dL_law_875 (by decide) (fun _ => k _ _ (CS_hi c1 f2) m2) (fun h => absurd rfl h)
set_option maxHeartbeats 4000000 in
set_option maxRecDepth 100000 in
theorem lk_18 {K : KT} {n1 n2 : Nat} {ad : Nat → Nat} {g : St} {σ : SG} {L i : Nat} {xs : Nat → Int32} (hK : Cx K RL cL_law 1000 ad) (hnn : Nn K n1 n2) (hX : va_X (ad 2000) L xs K.2.1.1 K.2.1.1.heap ∧ ad 2000 < K.2.1.1.heap.size ∧ ¬ K.2.2.2.1.2.2 (ad 2000)) (hL : L ≤ 320) (hi : i + 5 ≤ L) (h1 : CS g σ) (h2 : MS g σ) (k : ∀ g' σ', CS g' σ' → MS g' σ' → Wp K n1 n2 TT ad g' 1193 (LW i) []) : Wp K n1 n2 TT ad g 880 (LW i) [] := by
  refine r_aload_n (i := 1) hK dL_law_880 rfl rfl ?_
  refine r_sc (c := 1) hK hX (by omega) hL rfl dL_law_881 dL_law_882 dL_law_883 dL_law_884 dL_law_885 ?_
  refine r_sc (c := 2) hK hX (by omega) hL rfl dL_law_886 dL_law_887 dL_law_888 dL_law_889 dL_law_890 ?_
  refine r_sc (c := 3) hK hX (by omega) hL rfl dL_law_891 dL_law_892 dL_law_893 dL_law_894 dL_law_895 ?_
  refine r_sc (c := 4) hK hX (by omega) hL rfl dL_law_896 dL_law_897 dL_law_898 dL_law_899 dL_law_900 ?_
  refine r_ci4 hK hnn (x_learnt h1) moX9_learnt mlL_95 to_0 rfl rfl dL_law_901 (Nat.le_of_ble_eq_true rfl) (Nat.le_of_ble_eq_true rfl) (fun vg1 g1 q => ?_)
  obtain ⟨rfl, c1, f1⟩ := q
  refine r_aload_n (i := 2) hK dL_law_904 rfl rfl ?_
  refine r_sc (c := 1) hK hX (by omega) hL rfl dL_law_905 dL_law_906 dL_law_907 dL_law_908 dL_law_909 ?_
  refine r_sc (c := 2) hK hX (by omega) hL rfl dL_law_910 dL_law_911 dL_law_912 dL_law_913 dL_law_914 ?_
  refine r_sc (c := 3) hK hX (by omega) hL rfl dL_law_915 dL_law_916 dL_law_917 dL_law_918 dL_law_919 ?_
  refine r_sc (c := 4) hK hX (by omega) hL rfl dL_law_920 dL_law_921 dL_law_922 dL_law_923 dL_law_924 ?_
  refine r_ci4 hK hnn (y_learnt (MS_lo h2 f1)) moX10_learnt mlL_98 to_91 rfl rfl dL_law_925 (Nat.le_of_ble_eq_true rfl) (Nat.le_of_ble_eq_true rfl) (fun vg2 g2 q => ?_)
  obtain ⟨rfl, m2, f2⟩ := q
  exact r_icmp_eq (tgt := 1193) hK dL_law_928 (by decide) (fun _ => k _ _ (CS_hi c1 f2) m2) (fun h => absurd rfl h)
set_option maxHeartbeats 4000000 in
set_option maxRecDepth 100000 in
theorem lk_19 {K : KT} {n1 n2 : Nat} {ad : Nat → Nat} {g : St} {σ : SG} {L i : Nat} {xs : Nat → Int32} (hK : Cx K RL cL_law 1000 ad) (hnn : Nn K n1 n2) (hX : va_X (ad 2000) L xs K.2.1.1 K.2.1.1.heap ∧ ad 2000 < K.2.1.1.heap.size ∧ ¬ K.2.2.2.1.2.2 (ad 2000)) (hL : L ≤ 320) (hi : i + 5 ≤ L) (h1 : CS g σ) (h2 : MS g σ) (k : ∀ g' σ', CS g' σ' → MS g' σ' → Wp K n1 n2 TT ad g' 1193 (LW i) []) : Wp K n1 n2 TT ad g 933 (LW i) [] := by
  refine r_aload_n (i := 1) hK dL_law_933 rfl rfl ?_
  refine r_sc (c := 1) hK hX (by omega) hL rfl dL_law_934 dL_law_935 dL_law_936 dL_law_937 dL_law_938 ?_
  refine r_sc (c := 2) hK hX (by omega) hL rfl dL_law_939 dL_law_940 dL_law_941 dL_law_942 dL_law_943 ?_
  refine r_ci2 hK hnn (x_missing h1) moX9_missing mlL_99 to_0 rfl rfl dL_law_944 (Nat.le_of_ble_eq_true rfl) (Nat.le_of_ble_eq_true rfl) (fun vg1 g1 q => ?_)
  obtain ⟨rfl, c1, f1⟩ := q
  refine r_aload_n (i := 2) hK dL_law_947 rfl rfl ?_
  refine r_sc (c := 1) hK hX (by omega) hL rfl dL_law_948 dL_law_949 dL_law_950 dL_law_951 dL_law_952 ?_
  refine r_sc (c := 2) hK hX (by omega) hL rfl dL_law_953 dL_law_954 dL_law_955 dL_law_956 dL_law_957 ?_
  refine r_ci2 hK hnn (y_missing (MS_lo h2 f1)) moX10_missing mlL_102 to_91 rfl rfl dL_law_958 (Nat.le_of_ble_eq_true rfl) (Nat.le_of_ble_eq_true rfl) (fun vg2 g2 q => ?_)
  obtain ⟨rfl, m2, f2⟩ := q
  exact r_icmp_eq (tgt := 1193) hK dL_law_961 (by decide) (fun _ => k _ _ (CS_hi c1 f2) m2) (fun h => absurd rfl h)
set_option maxHeartbeats 4000000 in
set_option maxRecDepth 100000 in
theorem lk_20 {K : KT} {n1 n2 : Nat} {ad : Nat → Nat} {g : St} {σ : SG} {L i : Nat} {xs : Nat → Int32} (hK : Cx K RL cL_law 1000 ad) (hnn : Nn K n1 n2) (hX : va_X (ad 2000) L xs K.2.1.1 K.2.1.1.heap ∧ ad 2000 < K.2.1.1.heap.size ∧ ¬ K.2.2.2.1.2.2 (ad 2000)) (hL : L ≤ 320) (hi : i + 5 ≤ L) (h1 : CS g σ) (h2 : MS g σ) (k : ∀ g' σ', CS g' σ' → MS g' σ' → Wp K n1 n2 TT ad g' 1193 (LW i) []) : Wp K n1 n2 TT ad g 966 (LW i) [] := by
  refine r_aload_n (i := 1) hK dL_law_966 rfl rfl ?_
  refine r_sc (c := 1) hK hX (by omega) hL rfl dL_law_967 dL_law_968 dL_law_969 dL_law_970 dL_law_971 ?_
  refine r_sc (c := 2) hK hX (by omega) hL rfl dL_law_972 dL_law_973 dL_law_974 dL_law_975 dL_law_976 ?_
  refine r_ci2 hK hnn (x_lack h1) moX9_lack mlL_103 to_0 rfl rfl dL_law_977 (Nat.le_of_ble_eq_true rfl) (Nat.le_of_ble_eq_true rfl) (fun vg1 g1 q => ?_)
  obtain ⟨rfl, c1, f1⟩ := q
  refine r_aload_n (i := 2) hK dL_law_980 rfl rfl ?_
  refine r_sc (c := 1) hK hX (by omega) hL rfl dL_law_981 dL_law_982 dL_law_983 dL_law_984 dL_law_985 ?_
  refine r_sc (c := 2) hK hX (by omega) hL rfl dL_law_986 dL_law_987 dL_law_988 dL_law_989 dL_law_990 ?_
  refine r_ci2 hK hnn (y_lack (MS_lo h2 f1)) moX10_lack mlL_106 to_91 rfl rfl dL_law_991 (Nat.le_of_ble_eq_true rfl) (Nat.le_of_ble_eq_true rfl) (fun vg2 g2 q => ?_)
  obtain ⟨rfl, m2, f2⟩ := q
  exact r_icmp_eq (tgt := 1193) hK dL_law_994 (by decide) (fun _ => k _ _ (CS_hi c1 f2) m2) (fun h => absurd rfl h)
set_option maxHeartbeats 4000000 in
set_option maxRecDepth 100000 in
theorem lk_21 {K : KT} {n1 n2 : Nat} {ad : Nat → Nat} {g : St} {σ : SG} {L i : Nat} {xs : Nat → Int32} (hK : Cx K RL cL_law 1000 ad) (hnn : Nn K n1 n2) (hX : va_X (ad 2000) L xs K.2.1.1 K.2.1.1.heap ∧ ad 2000 < K.2.1.1.heap.size ∧ ¬ K.2.2.2.1.2.2 (ad 2000)) (hL : L ≤ 320) (hi : i + 5 ≤ L) (h1 : CS g σ) (h2 : MS g σ) (k : ∀ g' σ', CS g' σ' → MS g' σ' → Wp K n1 n2 TT ad g' 1193 (LW i) []) : Wp K n1 n2 TT ad g 999 (LW i) [] := by
  refine r_aload_n (i := 1) hK dL_law_999 rfl rfl ?_
  refine r_ci0 hK hnn (x_fits h1) moX9_fits mlL_107 to_0 rfl rfl dL_law_1000 (Nat.le_of_ble_eq_true rfl) (Nat.le_of_ble_eq_true rfl) (fun vg1 g1 q => ?_)
  obtain ⟨rfl, c1, f1⟩ := q
  refine r_aload_n (i := 2) hK dL_law_1003 rfl rfl ?_
  refine r_ci0 hK hnn (y_fits (MS_lo h2 f1)) moX10_fits mlL_110 to_91 rfl rfl dL_law_1004 (Nat.le_of_ble_eq_true rfl) (Nat.le_of_ble_eq_true rfl) (fun vg2 g2 q => ?_)
  obtain ⟨rfl, m2, f2⟩ := q
  exact r_icmp_eq (tgt := 1193) hK dL_law_1007 (by decide) (fun _ => k _ _ (CS_hi c1 f2) m2) (fun h => absurd rfl h)
set_option maxHeartbeats 4000000 in
set_option maxRecDepth 100000 in
theorem lk_22 {K : KT} {n1 n2 : Nat} {ad : Nat → Nat} {g : St} {σ : SG} {L i : Nat} {xs : Nat → Int32} (hK : Cx K RL cL_law 1000 ad) (hnn : Nn K n1 n2) (hX : va_X (ad 2000) L xs K.2.1.1 K.2.1.1.heap ∧ ad 2000 < K.2.1.1.heap.size ∧ ¬ K.2.2.2.1.2.2 (ad 2000)) (hL : L ≤ 320) (hi : i + 5 ≤ L) (h1 : CS g σ) (h2 : MS g σ) (k : ∀ g' σ', CS g' σ' → MS g' σ' → Wp K n1 n2 TT ad g' 1193 (LW i) []) : Wp K n1 n2 TT ad g 1012 (LW i) [] := by
  refine r_aload_n (i := 1) hK dL_law_1012 rfl rfl ?_
  refine r_sc (c := 1) hK hX (by omega) hL rfl dL_law_1013 dL_law_1014 dL_law_1015 dL_law_1016 dL_law_1017 ?_
  refine r_sc (c := 2) hK hX (by omega) hL rfl dL_law_1018 dL_law_1019 dL_law_1020 dL_law_1021 dL_law_1022 ?_
  refine r_sc (c := 3) hK hX (by omega) hL rfl dL_law_1023 dL_law_1024 dL_law_1025 dL_law_1026 dL_law_1027 ?_
  refine r_sc (c := 4) hK hX (by omega) hL rfl dL_law_1028 dL_law_1029 dL_law_1030 dL_law_1031 dL_law_1032 ?_
  refine r_ci4 hK hnn (x_log h1) moX9_log mlL_111 to_0 rfl rfl dL_law_1033 (Nat.le_of_ble_eq_true rfl) (Nat.le_of_ble_eq_true rfl) (fun vg1 g1 q => ?_)
  obtain ⟨rfl, c1, f1⟩ := q
  refine r_aload_n (i := 2) hK dL_law_1036 rfl rfl ?_
  refine r_sc (c := 1) hK hX (by omega) hL rfl dL_law_1037 dL_law_1038 dL_law_1039 dL_law_1040 dL_law_1041 ?_
  refine r_sc (c := 2) hK hX (by omega) hL rfl dL_law_1042 dL_law_1043 dL_law_1044 dL_law_1045 dL_law_1046 ?_
  refine r_sc (c := 3) hK hX (by omega) hL rfl dL_law_1047 dL_law_1048 dL_law_1049 dL_law_1050 dL_law_1051 ?_
  refine r_sc (c := 4) hK hX (by omega) hL rfl dL_law_1052 dL_law_1053 dL_law_1054 dL_law_1055 dL_law_1056 ?_
  refine r_ci4 hK hnn (y_log (MS_lo h2 f1)) moX10_log mlL_114 to_91 rfl rfl dL_law_1057 (Nat.le_of_ble_eq_true rfl) (Nat.le_of_ble_eq_true rfl) (fun vg2 g2 q => ?_)
  obtain ⟨rfl, m2, f2⟩ := q
  exact r_icmp_eq (tgt := 1193) hK dL_law_1060 (by decide) (fun _ => k _ _ (CS_hi c1 f2) m2) (fun h => absurd rfl h)
set_option maxHeartbeats 4000000 in
set_option maxRecDepth 100000 in
theorem lk_23 {K : KT} {n1 n2 : Nat} {ad : Nat → Nat} {g : St} {σ : SG} {L i : Nat} {xs : Nat → Int32} (hK : Cx K RL cL_law 1000 ad) (hnn : Nn K n1 n2) (hX : va_X (ad 2000) L xs K.2.1.1 K.2.1.1.heap ∧ ad 2000 < K.2.1.1.heap.size ∧ ¬ K.2.2.2.1.2.2 (ad 2000)) (hL : L ≤ 320) (hi : i + 5 ≤ L) (h1 : CS g σ) (h2 : MS g σ) (k : ∀ g' σ', CS g' σ' → MS g' σ' → Wp K n1 n2 TT ad g' 1193 (LW i) []) : Wp K n1 n2 TT ad g 1065 (LW i) [] := by
  refine r_aload_n (i := 1) hK dL_law_1065 rfl rfl ?_
  refine r_ci0 hK hnn (x_clear h1) moX9_clear mlL_115 to_0 rfl rfl dL_law_1066 (Nat.le_of_ble_eq_true rfl) (Nat.le_of_ble_eq_true rfl) (fun vg1 g1 q => ?_)
  obtain ⟨rfl, c1, f1⟩ := q
  refine r_aload_n (i := 2) hK dL_law_1069 rfl rfl ?_
  refine r_ci0 hK hnn (y_clear (MS_lo h2 f1)) moX10_clear mlL_118 to_91 rfl rfl dL_law_1070 (Nat.le_of_ble_eq_true rfl) (Nat.le_of_ble_eq_true rfl) (fun vg2 g2 q => ?_)
  obtain ⟨rfl, m2, f2⟩ := q
  exact r_icmp_eq (tgt := 1193) hK dL_law_1073 (by decide) (fun _ => k _ _ (CS_hi c1 f2) m2) (fun h => absurd rfl h)
set_option maxHeartbeats 4000000 in
set_option maxRecDepth 100000 in
theorem lk_24 {K : KT} {n1 n2 : Nat} {ad : Nat → Nat} {g : St} {σ : SG} {L i : Nat} {xs : Nat → Int32} (hK : Cx K RL cL_law 1000 ad) (hnn : Nn K n1 n2) (hX : va_X (ad 2000) L xs K.2.1.1 K.2.1.1.heap ∧ ad 2000 < K.2.1.1.heap.size ∧ ¬ K.2.2.2.1.2.2 (ad 2000)) (hL : L ≤ 320) (hi : i + 5 ≤ L) (h1 : CS g σ) (h2 : MS g σ) (k : ∀ g' σ', CS g' σ' → MS g' σ' → Wp K n1 n2 TT ad g' 1193 (LW i) []) : Wp K n1 n2 TT ad g 1078 (LW i) [] := by
  refine r_aload_n (i := 1) hK dL_law_1078 rfl rfl ?_
  refine r_ci0 hK hnn (x_judge h1) moX9_judge mlL_119 to_0 rfl rfl dL_law_1079 (Nat.le_of_ble_eq_true rfl) (Nat.le_of_ble_eq_true rfl) (fun vg1 g1 q => ?_)
  obtain ⟨rfl, c1, f1⟩ := q
  refine r_aload_n (i := 2) hK dL_law_1082 rfl rfl ?_
  refine r_ci0 hK hnn (y_judge (MS_lo h2 f1)) moX10_judge mlL_122 to_91 rfl rfl dL_law_1083 (Nat.le_of_ble_eq_true rfl) (Nat.le_of_ble_eq_true rfl) (fun vg2 g2 q => ?_)
  obtain ⟨rfl, m2, f2⟩ := q
  exact r_icmp_eq (tgt := 1193) hK dL_law_1086 (by decide) (fun _ => k _ _ (CS_hi c1 f2) m2) (fun h => absurd rfl h)
set_option maxHeartbeats 4000000 in
set_option maxRecDepth 100000 in
theorem lk_25 {K : KT} {n1 n2 : Nat} {ad : Nat → Nat} {g : St} {σ : SG} {L i : Nat} {xs : Nat → Int32} (hK : Cx K RL cL_law 1000 ad) (hnn : Nn K n1 n2) (hX : va_X (ad 2000) L xs K.2.1.1 K.2.1.1.heap ∧ ad 2000 < K.2.1.1.heap.size ∧ ¬ K.2.2.2.1.2.2 (ad 2000)) (hL : L ≤ 320) (hi : i + 5 ≤ L) (h1 : CS g σ) (h2 : MS g σ) (k : ∀ g' σ', CS g' σ' → MS g' σ' → Wp K n1 n2 TT ad g' 1193 (LW i) []) : Wp K n1 n2 TT ad g 1091 (LW i) [] := by
  refine r_aload_n (i := 1) hK dL_law_1091 rfl rfl ?_
  refine r_sc (c := 1) hK hX (by omega) hL rfl dL_law_1092 dL_law_1093 dL_law_1094 dL_law_1095 dL_law_1096 ?_
  refine r_sc (c := 2) hK hX (by omega) hL rfl dL_law_1097 dL_law_1098 dL_law_1099 dL_law_1100 dL_law_1101 ?_
  refine r_ci2 hK hnn (x_drift h1) moX9_drift mlL_123 to_0 rfl rfl dL_law_1102 (Nat.le_of_ble_eq_true rfl) (Nat.le_of_ble_eq_true rfl) (fun vg1 g1 q => ?_)
  obtain ⟨rfl, c1, f1⟩ := q
  refine r_aload_n (i := 2) hK dL_law_1105 rfl rfl ?_
  refine r_sc (c := 1) hK hX (by omega) hL rfl dL_law_1106 dL_law_1107 dL_law_1108 dL_law_1109 dL_law_1110 ?_
  refine r_sc (c := 2) hK hX (by omega) hL rfl dL_law_1111 dL_law_1112 dL_law_1113 dL_law_1114 dL_law_1115 ?_
  refine r_ci2 hK hnn (y_drift (MS_lo h2 f1)) moX10_drift mlL_126 to_91 rfl rfl dL_law_1116 (Nat.le_of_ble_eq_true rfl) (Nat.le_of_ble_eq_true rfl) (fun vg2 g2 q => ?_)
  obtain ⟨rfl, m2, f2⟩ := q
  exact r_icmp_eq (tgt := 1193) hK dL_law_1119 (by decide) (fun _ => k _ _ (CS_hi c1 f2) m2) (fun h => absurd rfl h)
set_option maxHeartbeats 4000000 in
set_option maxRecDepth 100000 in
theorem lk_26 {K : KT} {n1 n2 : Nat} {ad : Nat → Nat} {g : St} {σ : SG} {L i : Nat} {xs : Nat → Int32} (hK : Cx K RL cL_law 1000 ad) (hnn : Nn K n1 n2) (hX : va_X (ad 2000) L xs K.2.1.1 K.2.1.1.heap ∧ ad 2000 < K.2.1.1.heap.size ∧ ¬ K.2.2.2.1.2.2 (ad 2000)) (hL : L ≤ 320) (hi : i + 5 ≤ L) (h1 : CS g σ) (h2 : MS g σ) (k : ∀ g' σ', CS g' σ' → MS g' σ' → Wp K n1 n2 TT ad g' 1193 (LW i) []) : Wp K n1 n2 TT ad g 1124 (LW i) [] := by
  refine r_aload_n (i := 1) hK dL_law_1124 rfl rfl ?_
  refine r_sc (c := 1) hK hX (by omega) hL rfl dL_law_1125 dL_law_1126 dL_law_1127 dL_law_1128 dL_law_1129 ?_
  refine r_ci1 hK hnn (x_seed h1) moX9_seed mlL_127 to_0 rfl rfl dL_law_1130 (Nat.le_of_ble_eq_true rfl) (Nat.le_of_ble_eq_true rfl) (fun vg1 g1 q => ?_)
  obtain ⟨rfl, c1, f1⟩ := q
  refine r_aload_n (i := 2) hK dL_law_1133 rfl rfl ?_
  refine r_sc (c := 1) hK hX (by omega) hL rfl dL_law_1134 dL_law_1135 dL_law_1136 dL_law_1137 dL_law_1138 ?_
  refine r_ci1 hK hnn (y_seed (MS_lo h2 f1)) moX10_seed mlL_130 to_91 rfl rfl dL_law_1139 (Nat.le_of_ble_eq_true rfl) (Nat.le_of_ble_eq_true rfl) (fun vg2 g2 q => ?_)
  obtain ⟨rfl, m2, f2⟩ := q
  exact r_icmp_eq (tgt := 1193) hK dL_law_1142 (by decide) (fun _ => k _ _ (CS_hi c1 f2) m2) (fun h => absurd rfl h)
set_option maxHeartbeats 4000000 in
set_option maxRecDepth 100000 in
theorem lk_27 {K : KT} {n1 n2 : Nat} {ad : Nat → Nat} {g : St} {σ : SG} {L i : Nat} {xs : Nat → Int32} (hK : Cx K RL cL_law 1000 ad) (hnn : Nn K n1 n2) (hX : va_X (ad 2000) L xs K.2.1.1 K.2.1.1.heap ∧ ad 2000 < K.2.1.1.heap.size ∧ ¬ K.2.2.2.1.2.2 (ad 2000)) (hL : L ≤ 320) (hi : i + 5 ≤ L) (h1 : CS g σ) (h2 : MS g σ) (k : ∀ g' σ', CS g' σ' → MS g' σ' → Wp K n1 n2 TT ad g' 1193 (LW i) []) : Wp K n1 n2 TT ad g 1147 (LW i) [] := by
  refine r_aload_n (i := 1) hK dL_law_1147 rfl rfl ?_
  refine r_sc (c := 1) hK hX (by omega) hL rfl dL_law_1148 dL_law_1149 dL_law_1150 dL_law_1151 dL_law_1152 ?_
  refine r_ci1 hK hnn (x_keep h1) moX9_keep mlL_131 to_0 rfl rfl dL_law_1153 (Nat.le_of_ble_eq_true rfl) (Nat.le_of_ble_eq_true rfl) (fun vg1 g1 q => ?_)
  obtain ⟨rfl, c1, f1⟩ := q
  refine r_aload_n (i := 2) hK dL_law_1156 rfl rfl ?_
  refine r_sc (c := 1) hK hX (by omega) hL rfl dL_law_1157 dL_law_1158 dL_law_1159 dL_law_1160 dL_law_1161 ?_
  refine r_ci1 hK hnn (y_keep (MS_lo h2 f1)) moX10_keep mlL_134 to_91 rfl rfl dL_law_1162 (Nat.le_of_ble_eq_true rfl) (Nat.le_of_ble_eq_true rfl) (fun vg2 g2 q => ?_)
  obtain ⟨rfl, m2, f2⟩ := q
  exact r_icmp_eq (tgt := 1193) hK dL_law_1165 (by decide) (fun _ => k _ _ (CS_hi c1 f2) m2) (fun h => absurd rfl h)
set_option maxHeartbeats 4000000 in
set_option maxRecDepth 100000 in
theorem lk_28 {K : KT} {n1 n2 : Nat} {ad : Nat → Nat} {g : St} {σ : SG} {L i : Nat} {xs : Nat → Int32} (hK : Cx K RL cL_law 1000 ad) (hnn : Nn K n1 n2) (hX : va_X (ad 2000) L xs K.2.1.1 K.2.1.1.heap ∧ ad 2000 < K.2.1.1.heap.size ∧ ¬ K.2.2.2.1.2.2 (ad 2000)) (hL : L ≤ 320) (hi : i + 5 ≤ L) (h1 : CS g σ) (h2 : MS g σ) (k : ∀ g' σ', CS g' σ' → MS g' σ' → Wp K n1 n2 TT ad g' 1193 (LW i) []) : Wp K n1 n2 TT ad g 1170 (LW i) [] := by
  refine r_aload_n (i := 1) hK dL_law_1170 rfl rfl ?_
  refine r_sc (c := 1) hK hX (by omega) hL rfl dL_law_1171 dL_law_1172 dL_law_1173 dL_law_1174 dL_law_1175 ?_
  refine r_ci1 hK hnn (x_goBack h1) moX9_goBack mlL_135 to_0 rfl rfl dL_law_1176 (Nat.le_of_ble_eq_true rfl) (Nat.le_of_ble_eq_true rfl) (fun vg1 g1 q => ?_)
  obtain ⟨rfl, c1, f1⟩ := q
  refine r_aload_n (i := 2) hK dL_law_1179 rfl rfl ?_
  refine r_sc (c := 1) hK hX (by omega) hL rfl dL_law_1180 dL_law_1181 dL_law_1182 dL_law_1183 dL_law_1184 ?_
  refine r_ci1 hK hnn (y_goBack (MS_lo h2 f1)) moX10_goBack mlL_138 to_91 rfl rfl dL_law_1185 (Nat.le_of_ble_eq_true rfl) (Nat.le_of_ble_eq_true rfl) (fun vg2 g2 q => ?_)
  obtain ⟨rfl, m2, f2⟩ := q
  exact r_icmp_eq (tgt := 1193) hK dL_law_1188 (by decide) (fun _ => k _ _ (CS_hi c1 f2) m2) (fun h => absurd rfl h)
theorem gt_5 {L i : Nat} (hL : L ≤ 320) (hi : i ≤ 400) (h : ¬ nI L - 5 < nI i) : i + 5 ≤ L := by
  rcases Nat.lt_or_ge L 5 with z | z
  · exfalso
    apply h
    have h9 : (nI i).toInt = i := nI_toInt (by omega)
    rw [Int32.lt_iff_toInt_lt, h9]
    obtain rfl | rfl | rfl | rfl | rfl : L = 0 ∨ L = 1 ∨ L = 2 ∨ L = 3 ∨ L = 4 := by omega
    · exact Int.lt_of_lt_of_le (show (nI 0 - 5).toInt < 0 by decide) (Int.natCast_nonneg _)
    · exact Int.lt_of_lt_of_le (show (nI 1 - 5).toInt < 0 by decide) (Int.natCast_nonneg _)
    · exact Int.lt_of_lt_of_le (show (nI 2 - 5).toInt < 0 by decide) (Int.natCast_nonneg _)
    · exact Int.lt_of_lt_of_le (show (nI 3 - 5).toInt < 0 by decide) (Int.natCast_nonneg _)
    · exact Int.lt_of_lt_of_le (show (nI 4 - 5).toInt < 0 by decide) (Int.natCast_nonneg _)
  · rw [show (5 : Int32) = nI 5 from rfl, pk_sub z] at h
    refine Nat.le_of_not_lt (fun q => h (nI_lt (show L - 5 < i by omega) (by omega)))
set_option maxHeartbeats 4000000 in
set_option maxRecDepth 100000 in
theorem law_loop {K : KT} {n1 n2 : Nat} {ad : Nat → Nat} {L : Nat} {xs : Nat → Int32} (hK : Cx K RL cL_law 1000 ad) (hm : K.2.2.1.2.maxLocals = 4) (hnn : Nn K n1 n2) (hX : va_X (ad 2000) L xs K.2.1.1 K.2.1.1.heap ∧ ad 2000 < K.2.1.1.heap.size ∧ ¬ K.2.2.2.1.2.2 (ad 2000)) (hL : L ≤ 320) (hret : ∀ g lv, Wp K n1 n2 TT ad g 1200 lv [.int 1]) :
    ∀ n i g (σ : SG), L < i + n → i ≤ L → CS g σ → MS g σ → Wp K n1 n2 TT ad g 18 (LW i) [] := by
  intro n
  induction n with
  | zero => intro i g σ h1 h2; omega
  | succ n ih =>
    intro i g σ hn hiL h1 h2
    have k1193 : i + 5 ≤ L → ∀ g' σ', CS g' σ' → MS g' σ' → Wp K n1 n2 TT ad g' 1193 (LW i) [] := fun hi5 g' σ' c m => by
      refine r_iincc (i := 3) (c := 5) hK hm dL_law_1193 rfl (by decide) (by decide) ?_
      refine r_goto (tgt := 18) hK dL_law_1196 (by decide) ?_
      have e : nI i + 5 = nI (i + 5) := nI_add i 5
      rw [e]
      refine r_loc ?_ (ih (i + 5) g' σ' (by omega) hi5 c m)
      rfl
    refine r_iload_n (i := 3) hK dL_law_18 rfl rfl ?_
    refine r_aload_n (i := 0) hK dL_law_19 rfl rfl ?_
    refine r_slen9 hK hX dL_law_20 ?_
    refine r_iconst (v := 5) hK dL_law_21 (by decide) ?_
    refine r_isub hK dL_law_22 ?_
    refine r_icmp_gt (tgt := 1199) hK dL_law_23 (by decide) (fun _ => ?_) (fun h23 => ?_)
    · refine r_iconst (v := 1) hK dL_law_1199 (by decide) ?_
      exact hret g _
    · have hi : i + 5 ≤ L := gt_5 hL (by omega) h23
      refine r_aload_n (i := 0) hK dL_law_26 rfl rfl ?_
      refine r_iload_n (i := 3) hK dL_law_27 rfl rfl ?_
      refine r_sld hK hX rfl (by omega) hL dL_law_28 ?_
      refine r_bipush (v := 31) hK dL_law_29 (by decide) ?_
      refine r_iand hK dL_law_31 ?_
      refine r_sw (n := 29) (lo := 0) (tgt0 := 1193) hK dL_law_32 (by decide) (by decide) (by decide) (by decide) (fun _ => k1193 hi g σ h1 h2) (fun j hj _ => ?_)
      obtain rfl | rfl | rfl | rfl | rfl | rfl | rfl | rfl | rfl | rfl | rfl | rfl | rfl | rfl | rfl | rfl | rfl | rfl | rfl | rfl | rfl | rfl | rfl | rfl | rfl | rfl | rfl | rfl | rfl : j = 0 ∨ j = 1 ∨ j = 2 ∨ j = 3 ∨ j = 4 ∨ j = 5 ∨ j = 6 ∨ j = 7 ∨ j = 8 ∨ j = 9 ∨ j = 10 ∨ j = 11 ∨ j = 12 ∨ j = 13 ∨ j = 14 ∨ j = 15 ∨ j = 16 ∨ j = 17 ∨ j = 18 ∨ j = 19 ∨ j = 20 ∨ j = 21 ∨ j = 22 ∨ j = 23 ∨ j = 24 ∨ j = 25 ∨ j = 26 ∨ j = 27 ∨ j = 28 := by omega
      · exact ⟨_, 164, rfl, by decide, lk_0 hK hnn hX hL hi h1 h2 (k1193 hi)⟩
      · exact ⟨_, 227, rfl, by decide, lk_1 hK hnn hX hL hi h1 h2 (k1193 hi)⟩
      · exact ⟨_, 240, rfl, by decide, lk_2 hK hnn hX hL hi h1 h2 (k1193 hi)⟩
      · exact ⟨_, 253, rfl, by decide, lk_3 hK hnn hX hL hi h1 h2 (k1193 hi)⟩
      · exact ⟨_, 276, rfl, by decide, lk_4 hK hnn hX hL hi h1 h2 (k1193 hi)⟩
      · exact ⟨_, 309, rfl, by decide, lk_5 hK hnn hX hL hi h1 h2 (k1193 hi)⟩
      · exact ⟨_, 342, rfl, by decide, lk_6 hK hnn hX hL hi h1 h2 (k1193 hi)⟩
      · exact ⟨_, 375, rfl, by decide, lk_7 hK hnn hX hL hi h1 h2 (k1193 hi)⟩
      · exact ⟨_, 398, rfl, by decide, lk_8 hK hnn hX hL hi h1 h2 (k1193 hi)⟩
      · exact ⟨_, 457, rfl, by decide, lk_9 hK hnn hX hL hi h1 h2 (k1193 hi)⟩
      · exact ⟨_, 490, rfl, by decide, lk_10 hK hnn hX hL hi h1 h2 (k1193 hi)⟩
      · exact ⟨_, 543, rfl, by decide, lk_11 hK hnn hX hL hi h1 h2 (k1193 hi)⟩
      · exact ⟨_, 596, rfl, by decide, lk_12 hK hnn hX hL hi h1 h2 (k1193 hi)⟩
      · exact ⟨_, 649, rfl, by decide, lk_13 hK hnn hX hL hi h1 h2 (k1193 hi)⟩
      · exact ⟨_, 718, rfl, by decide, lk_14 hK hnn hX hL hi h1 h2 (k1193 hi)⟩
      · exact ⟨_, 751, rfl, by decide, lk_15 hK hnn hX hL hi h1 h2 (k1193 hi)⟩
      · exact ⟨_, 794, rfl, by decide, lk_16 hK hnn hX hL hi h1 h2 (k1193 hi)⟩
      · exact ⟨_, 837, rfl, by decide, lk_17 hK hnn hX hL hi h1 h2 (k1193 hi)⟩
      · exact ⟨_, 880, rfl, by decide, lk_18 hK hnn hX hL hi h1 h2 (k1193 hi)⟩
      · exact ⟨_, 933, rfl, by decide, lk_19 hK hnn hX hL hi h1 h2 (k1193 hi)⟩
      · exact ⟨_, 966, rfl, by decide, lk_20 hK hnn hX hL hi h1 h2 (k1193 hi)⟩
      · exact ⟨_, 999, rfl, by decide, lk_21 hK hnn hX hL hi h1 h2 (k1193 hi)⟩
      · exact ⟨_, 1012, rfl, by decide, lk_22 hK hnn hX hL hi h1 h2 (k1193 hi)⟩
      · exact ⟨_, 1065, rfl, by decide, lk_23 hK hnn hX hL hi h1 h2 (k1193 hi)⟩
      · exact ⟨_, 1078, rfl, by decide, lk_24 hK hnn hX hL hi h1 h2 (k1193 hi)⟩
      · exact ⟨_, 1091, rfl, by decide, lk_25 hK hnn hX hL hi h1 h2 (k1193 hi)⟩
      · exact ⟨_, 1124, rfl, by decide, lk_26 hK hnn hX hL hi h1 h2 (k1193 hi)⟩
      · exact ⟨_, 1147, rfl, by decide, lk_27 hK hnn hX hL hi h1 h2 (k1193 hi)⟩
      · exact ⟨_, 1170, rfl, by decide, lk_28 hK hnn hX hL hi h1 h2 (k1193 hi)⟩
