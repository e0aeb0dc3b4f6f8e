set_option maxHeartbeats 1000000 in
set_option maxRecDepth 100000 in
theorem lc_rate {p : Program} {l : Launch} {e : Env} {s : State} {m : MethodId} {below : List Frame} {meth : Method} {cd : Code} {D : va_G} {Y : Nat → ClassId} {b L : Nat} {xs : Nat → Int32} {x ou c cells slots : Nat} {ad : Nat → Nat} {M : MS} {σ : sg_W} {H : Heap} {locs : List Loc} {ls : Array Slot} {iv : Int32} {Q : State → Prop} (hE : lwE p l s m cd D Y b L xs) (hW : LW Y x ou ad M c σ) (hc : c < 512) (hP : sg_P D σ H) (hD : sg_D (fun q : Nat => s.heap.size ≤ q) σ) (hS : va_S (fun q : Nat => s.heap.size ≤ q) s.heap H locs) (hl : lv_has ls 8 (lw5 b x ou ad iv)) (hce : cells + 6 ≤ 601024) (hsl : slots + 50 ≤ 7293034) (h1 : vp_in (iv + 1) L) (h2 : vp_in (iv + 2) L) (kK : lwK p l e s m below meth cd D Y b x ou ad c iv cells slots Q) : W p l e room_1 s m #[Value.ref b] below meth cd H locs cells slots Q (F0 m 317 ls []) := by
  obtain ⟨hx, hb, hml, hown, hts, hX, hbl, hK, hN, hC, hXs, hfl⟩ := hE
  obtain ⟨aM, N, aO, aL, aC, P, t, f, hQ, hR, h, ho, hM⟩ := hW
  have hA : ∀ q : Nat, s.heap.size ≤ q → (fun q : Nat => s.heap.size ≤ q) q := fun _ z => z
  have hbA : ¬ (fun q : Nat => s.heap.size ≤ q) b := Nat.not_le.mpr hbl
  have hl : lv_has ls 8 [(0, .ref b), (1, .ref x), (2, .ref (ad 0)), (3, .ref ou), (4, .int iv)] := hl
  obtain ⟨a1, ea1⟩ : ∃ z, z = xs (iv + 1).toNatClampNeg := ⟨_, rfl⟩
  obtain ⟨a2, ea2⟩ : ∃ z, z = xs (iv + 2).toNatClampNeg := ⟨_, rfl⟩
  refine lv_aload_n hx hb dL_law_317 rfl (lv_at hl 1 rfl) ?_
  refine lv_aload_n hx hb dL_law_318 rfl (lv_at hl 0 rfl) ?_
  refine lv_iload hx hb dL_law_319 (lv_at hl 4 rfl) ?_
  refine lv_iconst (v := 1) hx hb dL_law_321 (by decide) ?_
  refine lv_iadd hx hb dL_law_322 ?_
  refine va_sld hx hb hX hbl hbA hS h1 dL_law_323 ?_
  refine lv_topi (fun v323 ev323 => ?_)
  obtain rfl : a1 = v323 := ea1.trans ev323.symm
  refine lv_aload_n hx hb dL_law_324 rfl (lv_at hl 0 rfl) ?_
  refine lv_iload hx hb dL_law_325 (lv_at hl 4 rfl) ?_
  refine lv_iconst (v := 2) hx hb dL_law_327 (by decide) ?_
  refine lv_iadd hx hb dL_law_328 ?_
  refine va_sld hx hb hX hbl hbA hS h2 dL_law_329 ?_
  refine lv_topi (fun v329 ev329 => ?_)
  obtain rfl : a2 = v329 := ea2.trans ev329.symm
  refine lv_aload_n hx hb dL_law_330 rfl (lv_at hl 3 rfl) ?_
  refine sg_xcalli hD hS hA (vx_runSX (As := [.ref x, .int a1, .int a2, .ref ou]) (rest := []) ⟨hx, hb, hml, hown, hts⟩ (c_L_rate l hfl D Y _ _ x ou aM N t c aO aL aC P M f a1 a2 hQ ho h hc hR) (vx_cwSW 4 hts gL_law_L_rate rfl rfl rfl (by decide +kernel) ⟨(Nat.le_of_ble_eq_true rfl), (Nat.le_of_ble_eq_true rfl)⟩) (lh_preS hK hP hD hN hC hXs hS hA) rfl rfl hl.1 rfl (lv_room (Nat.le_of_ble_eq_true rfl)) dL_law_331 ⟨by show cells + 3 ≤ 601024; omega, by show slots + 18 ≤ 7293034; omega⟩) (fun E ce q9 H locs hpx hP hD hS hce hcv hcl => False.elim hpx) (fun r2 σ2 H locs hw hP hD hS => ?_)
  have hM2 : MW Y ad M σ2 := hw.mw hM
  obtain ⟨e2, g0, gn⟩ := hw
  refine lv_istore (lv' := [(5, .int r2), (0, .ref b), (1, .ref x), (2, .ref (ad 0)), (3, .ref ou), (4, .int iv)]) hx hb dL_law_334 hl (by decide) rfl (fun ls hl => ?_)
  refine lv_aload_n hx hb dL_law_336 rfl (lv_at hl 3 rfl) ?_
  refine lv_aload_n hx hb dL_law_337 rfl (lv_at hl 1 rfl) ?_
  refine lv_iload hx hb dL_law_338 (lv_at hl 5 rfl) ?_
  refine lv_iconst (v := 1) hx hb dL_law_340 (by decide) ?_
  refine lv_iadd hx hb dL_law_341 ?_
  refine va_sld hx hb hX hbl hbA hS h1 dL_law_342 ?_
  refine lv_topi (fun v342 ev342 => ?_)
  obtain rfl : a1 = v342 := ea1.trans ev342.symm
  refine lv_aload_n hx hb dL_law_343 rfl (lv_at hl 1 rfl) ?_
  refine lv_iload hx hb dL_law_344 (lv_at hl 5 rfl) ?_
  refine lv_iconst (v := 2) hx hb dL_law_346 (by decide) ?_
  refine lv_iadd hx hb dL_law_347 ?_
  refine va_sld hx hb hX hbl hbA hS h2 dL_law_348 ?_
  refine lv_topi (fun v348 ev348 => ?_)
  obtain rfl : a2 = v348 := ea2.trans ev348.symm
  refine sg_calli hD hS hA (va_runV (As := [.int a1, .int a2]) (rest := []) ⟨hx, hb, hml, hown, hts⟩ (c_X3_rate l D Y _ _ ad M a1 a2 h.six hM2) (cwV 2 hts gL_law_X3_rate rfl rfl rfl (by decide +kernel) ⟨(Nat.le_of_ble_eq_true rfl), (Nat.le_of_ble_eq_true rfl)⟩) (sg_preV (q := (RX3, TX3, 20)) (hM2.1 0 rfl) rfl hK hP hD hN hXs hS hA) rfl rfl hl.1 rfl (lv_room (Nat.le_of_ble_eq_true rfl)) dL_law_349 ⟨by show cells + 3 + 0 ≤ 601024; omega, by show slots + 18 + 0 ≤ 7293034; omega⟩) (fun r3 σ3 H locs hw hP hD hS => ?_)
  obtain ⟨hA3, hM3⟩ := hw
  refine lv_istore (lv' := [(6, .int r3), (5, .int r2), (0, .ref b), (1, .ref x), (2, .ref (ad 0)), (3, .ref ou), (4, .int iv)]) hx hb dL_law_352 hl (by decide) rfl (fun ls hl => ?_)
  refine lv_aload_n hx hb dL_law_354 rfl (lv_at hl 4 rfl) ?_
  refine sg_calli hD hS hA (va_runV (As := []) (rest := []) ⟨hx, hb, hml, hown, hts⟩ (c_X3_thrown l D Y _ _ ad _ hM3.self) (cwV 0 hts gL_law_X3_thrown rfl rfl rfl (by decide +kernel) ⟨(Nat.le_of_ble_eq_true rfl), (Nat.le_of_ble_eq_true rfl)⟩) (sg_preV (q := (RX3, TX3, 20)) (hM3.1 0 rfl) rfl hK hP hD hN hXs hS hA) rfl rfl hl.1 rfl (lv_room (Nat.le_of_ble_eq_true rfl)) dL_law_355 ⟨by show cells + 3 + 0 + 0 ≤ 601024; omega, by show slots + 18 + 0 + 0 ≤ 7293034; omega⟩) (fun r4 σ4 H locs hw hP hD hS => ?_)
  obtain ⟨e4, rfl⟩ := hw
  have e4 := e4.trans (s19_if rfl)
  refine lv_iload hx hb dL_law_358 (lv_at hl 1 rfl) ?_
  refine lv_icmp_eq (tgt := 365) hx hb dL_law_360 (by decide) (fun c9 => ?_) (fun c9 => absurd (e4.trans e2.symm) c9)
  refine lv_iload hx hb dL_law_365 (lv_at hl 1 rfl) ?_
  refine lv_if_ne (tgt := 382) hx hb dL_law_367 (by decide) (fun c8 => ?_) (fun c8 => ?_)
  · have hT : ¬ tRate M a1 a2 = 0 := fun q => (by simpa using c8 : ¬ r2 = 0) (e2.trans q)
    rw [if_neg hT] at hM3
    have e5 := gn hT
    refine lv_goto (tgt := 1335) hx hb dL_law_382 (by decide) ?_
    refine W.widen (k := cells + 6) (n := slots + 50) (by omega) (by omega) ?_
    exact kK _ _ _ _ _ ⟨aM, N, aO, aL, aC, P, t, f, hQ.mf (fun n hn => (hM3.2 n hn).trans (congrFun e5.symm n)), hR.u19, (h.mon (by omega)).u19, ((hM3.2 120 (by omega)).trans (congrFun e5.symm 120)).trans ho, hM3.self⟩ hP hD hS (lv_sub hl [2, 3, 4, 5, 6] rfl)
  · have hT : tRate M a1 a2 = 0 := e2.symm.trans (by simpa using c8)
    rw [if_pos hT] at hM3
    obtain ⟨bM, bN2, bO, bL, bC, bP, bt, bf, hQ2, hR2, hI2, ho2, hv2, -⟩ := g0 hT
    have ho3 := (hM3.2 120 (by omega)).trans ho2
    refine lv_aload_n hx hb dL_law_370 rfl (lv_at hl 5 rfl) ?_
    refine lv_iconst (v := 0) hx hb dL_law_371 (by decide) ?_
    refine va_lald hx hb hK (sg_one hP ho3) 0 1 rfl rfl (vp_in_nI (n := 0) (by decide) (by decide)) dL_law_372 ?_
    refine lv_iload hx hb dL_law_373 (lv_at hl 0 rfl) ?_
    refine lv_i2l hx hb dL_law_375 rfl ?_
    refine W.lcmp hx hb dL_law_376 ?_
    refine lv_if_eq (tgt := 382) hx hb dL_law_377 (by decide) (fun c7 => ?_) (fun c7 => absurd ((lg_cmp_eq _ _).mpr (hv2.trans (by rw [hA3 hT]))) c7)
    refine lv_goto (tgt := 1335) hx hb dL_law_382 (by decide) ?_
    refine W.widen (k := cells + 6) (n := slots + 50) (by omega) (by omega) ?_
    exact kK _ _ _ _ _ ⟨bM, bN2, bO, bL, bC, bP, bt, bf, hQ2.mf hM3.2, hR2, hI2, ho3, hM3.self⟩ hP hD hS (lv_sub hl [2, 3, 4, 5, 6] rfl)

set_option maxHeartbeats 1000000 in
set_option maxRecDepth 100000 in
theorem lc_ceiling {p : Program} {l : Launch} {e : Env} {s : State} {m : MethodId} {below : List Frame} {meth : Method} {cd : Code} {D : va_G} {Y : Nat → ClassId} {b L : Nat} {xs : Nat → Int32} {x ou c cells slots : Nat} {ad : Nat → Nat} {M : MS} {σ : sg_W} {H : Heap} {locs : List Loc} {ls : Array Slot} {iv : Int32} {Q : State → Prop} (hE : lwE p l s m cd D Y b L xs) (hW : LW Y x ou ad M c σ) (hc : c < 512) (hP : sg_P D σ H) (hD : sg_D (fun q : Nat => s.heap.size ≤ q) σ) (hS : va_S (fun q : Nat => s.heap.size ≤ q) s.heap H locs) (hl : lv_has ls 8 (lw5 b x ou ad iv)) (hce : cells + 6 ≤ 601024) (hsl : slots + 50 ≤ 7293034) (h1 : vp_in (iv + 1) L) (h2 : vp_in (iv + 2) L) (kK : lwK p l e s m below meth cd D Y b x ou ad c iv cells slots Q) : W p l e room_1 s m #[Value.ref b] below meth cd H locs cells slots Q (F0 m 205 ls []) := by
  obtain ⟨hx, hb, hml, hown, hts, hX, hbl, hK, hN, hC, hXs, hfl⟩ := hE
  obtain ⟨aM, N, aO, aL, aC, P, t, f, hQ, hR, h, ho, hM⟩ := hW
  have hA : ∀ q : Nat, s.heap.size ≤ q → (fun q : Nat => s.heap.size ≤ q) q := fun _ z => z
  have hbA : ¬ (fun q : Nat => s.heap.size ≤ q) b := Nat.not_le.mpr hbl
  have hl : lv_has ls 8 [(0, .ref b), (1, .ref x), (2, .ref (ad 0)), (3, .ref ou), (4, .int iv)] := hl
  obtain ⟨a1, ea1⟩ : ∃ z, z = xs (iv + 1).toNatClampNeg := ⟨_, rfl⟩
  refine lv_aload_n hx hb dL_law_205 rfl (lv_at hl 1 rfl) ?_
  refine lv_aload_n hx hb dL_law_206 rfl (lv_at hl 0 rfl) ?_
  refine lv_iload hx hb dL_law_207 (lv_at hl 4 rfl) ?_
  refine lv_iconst (v := 1) hx hb dL_law_209 (by decide) ?_
  refine lv_iadd hx hb dL_law_210 ?_
  refine va_sld hx hb hX hbl hbA hS h1 dL_law_211 ?_
  refine lv_topi (fun v211 ev211 => ?_)
  obtain rfl : a1 = v211 := ea1.trans ev211.symm
  refine lv_aload_n hx hb dL_law_212 rfl (lv_at hl 3 rfl) ?_
  refine sg_xcalli hD hS hA (vx_runSX (As := [.ref x, .int a1, .ref ou]) (rest := []) ⟨hx, hb, hml, hown, hts⟩ (c_L_ceiling l hfl D Y _ _ x ou aM N t c aO aL aC P M f a1 hQ ho h hc hR) (vx_cwSW 3 hts gL_law_L_ceiling rfl rfl rfl (by decide +kernel) ⟨(Nat.le_of_ble_eq_true rfl), (Nat.le_of_ble_eq_true rfl)⟩) (lh_preS hK hP hD hN hC hXs hS hA) rfl rfl hl.1 rfl (lv_room (Nat.le_of_ble_eq_true rfl)) dL_law_213 ⟨by show cells + 1 ≤ 601024; omega, by show slots + 6 ≤ 7293034; omega⟩) (fun E ce q9 H locs hpx hP hD hS hce hcv hcl => False.elim hpx) (fun r2 σ2 H locs hw hP hD hS => ?_)
  have hM2 : MW Y ad M σ2 := hw.mw hM
  obtain ⟨e2, g0, gn⟩ := hw
  refine lv_istore (lv' := [(5, .int r2), (0, .ref b), (1, .ref x), (2, .ref (ad 0)), (3, .ref ou), (4, .int iv)]) hx hb dL_law_216 hl (by decide) rfl (fun ls hl => ?_)
  refine lv_aload_n hx hb dL_law_218 rfl (lv_at hl 3 rfl) ?_
  refine lv_aload_n hx hb dL_law_219 rfl (lv_at hl 1 rfl) ?_
  refine lv_iload hx hb dL_law_220 (lv_at hl 5 rfl) ?_
  refine lv_iconst (v := 1) hx hb dL_law_222 (by decide) ?_
  refine lv_iadd hx hb dL_law_223 ?_
  refine va_sld hx hb hX hbl hbA hS h1 dL_law_224 ?_
  refine lv_topi (fun v224 ev224 => ?_)
  obtain rfl : a1 = v224 := ea1.trans ev224.symm
  refine sg_calli hD hS hA (va_runV (As := [.int a1]) (rest := []) ⟨hx, hb, hml, hown, hts⟩ (c_X3_ceiling l D Y _ _ ad M a1 hM2) (cwV 1 hts gL_law_X3_ceiling rfl rfl rfl (by decide +kernel) ⟨(Nat.le_of_ble_eq_true rfl), (Nat.le_of_ble_eq_true rfl)⟩) (sg_preV (q := (RX3, TX3, 20)) (hM2.1 0 rfl) rfl hK hP hD hN hXs hS hA) rfl rfl hl.1 rfl (lv_room (Nat.le_of_ble_eq_true rfl)) dL_law_225 ⟨by show cells + 1 + 0 ≤ 601024; omega, by show slots + 6 + 0 ≤ 7293034; omega⟩) (fun r3 σ3 H locs hw hP hD hS => ?_)
  obtain ⟨hA3, hM3⟩ := hw
  refine lv_istore (lv' := [(6, .int r3), (5, .int r2), (0, .ref b), (1, .ref x), (2, .ref (ad 0)), (3, .ref ou), (4, .int iv)]) hx hb dL_law_228 hl (by decide) rfl (fun ls hl => ?_)
  refine lv_aload_n hx hb dL_law_230 rfl (lv_at hl 4 rfl) ?_
  refine sg_calli hD hS hA (va_runV (As := []) (rest := []) ⟨hx, hb, hml, hown, hts⟩ (c_X3_thrown l D Y _ _ ad _ hM3.self) (cwV 0 hts gL_law_X3_thrown rfl rfl rfl (by decide +kernel) ⟨(Nat.le_of_ble_eq_true rfl), (Nat.le_of_ble_eq_true rfl)⟩) (sg_preV (q := (RX3, TX3, 20)) (hM3.1 0 rfl) rfl hK hP hD hN hXs hS hA) rfl rfl hl.1 rfl (lv_room (Nat.le_of_ble_eq_true rfl)) dL_law_231 ⟨by show cells + 1 + 0 + 0 ≤ 601024; omega, by show slots + 6 + 0 + 0 ≤ 7293034; omega⟩) (fun r4 σ4 H locs hw hP hD hS => ?_)
  obtain ⟨e4, rfl⟩ := hw
  have e4 := e4.trans (s19_if rfl)
  refine lv_iload hx hb dL_law_234 (lv_at hl 1 rfl) ?_
  refine lv_icmp_eq (tgt := 241) hx hb dL_law_236 (by decide) (fun c9 => ?_) (fun c9 => absurd (e4.trans e2.symm) c9)
  refine lv_iload hx hb dL_law_241 (lv_at hl 1 rfl) ?_
  refine lv_if_ne (tgt := 258) hx hb dL_law_243 (by decide) (fun c8 => ?_) (fun c8 => ?_)
  · have hT : ¬ tCeil a1 = 0 := fun q => (by simpa using c8 : ¬ r2 = 0) (e2.trans q)
    rw [if_neg hT] at hM3
    have e5 := gn hT
    refine lv_goto (tgt := 1335) hx hb dL_law_258 (by decide) ?_
    refine W.widen (k := cells + 6) (n := slots + 50) (by omega) (by omega) ?_
    exact kK _ _ _ _ _ ⟨aM, N, aO, aL, aC, P, t, f, hQ.mf (fun n hn => (hM3.2 n hn).trans (congrFun e5.symm n)), hR.u19, (h.mon (by omega)).u19, ((hM3.2 120 (by omega)).trans (congrFun e5.symm 120)).trans ho, hM3.self⟩ hP hD hS (lv_sub hl [2, 3, 4, 5, 6] rfl)
  · have hT : tCeil a1 = 0 := e2.symm.trans (by simpa using c8)
    rw [if_pos hT] at hM3
    obtain ⟨bM, bN2, bO, bL, bC, bP, bt, bf, hQ2, hR2, hI2, ho2, hv2, -⟩ := g0 hT
    have ho3 := (hM3.2 120 (by omega)).trans ho2
    refine lv_aload_n hx hb dL_law_246 rfl (lv_at hl 5 rfl) ?_
    refine lv_iconst (v := 0) hx hb dL_law_247 (by decide) ?_
    refine va_lald hx hb hK (sg_one hP ho3) 0 1 rfl rfl (vp_in_nI (n := 0) (by decide) (by decide)) dL_law_248 ?_
    refine lv_iload hx hb dL_law_249 (lv_at hl 0 rfl) ?_
    refine lv_i2l hx hb dL_law_251 rfl ?_
    refine W.lcmp hx hb dL_law_252 ?_
    refine lv_if_eq (tgt := 258) hx hb dL_law_253 (by decide) (fun c7 => ?_) (fun c7 => absurd ((lg_cmp_eq _ _).mpr (hv2.trans (by rw [hA3 hT]))) c7)
    refine lv_goto (tgt := 1335) hx hb dL_law_258 (by decide) ?_
    refine W.widen (k := cells + 6) (n := slots + 50) (by omega) (by omega) ?_
    exact kK _ _ _ _ _ ⟨bM, bN2, bO, bL, bC, bP, bt, bf, hQ2.mf hM3.2, hR2, hI2, ho3, hM3.self⟩ hP hD hS (lv_sub hl [2, 3, 4, 5, 6] rfl)

set_option maxHeartbeats 1000000 in
set_option maxRecDepth 100000 in
theorem lc_join {p : Program} {l : Launch} {e : Env} {s : State} {m : MethodId} {below : List Frame} {meth : Method} {cd : Code} {D : va_G} {Y : Nat → ClassId} {b L : Nat} {xs : Nat → Int32} {x ou c cells slots : Nat} {ad : Nat → Nat} {M : MS} {σ : sg_W} {H : Heap} {locs : List Loc} {ls : Array Slot} {iv : Int32} {Q : State → Prop} (hE : lwE p l s m cd D Y b L xs) (hW : LW Y x ou ad M c σ) (hc : c < 512) (hP : sg_P D σ H) (hD : sg_D (fun q : Nat => s.heap.size ≤ q) σ) (hS : va_S (fun q : Nat => s.heap.size ≤ q) s.heap H locs) (hl : lv_has ls 8 (lw5 b x ou ad iv)) (hce : cells + 6 ≤ 601024) (hsl : slots + 50 ≤ 7293034) (h1 : vp_in (iv + 1) L) (h2 : vp_in (iv + 2) L) (kK : lwK p l e s m below meth cd D Y b x ou ad c iv cells slots Q) : W p l e room_1 s m #[Value.ref b] below meth cd H locs cells slots Q (F0 m 261 ls []) := by
  obtain ⟨hx, hb, hml, hown, hts, hX, hbl, hK, hN, hC, hXs, hfl⟩ := hE
  obtain ⟨aM, N, aO, aL, aC, P, t, f, hQ, hR, h, ho, hM⟩ := hW
  have hA : ∀ q : Nat, s.heap.size ≤ q → (fun q : Nat => s.heap.size ≤ q) q := fun _ z => z
  have hbA : ¬ (fun q : Nat => s.heap.size ≤ q) b := Nat.not_le.mpr hbl
  have hl : lv_has ls 8 [(0, .ref b), (1, .ref x), (2, .ref (ad 0)), (3, .ref ou), (4, .int iv)] := hl
  obtain ⟨a1, ea1⟩ : ∃ z, z = xs (iv + 1).toNatClampNeg := ⟨_, rfl⟩
  refine lv_aload_n hx hb dL_law_261 rfl (lv_at hl 1 rfl) ?_
  refine lv_aload_n hx hb dL_law_262 rfl (lv_at hl 0 rfl) ?_
  refine lv_iload hx hb dL_law_263 (lv_at hl 4 rfl) ?_
  refine lv_iconst (v := 1) hx hb dL_law_265 (by decide) ?_
  refine lv_iadd hx hb dL_law_266 ?_
  refine va_sld hx hb hX hbl hbA hS h1 dL_law_267 ?_
  refine lv_topi (fun v267 ev267 => ?_)
  obtain rfl : a1 = v267 := ea1.trans ev267.symm
  refine lv_aload_n hx hb dL_law_268 rfl (lv_at hl 3 rfl) ?_
  refine sg_xcalli hD hS hA (vx_runSX (As := [.ref x, .int a1, .ref ou]) (rest := []) ⟨hx, hb, hml, hown, hts⟩ (c_L_join l hfl D Y _ _ x ou aM N t c aO aL aC P M f a1 hQ ho h hc hR) (vx_cwSW 3 hts gL_law_L_join rfl rfl rfl (by decide +kernel) ⟨(Nat.le_of_ble_eq_true rfl), (Nat.le_of_ble_eq_true rfl)⟩) (lh_preS hK hP hD hN hC hXs hS hA) rfl rfl hl.1 rfl (lv_room (Nat.le_of_ble_eq_true rfl)) dL_law_269 ⟨by show cells + 5 ≤ 601024; omega, by show slots + 50 ≤ 7293034; omega⟩) (fun E ce q9 H locs hpx hP hD hS hce hcv hcl => False.elim hpx) (fun r2 σ2 H locs hw hP hD hS => ?_)
  have hM2 : MW Y ad M σ2 := hw.mw hM
  obtain ⟨e2, g0, gn⟩ := hw
  refine lv_istore (lv' := [(5, .int r2), (0, .ref b), (1, .ref x), (2, .ref (ad 0)), (3, .ref ou), (4, .int iv)]) hx hb dL_law_272 hl (by decide) rfl (fun ls hl => ?_)
  refine lv_aload_n hx hb dL_law_274 rfl (lv_at hl 3 rfl) ?_
  refine lv_aload_n hx hb dL_law_275 rfl (lv_at hl 1 rfl) ?_
  refine lv_iload hx hb dL_law_276 (lv_at hl 5 rfl) ?_
  refine lv_iconst (v := 1) hx hb dL_law_278 (by decide) ?_
  refine lv_iadd hx hb dL_law_279 ?_
  refine va_sld hx hb hX hbl hbA hS h1 dL_law_280 ?_
  refine lv_topi (fun v280 ev280 => ?_)
  obtain rfl : a1 = v280 := ea1.trans ev280.symm
  refine sg_calli hD hS hA (va_runV (As := [.int a1]) (rest := []) ⟨hx, hb, hml, hown, hts⟩ (c_X3_join l D Y _ _ ad M a1 h.six hM2) (cwV 1 hts gL_law_X3_join rfl rfl rfl (by decide +kernel) ⟨(Nat.le_of_ble_eq_true rfl), (Nat.le_of_ble_eq_true rfl)⟩) (sg_preV (q := (RX3, TX3, 20)) (hM2.1 0 rfl) rfl hK hP hD hN hXs hS hA) rfl rfl hl.1 rfl (lv_room (Nat.le_of_ble_eq_true rfl)) dL_law_281 ⟨by show cells + 5 + 0 ≤ 601024; omega, by show slots + 50 + 0 ≤ 7293034; omega⟩) (fun r3 σ3 H locs hw hP hD hS => ?_)
  obtain ⟨hA3, hM3⟩ := hw
  refine lv_istore (lv' := [(6, .int r3), (5, .int r2), (0, .ref b), (1, .ref x), (2, .ref (ad 0)), (3, .ref ou), (4, .int iv)]) hx hb dL_law_284 hl (by decide) rfl (fun ls hl => ?_)
  refine lv_aload_n hx hb dL_law_286 rfl (lv_at hl 4 rfl) ?_
  refine sg_calli hD hS hA (va_runV (As := []) (rest := []) ⟨hx, hb, hml, hown, hts⟩ (c_X3_thrown l D Y _ _ ad _ hM3.self) (cwV 0 hts gL_law_X3_thrown rfl rfl rfl (by decide +kernel) ⟨(Nat.le_of_ble_eq_true rfl), (Nat.le_of_ble_eq_true rfl)⟩) (sg_preV (q := (RX3, TX3, 20)) (hM3.1 0 rfl) rfl hK hP hD hN hXs hS hA) rfl rfl hl.1 rfl (lv_room (Nat.le_of_ble_eq_true rfl)) dL_law_287 ⟨by show cells + 5 + 0 + 0 ≤ 601024; omega, by show slots + 50 + 0 + 0 ≤ 7293034; omega⟩) (fun r4 σ4 H locs hw hP hD hS => ?_)
  obtain ⟨e4, rfl⟩ := hw
  have e4 := e4.trans (s19_if rfl)
  refine lv_iload hx hb dL_law_290 (lv_at hl 1 rfl) ?_
  refine lv_icmp_eq (tgt := 297) hx hb dL_law_292 (by decide) (fun c9 => ?_) (fun c9 => absurd (e4.trans e2.symm) c9)
  refine lv_iload hx hb dL_law_297 (lv_at hl 1 rfl) ?_
  refine lv_if_ne (tgt := 314) hx hb dL_law_299 (by decide) (fun c8 => ?_) (fun c8 => ?_)
  · have hT : ¬ tJoin M a1 = 0 := fun q => (by simpa using c8 : ¬ r2 = 0) (e2.trans q)
    rw [if_neg hT] at hM3
    have e5 := gn hT
    refine lv_goto (tgt := 1335) hx hb dL_law_314 (by decide) ?_
    refine W.widen (k := cells + 6) (n := slots + 50) (by omega) (by omega) ?_
    exact kK _ _ _ _ _ ⟨aM, N, aO, aL, aC, P, t, f, hQ.mf (fun n hn => (hM3.2 n hn).trans (congrFun e5.symm n)), hR.u19, (h.mon (by omega)).u19, ((hM3.2 120 (by omega)).trans (congrFun e5.symm 120)).trans ho, hM3.self⟩ hP hD hS (lv_sub hl [2, 3, 4, 5, 6] rfl)
  · have hT : tJoin M a1 = 0 := e2.symm.trans (by simpa using c8)
    rw [if_pos hT] at hM3
    obtain ⟨bM, bN2, bO, bL, bC, bP, bt, bf, hQ2, hR2, hI2, ho2, hv2, -⟩ := g0 hT
    have ho3 := (hM3.2 120 (by omega)).trans ho2
    refine lv_aload_n hx hb dL_law_302 rfl (lv_at hl 5 rfl) ?_
    refine lv_iconst (v := 0) hx hb dL_law_303 (by decide) ?_
    refine va_lald hx hb hK (sg_one hP ho3) 0 1 rfl rfl (vp_in_nI (n := 0) (by decide) (by decide)) dL_law_304 ?_
    refine lv_iload hx hb dL_law_305 (lv_at hl 0 rfl) ?_
    refine lv_i2l hx hb dL_law_307 rfl ?_
    refine W.lcmp hx hb dL_law_308 ?_
    refine lv_if_eq (tgt := 314) hx hb dL_law_309 (by decide) (fun c7 => ?_) (fun c7 => absurd ((lg_cmp_eq _ _).mpr (hv2.trans (by rw [hA3 hT]))) c7)
    refine lv_goto (tgt := 1335) hx hb dL_law_314 (by decide) ?_
    refine W.widen (k := cells + 6) (n := slots + 50) (by omega) (by omega) ?_
    exact kK _ _ _ _ _ ⟨bM, bN2, bO, bL, bC, bP, bt, bf, hQ2.mf hM3.2, hR2, hI2, ho3, hM3.self⟩ hP hD hS (lv_sub hl [2, 3, 4, 5, 6] rfl)

set_option maxHeartbeats 1000000 in
set_option maxRecDepth 100000 in
theorem lc_next {p : Program} {l : Launch} {e : Env} {s : State} {m : MethodId} {below : List Frame} {meth : Method} {cd : Code} {D : va_G} {Y : Nat → ClassId} {b L : Nat} {xs : Nat → Int32} {x ou c cells slots : Nat} {ad : Nat → Nat} {M : MS} {σ : sg_W} {H : Heap} {locs : List Loc} {ls : Array Slot} {iv : Int32} {Q : State → Prop} (hE : lwE p l s m cd D Y b L xs) (hW : LW Y x ou ad M c σ) (hc : c < 512) (hP : sg_P D σ H) (hD : sg_D (fun q : Nat => s.heap.size ≤ q) σ) (hS : va_S (fun q : Nat => s.heap.size ≤ q) s.heap H locs) (hl : lv_has ls 8 (lw5 b x ou ad iv)) (hce : cells + 6 ≤ 601024) (hsl : slots + 50 ≤ 7293034) (h1 : vp_in (iv + 1) L) (h2 : vp_in (iv + 2) L) (kK : lwK p l e s m below meth cd D Y b x ou ad c iv cells slots Q) : W p l e room_1 s m #[Value.ref b] below meth cd H locs cells slots Q (F0 m 136 ls []) := by
  obtain ⟨hx, hb, hml, hown, hts, hX, hbl, hK, hN, hC, hXs, hfl⟩ := hE
  obtain ⟨aM, N, aO, aL, aC, P, t, f, hQ, hR, h, ho, hM⟩ := hW
  have hA : ∀ q : Nat, s.heap.size ≤ q → (fun q : Nat => s.heap.size ≤ q) q := fun _ z => z
  have hbA : ¬ (fun q : Nat => s.heap.size ≤ q) b := Nat.not_le.mpr hbl
  have hl : lv_has ls 8 [(0, .ref b), (1, .ref x), (2, .ref (ad 0)), (3, .ref ou), (4, .int iv)] := hl
  obtain ⟨a1, ea1⟩ : ∃ z, z = xs (iv + 1).toNatClampNeg := ⟨_, rfl⟩
  refine lv_aload_n hx hb dL_law_136 rfl (lv_at hl 1 rfl) ?_
  refine lv_aload_n hx hb dL_law_137 rfl (lv_at hl 0 rfl) ?_
  refine lv_iload hx hb dL_law_138 (lv_at hl 4 rfl) ?_
  refine lv_iconst (v := 1) hx hb dL_law_140 (by decide) ?_
  refine lv_iadd hx hb dL_law_141 ?_
  refine va_sld hx hb hX hbl hbA hS h1 dL_law_142 ?_
  refine lv_topi (fun v142 ev142 => ?_)
  obtain rfl : a1 = v142 := ea1.trans ev142.symm
  refine lv_aload_n hx hb dL_law_143 rfl (lv_at hl 3 rfl) ?_
  refine sg_xcalli hD hS hA (vx_runSX (As := [.ref x, .int a1, .ref ou]) (rest := []) ⟨hx, hb, hml, hown, hts⟩ (c_L_next l hfl D Y _ _ x ou aM N t c aO aL aC P M f a1 hQ ho h hc hR) (vx_cwSW 3 hts gL_law_L_next rfl rfl rfl (by decide +kernel) ⟨(Nat.le_of_ble_eq_true rfl), (Nat.le_of_ble_eq_true rfl)⟩) (lh_preS hK hP hD hN hC hXs hS hA) rfl rfl hl.1 rfl (lv_room (Nat.le_of_ble_eq_true rfl)) dL_law_144 ⟨by show cells + 6 ≤ 601024; omega, by show slots + 42 ≤ 7293034; omega⟩) (fun E ce q9 H locs hpx hP hD hS hce hcv hcl => False.elim hpx) (fun r2 σ2 H locs hw hP hD hS => ?_)
  have hM2 : MW Y ad M σ2 := hw.mw hM
  obtain ⟨e2, g0, gn⟩ := hw
  refine lv_istore (lv' := [(5, .int r2), (0, .ref b), (1, .ref x), (2, .ref (ad 0)), (3, .ref ou), (4, .int iv)]) hx hb dL_law_147 hl (by decide) rfl (fun ls hl => ?_)
  refine lv_aload_n hx hb dL_law_149 rfl (lv_at hl 3 rfl) ?_
  refine lv_aload_n hx hb dL_law_150 rfl (lv_at hl 1 rfl) ?_
  refine lv_iload hx hb dL_law_151 (lv_at hl 5 rfl) ?_
  refine lv_iconst (v := 1) hx hb dL_law_153 (by decide) ?_
  refine lv_iadd hx hb dL_law_154 ?_
  refine va_sld hx hb hX hbl hbA hS h1 dL_law_155 ?_
  refine lv_topi (fun v155 ev155 => ?_)
  obtain rfl : a1 = v155 := ea1.trans ev155.symm
  refine sg_calli hD hS hA (va_runV (As := [.int a1]) (rest := []) ⟨hx, hb, hml, hown, hts⟩ (c_X3_next l D Y _ _ ad M a1 h.six (next_m1 h) (next_M h hR hc) hM2) (cwV 1 hts gL_law_X3_next rfl rfl rfl (by decide +kernel) ⟨(Nat.le_of_ble_eq_true rfl), (Nat.le_of_ble_eq_true rfl)⟩) (sg_preV (q := (RX3, TX3, 20)) (hM2.1 0 rfl) rfl hK hP hD hN hXs hS hA) rfl rfl hl.1 rfl (lv_room (Nat.le_of_ble_eq_true rfl)) dL_law_156 ⟨by show cells + 6 + 0 ≤ 601024; omega, by show slots + 42 + 0 ≤ 7293034; omega⟩) (fun r3 σ3 H locs hw hP hD hS => ?_)
  obtain ⟨hA3, hM3⟩ := hw
  refine lv_istore (lv' := [(6, .int r3), (5, .int r2), (0, .ref b), (1, .ref x), (2, .ref (ad 0)), (3, .ref ou), (4, .int iv)]) hx hb dL_law_159 hl (by decide) rfl (fun ls hl => ?_)
  refine lv_aload_n hx hb dL_law_161 rfl (lv_at hl 4 rfl) ?_
  refine sg_calli hD hS hA (va_runV (As := []) (rest := []) ⟨hx, hb, hml, hown, hts⟩ (c_X3_thrown l D Y _ _ ad _ hM3.self) (cwV 0 hts gL_law_X3_thrown rfl rfl rfl (by decide +kernel) ⟨(Nat.le_of_ble_eq_true rfl), (Nat.le_of_ble_eq_true rfl)⟩) (sg_preV (q := (RX3, TX3, 20)) (hM3.1 0 rfl) rfl hK hP hD hN hXs hS hA) rfl rfl hl.1 rfl (lv_room (Nat.le_of_ble_eq_true rfl)) dL_law_162 ⟨by show cells + 6 + 0 + 0 ≤ 601024; omega, by show slots + 42 + 0 + 0 ≤ 7293034; omega⟩) (fun r4 σ4 H locs hw hP hD hS => ?_)
  obtain ⟨e4, rfl⟩ := hw
  have e4 := e4.trans (s19_if s19_next)
  refine lv_iload hx hb dL_law_165 (lv_at hl 1 rfl) ?_
  refine lv_icmp_eq (tgt := 172) hx hb dL_law_167 (by decide) (fun c9 => ?_) (fun c9 => absurd (e4.trans e2.symm) c9)
  refine lv_iload hx hb dL_law_172 (lv_at hl 1 rfl) ?_
  refine lv_if_ne (tgt := 189) hx hb dL_law_174 (by decide) (fun c8 => ?_) (fun c8 => ?_)
  · have hT : ¬ tNext M a1 = 0 := fun q => (by simpa using c8 : ¬ r2 = 0) (e2.trans q)
    rw [if_neg hT] at hM3
    have e5 := gn hT
    refine lv_goto (tgt := 1335) hx hb dL_law_189 (by decide) ?_
    refine W.widen (k := cells + 6) (n := slots + 50) (by omega) (by omega) ?_
    exact kK _ _ _ _ _ ⟨aM, N, aO, aL, aC, P, t, f, hQ.mf (fun n hn => (hM3.2 n hn).trans (congrFun e5.symm n)), hR.u19, (h.mon (by omega)).u19, ((hM3.2 120 (by omega)).trans (congrFun e5.symm 120)).trans ho, hM3.self⟩ hP hD hS (lv_sub hl [2, 3, 4, 5, 6] rfl)
  · have hT : tNext M a1 = 0 := e2.symm.trans (by simpa using c8)
    rw [if_pos hT] at hM3
    obtain ⟨bM, bN2, bO, bL, bC, bP, bt, bf, hQ2, hR2, hI2, ho2, hv2, -⟩ := g0 hT
    have ho3 := (hM3.2 120 (by omega)).trans ho2
    refine lv_aload_n hx hb dL_law_177 rfl (lv_at hl 5 rfl) ?_
    refine lv_iconst (v := 0) hx hb dL_law_178 (by decide) ?_
    refine va_lald hx hb hK (sg_one hP ho3) 0 1 rfl rfl (vp_in_nI (n := 0) (by decide) (by decide)) dL_law_179 ?_
    refine lv_iload hx hb dL_law_180 (lv_at hl 0 rfl) ?_
    refine lv_i2l hx hb dL_law_182 rfl ?_
    refine W.lcmp hx hb dL_law_183 ?_
    refine lv_if_eq (tgt := 189) hx hb dL_law_184 (by decide) (fun c7 => ?_) (fun c7 => absurd ((lg_cmp_eq _ _).mpr (hv2.trans (by rw [hA3 hT]))) c7)
    refine lv_goto (tgt := 1335) hx hb dL_law_189 (by decide) ?_
    refine W.widen (k := cells + 6) (n := slots + 50) (by omega) (by omega) ?_
    exact kK _ _ _ _ _ ⟨bM, bN2, bO, bL, bC, bP, bt, bf, hQ2.mf hM3.2, hR2, hI2, ho3, hM3.self⟩ hP hD hS (lv_sub hl [2, 3, 4, 5, 6] rfl)

set_option maxHeartbeats 1000000 in
set_option maxRecDepth 100000 in
theorem lc_sell {p : Program} {l : Launch} {e : Env} {s : State} {m : MethodId} {below : List Frame} {meth : Method} {cd : Code} {D : va_G} {Y : Nat → ClassId} {b L : Nat} {xs : Nat → Int32} {x ou c cells slots : Nat} {ad : Nat → Nat} {M : MS} {σ : sg_W} {H : Heap} {locs : List Loc} {ls : Array Slot} {iv : Int32} {Q : State → Prop} (hE : lwE p l s m cd D Y b L xs) (hW : LW Y x ou ad M c σ) (hc : c < 512) (hP : sg_P D σ H) (hD : sg_D (fun q : Nat => s.heap.size ≤ q) σ) (hS : va_S (fun q : Nat => s.heap.size ≤ q) s.heap H locs) (hl : lv_has ls 8 (lw5 b x ou ad iv)) (hce : cells + 6 ≤ 601024) (hsl : slots + 50 ≤ 7293034) (h1 : vp_in (iv + 1) L) (h2 : vp_in (iv + 2) L) (kK : lwK p l e s m below meth cd D Y b x ou ad c iv cells slots Q) : W p l e room_1 s m #[Value.ref b] below meth cd H locs cells slots Q (F0 m 1102 ls []) := by
  obtain ⟨hx, hb, hml, hown, hts, hX, hbl, hK, hN, hC, hXs, hfl⟩ := hE
  obtain ⟨aM, N, aO, aL, aC, P, t, f, hQ, hR, h, ho, hM⟩ := hW
  have hA : ∀ q : Nat, s.heap.size ≤ q → (fun q : Nat => s.heap.size ≤ q) q := fun _ z => z
  have hbA : ¬ (fun q : Nat => s.heap.size ≤ q) b := Nat.not_le.mpr hbl
  have hl : lv_has ls 8 [(0, .ref b), (1, .ref x), (2, .ref (ad 0)), (3, .ref ou), (4, .int iv)] := hl
  obtain ⟨a1, ea1⟩ : ∃ z, z = xs (iv + 1).toNatClampNeg := ⟨_, rfl⟩
  obtain ⟨a2, ea2⟩ : ∃ z, z = xs (iv + 2).toNatClampNeg := ⟨_, rfl⟩
  refine lv_aload_n hx hb dL_law_1102 rfl (lv_at hl 1 rfl) ?_
  refine lv_aload_n hx hb dL_law_1103 rfl (lv_at hl 0 rfl) ?_
  refine lv_iload hx hb dL_law_1104 (lv_at hl 4 rfl) ?_
  refine lv_iconst (v := 1) hx hb dL_law_1106 (by decide) ?_
  refine lv_iadd hx hb dL_law_1107 ?_
  refine va_sld hx hb hX hbl hbA hS h1 dL_law_1108 ?_
  refine lv_topi (fun v1108 ev1108 => ?_)
  obtain rfl : a1 = v1108 := ea1.trans ev1108.symm
  refine lv_aload_n hx hb dL_law_1109 rfl (lv_at hl 0 rfl) ?_
  refine lv_iload hx hb dL_law_1110 (lv_at hl 4 rfl) ?_
  refine lv_iconst (v := 2) hx hb dL_law_1112 (by decide) ?_
  refine lv_iadd hx hb dL_law_1113 ?_
  refine va_sld hx hb hX hbl hbA hS h2 dL_law_1114 ?_
  refine lv_topi (fun v1114 ev1114 => ?_)
  obtain rfl : a2 = v1114 := ea2.trans ev1114.symm
  refine lv_aload_n hx hb dL_law_1115 rfl (lv_at hl 3 rfl) ?_
  refine sg_xcalli hD hS hA (vx_runSX (As := [.ref x, .int a1, .int a2, .ref ou]) (rest := []) ⟨hx, hb, hml, hown, hts⟩ (c_L_sell l hfl D Y _ _ x ou aM N t c aO aL aC P M f a1 a2 hQ ho h hc hR) (vx_cwSW 4 hts gL_law_L_sell rfl rfl rfl (by decide +kernel) ⟨(Nat.le_of_ble_eq_true rfl), (Nat.le_of_ble_eq_true rfl)⟩) (lh_preS hK hP hD hN hC hXs hS hA) rfl rfl hl.1 rfl (lv_room (Nat.le_of_ble_eq_true rfl)) dL_law_1116 ⟨by show cells + 3 ≤ 601024; omega, by show slots + 18 ≤ 7293034; omega⟩) (fun E ce q9 H locs hpx hP hD hS hce hcv hcl => False.elim hpx) (fun r2 σ2 H locs hw hP hD hS => ?_)
  have hM2 : MW Y ad M σ2 := hw.mw hM
  obtain ⟨e2, g0, gn⟩ := hw
  refine lv_istore (lv' := [(5, .int r2), (0, .ref b), (1, .ref x), (2, .ref (ad 0)), (3, .ref ou), (4, .int iv)]) hx hb dL_law_1119 hl (by decide) rfl (fun ls hl => ?_)
  refine lv_aload_n hx hb dL_law_1121 rfl (lv_at hl 3 rfl) ?_
  refine lv_aload_n hx hb dL_law_1122 rfl (lv_at hl 1 rfl) ?_
  refine lv_iload hx hb dL_law_1123 (lv_at hl 5 rfl) ?_
  refine lv_iconst (v := 1) hx hb dL_law_1125 (by decide) ?_
  refine lv_iadd hx hb dL_law_1126 ?_
  refine va_sld hx hb hX hbl hbA hS h1 dL_law_1127 ?_
  refine lv_topi (fun v1127 ev1127 => ?_)
  obtain rfl : a1 = v1127 := ea1.trans ev1127.symm
  refine lv_aload_n hx hb dL_law_1128 rfl (lv_at hl 1 rfl) ?_
  refine lv_iload hx hb dL_law_1129 (lv_at hl 5 rfl) ?_
  refine lv_iconst (v := 2) hx hb dL_law_1131 (by decide) ?_
  refine lv_iadd hx hb dL_law_1132 ?_
  refine va_sld hx hb hX hbl hbA hS h2 dL_law_1133 ?_
  refine lv_topi (fun v1133 ev1133 => ?_)
  obtain rfl : a2 = v1133 := ea2.trans ev1133.symm
  refine sg_calli hD hS hA (va_runV (As := [.int a1, .int a2]) (rest := []) ⟨hx, hb, hml, hown, hts⟩ (c_X3_sell l D Y _ _ ad M a1 a2 h.six h.ho h.hm hM2) (cwV 2 hts gL_law_X3_sell rfl rfl rfl (by decide +kernel) ⟨(Nat.le_of_ble_eq_true rfl), (Nat.le_of_ble_eq_true rfl)⟩) (sg_preV (q := (RX3, TX3, 20)) (hM2.1 0 rfl) rfl hK hP hD hN hXs hS hA) rfl rfl hl.1 rfl (lv_room (Nat.le_of_ble_eq_true rfl)) dL_law_1134 ⟨by show cells + 3 + 0 ≤ 601024; omega, by show slots + 18 + 0 ≤ 7293034; omega⟩) (fun r3 σ3 H locs hw hP hD hS => ?_)
  obtain ⟨hA3, hM3⟩ := hw
  refine lv_istore (lv' := [(6, .int r3), (5, .int r2), (0, .ref b), (1, .ref x), (2, .ref (ad 0)), (3, .ref ou), (4, .int iv)]) hx hb dL_law_1137 hl (by decide) rfl (fun ls hl => ?_)
  refine lv_aload_n hx hb dL_law_1139 rfl (lv_at hl 4 rfl) ?_
  refine sg_calli hD hS hA (va_runV (As := []) (rest := []) ⟨hx, hb, hml, hown, hts⟩ (c_X3_thrown l D Y _ _ ad _ hM3.self) (cwV 0 hts gL_law_X3_thrown rfl rfl rfl (by decide +kernel) ⟨(Nat.le_of_ble_eq_true rfl), (Nat.le_of_ble_eq_true rfl)⟩) (sg_preV (q := (RX3, TX3, 20)) (hM3.1 0 rfl) rfl hK hP hD hN hXs hS hA) rfl rfl hl.1 rfl (lv_room (Nat.le_of_ble_eq_true rfl)) dL_law_1140 ⟨by show cells + 3 + 0 + 0 ≤ 601024; omega, by show slots + 18 + 0 + 0 ≤ 7293034; omega⟩) (fun r4 σ4 H locs hw hP hD hS => ?_)
  obtain ⟨e4, rfl⟩ := hw
  have e4 := e4.trans (s19_if s19_sell)
  refine lv_iload hx hb dL_law_1143 (lv_at hl 1 rfl) ?_
  refine lv_icmp_eq (tgt := 1150) hx hb dL_law_1145 (by decide) (fun c9 => ?_) (fun c9 => absurd (e4.trans e2.symm) c9)
  refine lv_iload hx hb dL_law_1150 (lv_at hl 1 rfl) ?_
  refine lv_if_ne (tgt := 1167) hx hb dL_law_1152 (by decide) (fun c8 => ?_) (fun c8 => ?_)
  · have hT : ¬ tSell M a1 a2 = 0 := fun q => (by simpa using c8 : ¬ r2 = 0) (e2.trans q)
    rw [if_neg hT] at hM3
    have e5 := gn hT
    refine lv_goto (tgt := 1335) hx hb dL_law_1167 (by decide) ?_
    refine W.widen (k := cells + 6) (n := slots + 50) (by omega) (by omega) ?_
    exact kK _ _ _ _ _ ⟨aM, N, aO, aL, aC, P, t, f, hQ.mf (fun n hn => (hM3.2 n hn).trans (congrFun e5.symm n)), hR.u19, (h.mon (by omega)).u19, ((hM3.2 120 (by omega)).trans (congrFun e5.symm 120)).trans ho, hM3.self⟩ hP hD hS (lv_sub hl [2, 3, 4, 5, 6] rfl)
  · have hT : tSell M a1 a2 = 0 := e2.symm.trans (by simpa using c8)
    rw [if_pos hT] at hM3
    obtain ⟨bM, bN2, bO, bL, bC, bP, bt, bf, hQ2, hR2, hI2, ho2, hv2, -⟩ := g0 hT
    have ho3 := (hM3.2 120 (by omega)).trans ho2
    refine lv_aload_n hx hb dL_law_1155 rfl (lv_at hl 5 rfl) ?_
    refine lv_iconst (v := 0) hx hb dL_law_1156 (by decide) ?_
    refine va_lald hx hb hK (sg_one hP ho3) 0 1 rfl rfl (vp_in_nI (n := 0) (by decide) (by decide)) dL_law_1157 ?_
    refine lv_iload hx hb dL_law_1158 (lv_at hl 0 rfl) ?_
    refine lv_i2l hx hb dL_law_1160 rfl ?_
    refine W.lcmp hx hb dL_law_1161 ?_
    refine lv_if_eq (tgt := 1167) hx hb dL_law_1162 (by decide) (fun c7 => ?_) (fun c7 => absurd ((lg_cmp_eq _ _).mpr (hv2.trans (by rw [hA3 hT]))) c7)
    refine lv_goto (tgt := 1335) hx hb dL_law_1167 (by decide) ?_
    refine W.widen (k := cells + 6) (n := slots + 50) (by omega) (by omega) ?_
    exact kK _ _ _ _ _ ⟨bM, bN2, bO, bL, bC, bP, bt, bf, hQ2.mf hM3.2, hR2, hI2, ho3, hM3.self⟩ hP hD hS (lv_sub hl [2, 3, 4, 5, 6] rfl)
