set_option maxHeartbeats 1000000 in
set_option maxRecDepth 100000 in
theorem lc_slip {p : Program} {l : Launch} {e : Env} {s : State} {m : MethodId} {below : List Frame} {meth : Method} {cd : Code} {D : va_G} {Y : Nat → ClassId} {b L : Nat} {xs : Nat → Int32} {x ou c cells slots : Nat} {ad : Nat → Nat} {M : MS} {σ : sg_W} {H : Heap} {locs : List Loc} {ls : Array Slot} {iv : Int32} {Q : State → Prop} (hE : lwE p l s m cd D Y b L xs) (hW : LW Y x ou ad M c σ) (hc : c < 512) (hP : sg_P D σ H) (hD : sg_D (fun q : Nat => s.heap.size ≤ q) σ) (hS : va_S (fun q : Nat => s.heap.size ≤ q) s.heap H locs) (hl : lv_has ls 8 (lw5 b x ou ad iv)) (hce : cells + 6 ≤ 601024) (hsl : slots + 50 ≤ 7293034) (h1 : vp_in (iv + 1) L) (h2 : vp_in (iv + 2) L) (kK : lwK p l e s m below meth cd D Y b x ou ad c iv cells slots Q) : W p l e room_1 s m #[Value.ref b] below meth cd H locs cells slots Q (F0 m 385 ls []) := by
  obtain ⟨hx, hb, hml, hown, hts, hX, hbl, hK, hN, hC, hXs, hfl⟩ := hE
  obtain ⟨aM, N, aO, aL, aC, P, t, f, hQ, hR, h, ho, hM⟩ := hW
  have hA : ∀ q : Nat, s.heap.size ≤ q → (fun q : Nat => s.heap.size ≤ q) q := fun _ z => z
  have hbA : ¬ (fun q : Nat => s.heap.size ≤ q) b := Nat.not_le.mpr hbl
  have hl : lv_has ls 8 [(0, .ref b), (1, .ref x), (2, .ref (ad 0)), (3, .ref ou), (4, .int iv)] := hl
  obtain ⟨a1, ea1⟩ : ∃ z, z = xs (iv + 1).toNatClampNeg := ⟨_, rfl⟩
  obtain ⟨a2, ea2⟩ : ∃ z, z = xs (iv + 2).toNatClampNeg := ⟨_, rfl⟩
  refine lv_aload_n hx hb dL_law_385 rfl (lv_at hl 1 rfl) ?_
  refine lv_aload_n hx hb dL_law_386 rfl (lv_at hl 0 rfl) ?_
  refine lv_iload hx hb dL_law_387 (lv_at hl 4 rfl) ?_
  refine lv_iconst (v := 1) hx hb dL_law_389 (by decide) ?_
  refine lv_iadd hx hb dL_law_390 ?_
  refine va_sld hx hb hX hbl hbA hS h1 dL_law_391 ?_
  refine lv_topi (fun v391 ev391 => ?_)
  obtain rfl : a1 = v391 := ea1.trans ev391.symm
  refine lv_aload_n hx hb dL_law_392 rfl (lv_at hl 0 rfl) ?_
  refine lv_iload hx hb dL_law_393 (lv_at hl 4 rfl) ?_
  refine lv_iconst (v := 2) hx hb dL_law_395 (by decide) ?_
  refine lv_iadd hx hb dL_law_396 ?_
  refine va_sld hx hb hX hbl hbA hS h2 dL_law_397 ?_
  refine lv_topi (fun v397 ev397 => ?_)
  obtain rfl : a2 = v397 := ea2.trans ev397.symm
  refine lv_aload_n hx hb dL_law_398 rfl (lv_at hl 3 rfl) ?_
  refine sg_xcalli hD hS hA (vx_runSX (As := [.ref x, .int a1, .int a2, .ref ou]) (rest := []) ⟨hx, hb, hml, hown, hts⟩ (c_L_slip l hfl D Y _ _ x ou aM N t c aO aL aC P M f a1 a2 hQ ho h hc hR) (vx_cwSW 4 hts gL_law_L_slip rfl rfl rfl (by decide +kernel) ⟨(Nat.le_of_ble_eq_true rfl), (Nat.le_of_ble_eq_true rfl)⟩) (lh_preS hK hP hD hN hC hXs hS hA) rfl rfl hl.1 rfl (lv_room (Nat.le_of_ble_eq_true rfl)) dL_law_399 ⟨by show cells + 3 ≤ 601024; omega, by show slots + 18 ≤ 7293034; omega⟩) (fun E ce q9 H locs hpx hP hD hS hce hcv hcl => False.elim hpx) (fun r2 σ2 H locs hw hP hD hS => ?_)
  have hM2 : MW Y ad M σ2 := hw.mw hM
  obtain ⟨e2, g0, gn⟩ := hw
  refine lv_istore (lv' := [(5, .int r2), (0, .ref b), (1, .ref x), (2, .ref (ad 0)), (3, .ref ou), (4, .int iv)]) hx hb dL_law_402 hl (by decide) rfl (fun ls hl => ?_)
  refine lv_aload_n hx hb dL_law_404 rfl (lv_at hl 3 rfl) ?_
  refine lv_aload_n hx hb dL_law_405 rfl (lv_at hl 1 rfl) ?_
  refine lv_iload hx hb dL_law_406 (lv_at hl 5 rfl) ?_
  refine lv_iconst (v := 1) hx hb dL_law_408 (by decide) ?_
  refine lv_iadd hx hb dL_law_409 ?_
  refine va_sld hx hb hX hbl hbA hS h1 dL_law_410 ?_
  refine lv_topi (fun v410 ev410 => ?_)
  obtain rfl : a1 = v410 := ea1.trans ev410.symm
  refine lv_aload_n hx hb dL_law_411 rfl (lv_at hl 1 rfl) ?_
  refine lv_iload hx hb dL_law_412 (lv_at hl 5 rfl) ?_
  refine lv_iconst (v := 2) hx hb dL_law_414 (by decide) ?_
  refine lv_iadd hx hb dL_law_415 ?_
  refine va_sld hx hb hX hbl hbA hS h2 dL_law_416 ?_
  refine lv_topi (fun v416 ev416 => ?_)
  obtain rfl : a2 = v416 := ea2.trans ev416.symm
  refine sg_calli hD hS hA (va_runV (As := [.int a1, .int a2]) (rest := []) ⟨hx, hb, hml, hown, hts⟩ (c_X3_slip l D Y _ _ ad M a1 a2 h.six hM2) (cwV 2 hts gL_law_X3_slip rfl rfl rfl (by decide +kernel) ⟨(Nat.le_of_ble_eq_true rfl), (Nat.le_of_ble_eq_true rfl)⟩) (sg_preV (q := (RX3, TX3, 20)) (hM2.1 0 rfl) rfl hK hP hD hN hXs hS hA) rfl rfl hl.1 rfl (lv_room (Nat.le_of_ble_eq_true rfl)) dL_law_417 ⟨by show cells + 3 + 0 ≤ 601024; omega, by show slots + 18 + 0 ≤ 7293034; omega⟩) (fun r3 σ3 H locs hw hP hD hS => ?_)
  obtain ⟨hA3, hM3⟩ := hw
  refine lv_istore (lv' := [(6, .int r3), (5, .int r2), (0, .ref b), (1, .ref x), (2, .ref (ad 0)), (3, .ref ou), (4, .int iv)]) hx hb dL_law_420 hl (by decide) rfl (fun ls hl => ?_)
  refine lv_aload_n hx hb dL_law_422 rfl (lv_at hl 4 rfl) ?_
  refine sg_calli hD hS hA (va_runV (As := []) (rest := []) ⟨hx, hb, hml, hown, hts⟩ (c_X3_thrown l D Y _ _ ad _ hM3.self) (cwV 0 hts gL_law_X3_thrown rfl rfl rfl (by decide +kernel) ⟨(Nat.le_of_ble_eq_true rfl), (Nat.le_of_ble_eq_true rfl)⟩) (sg_preV (q := (RX3, TX3, 20)) (hM3.1 0 rfl) rfl hK hP hD hN hXs hS hA) rfl rfl hl.1 rfl (lv_room (Nat.le_of_ble_eq_true rfl)) dL_law_423 ⟨by show cells + 3 + 0 + 0 ≤ 601024; omega, by show slots + 18 + 0 + 0 ≤ 7293034; omega⟩) (fun r4 σ4 H locs hw hP hD hS => ?_)
  obtain ⟨e4, rfl⟩ := hw
  have e4 := e4.trans (s19_if rfl)
  refine lv_iload hx hb dL_law_426 (lv_at hl 1 rfl) ?_
  refine lv_icmp_eq (tgt := 433) hx hb dL_law_428 (by decide) (fun c9 => ?_) (fun c9 => absurd (e4.trans e2.symm) c9)
  refine lv_iload hx hb dL_law_433 (lv_at hl 1 rfl) ?_
  refine lv_if_ne (tgt := 450) hx hb dL_law_435 (by decide) (fun c8 => ?_) (fun c8 => ?_)
  · have hT : ¬ tSlip M a1 a2 = 0 := fun q => (by simpa using c8 : ¬ r2 = 0) (e2.trans q)
    rw [if_neg hT] at hM3
    have e5 := gn hT
    refine lv_goto (tgt := 1335) hx hb dL_law_450 (by decide) ?_
    refine W.widen (k := cells + 6) (n := slots + 50) (by omega) (by omega) ?_
    exact kK _ _ _ _ _ ⟨aM, N, aO, aL, aC, P, t, f, hQ.mf (fun n hn => (hM3.2 n hn).trans (congrFun e5.symm n)), hR.u19, (h.mon (by omega)).u19, ((hM3.2 120 (by omega)).trans (congrFun e5.symm 120)).trans ho, hM3.self⟩ hP hD hS (lv_sub hl [2, 3, 4, 5, 6] rfl)
  · have hT : tSlip M a1 a2 = 0 := e2.symm.trans (by simpa using c8)
    rw [if_pos hT] at hM3
    obtain ⟨bM, bN2, bO, bL, bC, bP, bt, bf, hQ2, hR2, hI2, ho2, hv2, -⟩ := g0 hT
    have ho3 := (hM3.2 120 (by omega)).trans ho2
    refine lv_aload_n hx hb dL_law_438 rfl (lv_at hl 5 rfl) ?_
    refine lv_iconst (v := 0) hx hb dL_law_439 (by decide) ?_
    refine va_lald hx hb hK (sg_one hP ho3) 0 1 rfl rfl (vp_in_nI (n := 0) (by decide) (by decide)) dL_law_440 ?_
    refine lv_iload hx hb dL_law_441 (lv_at hl 0 rfl) ?_
    refine lv_i2l hx hb dL_law_443 rfl ?_
    refine W.lcmp hx hb dL_law_444 ?_
    refine lv_if_eq (tgt := 450) hx hb dL_law_445 (by decide) (fun c7 => ?_) (fun c7 => absurd ((lg_cmp_eq _ _).mpr (hv2.trans (by rw [hA3 hT]))) c7)
    refine lv_goto (tgt := 1335) hx hb dL_law_450 (by decide) ?_
    refine W.widen (k := cells + 6) (n := slots + 50) (by omega) (by omega) ?_
    exact kK _ _ _ _ _ ⟨bM, bN2, bO, bL, bC, bP, bt, bf, hQ2.mf hM3.2, hR2, hI2, ho3, hM3.self⟩ hP hD hS (lv_sub hl [2, 3, 4, 5, 6] rfl)

set_option maxHeartbeats 1000000 in
set_option maxRecDepth 100000 in
theorem lc_leave {p : Program} {l : Launch} {e : Env} {s : State} {m : MethodId} {below : List Frame} {meth : Method} {cd : Code} {D : va_G} {Y : Nat → ClassId} {b L : Nat} {xs : Nat → Int32} {x ou c cells slots : Nat} {ad : Nat → Nat} {M : MS} {σ : sg_W} {H : Heap} {locs : List Loc} {ls : Array Slot} {iv : Int32} {Q : State → Prop} (hE : lwE p l s m cd D Y b L xs) (hW : LW Y x ou ad M c σ) (hc : c < 512) (hP : sg_P D σ H) (hD : sg_D (fun q : Nat => s.heap.size ≤ q) σ) (hS : va_S (fun q : Nat => s.heap.size ≤ q) s.heap H locs) (hl : lv_has ls 8 (lw5 b x ou ad iv)) (hce : cells + 6 ≤ 601024) (hsl : slots + 50 ≤ 7293034) (h1 : vp_in (iv + 1) L) (h2 : vp_in (iv + 2) L) (kK : lwK p l e s m below meth cd D Y b x ou ad c iv cells slots Q) : W p l e room_1 s m #[Value.ref b] below meth cd H locs cells slots Q (F0 m 453 ls []) := by
  obtain ⟨hx, hb, hml, hown, hts, hX, hbl, hK, hN, hC, hXs, hfl⟩ := hE
  obtain ⟨aM, N, aO, aL, aC, P, t, f, hQ, hR, h, ho, hM⟩ := hW
  have hA : ∀ q : Nat, s.heap.size ≤ q → (fun q : Nat => s.heap.size ≤ q) q := fun _ z => z
  have hbA : ¬ (fun q : Nat => s.heap.size ≤ q) b := Nat.not_le.mpr hbl
  have hl : lv_has ls 8 [(0, .ref b), (1, .ref x), (2, .ref (ad 0)), (3, .ref ou), (4, .int iv)] := hl
  obtain ⟨a1, ea1⟩ : ∃ z, z = xs (iv + 1).toNatClampNeg := ⟨_, rfl⟩
  refine lv_aload_n hx hb dL_law_453 rfl (lv_at hl 1 rfl) ?_
  refine lv_aload_n hx hb dL_law_454 rfl (lv_at hl 0 rfl) ?_
  refine lv_iload hx hb dL_law_455 (lv_at hl 4 rfl) ?_
  refine lv_iconst (v := 1) hx hb dL_law_457 (by decide) ?_
  refine lv_iadd hx hb dL_law_458 ?_
  refine va_sld hx hb hX hbl hbA hS h1 dL_law_459 ?_
  refine lv_topi (fun v459 ev459 => ?_)
  obtain rfl : a1 = v459 := ea1.trans ev459.symm
  refine lv_aload_n hx hb dL_law_460 rfl (lv_at hl 3 rfl) ?_
  refine sg_xcalli hD hS hA (vx_runSX (As := [.ref x, .int a1, .ref ou]) (rest := []) ⟨hx, hb, hml, hown, hts⟩ (c_L_leave l hfl D Y _ _ x ou aM N t c aO aL aC P M f a1 hQ ho h hc hR) (vx_cwSW 3 hts gL_law_L_leave rfl rfl rfl (by decide +kernel) ⟨(Nat.le_of_ble_eq_true rfl), (Nat.le_of_ble_eq_true rfl)⟩) (lh_preS hK hP hD hN hC hXs hS hA) rfl rfl hl.1 rfl (lv_room (Nat.le_of_ble_eq_true rfl)) dL_law_461 ⟨by show cells + 3 ≤ 601024; omega, by show slots + 18 ≤ 7293034; omega⟩) (fun E ce q9 H locs hpx hP hD hS hce hcv hcl => False.elim hpx) (fun r2 σ2 H locs hw hP hD hS => ?_)
  have hM2 : MW Y ad M σ2 := hw.mw hM
  obtain ⟨e2, g0, gn⟩ := hw
  refine lv_istore (lv' := [(5, .int r2), (0, .ref b), (1, .ref x), (2, .ref (ad 0)), (3, .ref ou), (4, .int iv)]) hx hb dL_law_464 hl (by decide) rfl (fun ls hl => ?_)
  refine lv_aload_n hx hb dL_law_466 rfl (lv_at hl 3 rfl) ?_
  refine lv_aload_n hx hb dL_law_467 rfl (lv_at hl 1 rfl) ?_
  refine lv_iload hx hb dL_law_468 (lv_at hl 5 rfl) ?_
  refine lv_iconst (v := 1) hx hb dL_law_470 (by decide) ?_
  refine lv_iadd hx hb dL_law_471 ?_
  refine va_sld hx hb hX hbl hbA hS h1 dL_law_472 ?_
  refine lv_topi (fun v472 ev472 => ?_)
  obtain rfl : a1 = v472 := ea1.trans ev472.symm
  refine sg_calli hD hS hA (va_runV (As := [.int a1]) (rest := []) ⟨hx, hb, hml, hown, hts⟩ (c_X3_leave l D Y _ _ ad M a1 h.six hM2) (cwV 1 hts gL_law_X3_leave rfl rfl rfl (by decide +kernel) ⟨(Nat.le_of_ble_eq_true rfl), (Nat.le_of_ble_eq_true rfl)⟩) (sg_preV (q := (RX3, TX3, 20)) (hM2.1 0 rfl) rfl hK hP hD hN hXs hS hA) rfl rfl hl.1 rfl (lv_room (Nat.le_of_ble_eq_true rfl)) dL_law_473 ⟨by show cells + 3 + 0 ≤ 601024; omega, by show slots + 18 + 0 ≤ 7293034; omega⟩) (fun r3 σ3 H locs hw hP hD hS => ?_)
  obtain ⟨hA3, hM3⟩ := hw
  refine lv_istore (lv' := [(6, .int r3), (5, .int r2), (0, .ref b), (1, .ref x), (2, .ref (ad 0)), (3, .ref ou), (4, .int iv)]) hx hb dL_law_476 hl (by decide) rfl (fun ls hl => ?_)
  refine lv_aload_n hx hb dL_law_478 rfl (lv_at hl 4 rfl) ?_
  refine sg_calli hD hS hA (va_runV (As := []) (rest := []) ⟨hx, hb, hml, hown, hts⟩ (c_X3_thrown l D Y _ _ ad _ hM3.self) (cwV 0 hts gL_law_X3_thrown rfl rfl rfl (by decide +kernel) ⟨(Nat.le_of_ble_eq_true rfl), (Nat.le_of_ble_eq_true rfl)⟩) (sg_preV (q := (RX3, TX3, 20)) (hM3.1 0 rfl) rfl hK hP hD hN hXs hS hA) rfl rfl hl.1 rfl (lv_room (Nat.le_of_ble_eq_true rfl)) dL_law_479 ⟨by show cells + 3 + 0 + 0 ≤ 601024; omega, by show slots + 18 + 0 + 0 ≤ 7293034; omega⟩) (fun r4 σ4 H locs hw hP hD hS => ?_)
  obtain ⟨e4, rfl⟩ := hw
  have e4 := e4.trans (s19_if rfl)
  refine lv_iload hx hb dL_law_482 (lv_at hl 1 rfl) ?_
  refine lv_icmp_eq (tgt := 489) hx hb dL_law_484 (by decide) (fun c9 => ?_) (fun c9 => absurd (e4.trans e2.symm) c9)
  refine lv_iload hx hb dL_law_489 (lv_at hl 1 rfl) ?_
  refine lv_if_ne (tgt := 506) hx hb dL_law_491 (by decide) (fun c8 => ?_) (fun c8 => ?_)
  · have hT : ¬ tLeave M a1 = 0 := fun q => (by simpa using c8 : ¬ r2 = 0) (e2.trans q)
    rw [if_neg hT] at hM3
    have e5 := gn hT
    refine lv_goto (tgt := 1335) hx hb dL_law_506 (by decide) ?_
    refine W.widen (k := cells + 6) (n := slots + 50) (by omega) (by omega) ?_
    exact kK _ _ _ _ _ ⟨aM, N, aO, aL, aC, P, t, f, hQ.mf (fun n hn => (hM3.2 n hn).trans (congrFun e5.symm n)), hR.u19, (h.mon (by omega)).u19, ((hM3.2 120 (by omega)).trans (congrFun e5.symm 120)).trans ho, hM3.self⟩ hP hD hS (lv_sub hl [2, 3, 4, 5, 6] rfl)
  · have hT : tLeave M a1 = 0 := e2.symm.trans (by simpa using c8)
    rw [if_pos hT] at hM3
    obtain ⟨bM, bN2, bO, bL, bC, bP, bt, bf, hQ2, hR2, hI2, ho2, hv2, -⟩ := g0 hT
    have ho3 := (hM3.2 120 (by omega)).trans ho2
    refine lv_aload_n hx hb dL_law_494 rfl (lv_at hl 5 rfl) ?_
    refine lv_iconst (v := 0) hx hb dL_law_495 (by decide) ?_
    refine va_lald hx hb hK (sg_one hP ho3) 0 1 rfl rfl (vp_in_nI (n := 0) (by decide) (by decide)) dL_law_496 ?_
    refine lv_iload hx hb dL_law_497 (lv_at hl 0 rfl) ?_
    refine lv_i2l hx hb dL_law_499 rfl ?_
    refine W.lcmp hx hb dL_law_500 ?_
    refine lv_if_eq (tgt := 506) hx hb dL_law_501 (by decide) (fun c7 => ?_) (fun c7 => absurd ((lg_cmp_eq _ _).mpr (hv2.trans (by rw [hA3 hT]))) c7)
    refine lv_goto (tgt := 1335) hx hb dL_law_506 (by decide) ?_
    refine W.widen (k := cells + 6) (n := slots + 50) (by omega) (by omega) ?_
    exact kK _ _ _ _ _ ⟨bM, bN2, bO, bL, bC, bP, bt, bf, hQ2.mf hM3.2, hR2, hI2, ho3, hM3.self⟩ hP hD hS (lv_sub hl [2, 3, 4, 5, 6] rfl)

set_option maxHeartbeats 1000000 in
set_option maxRecDepth 100000 in
theorem lc_offerMonth {p : Program} {l : Launch} {e : Env} {s : State} {m : MethodId} {below : List Frame} {meth : Method} {cd : Code} {D : va_G} {Y : Nat → ClassId} {b L : Nat} {xs : Nat → Int32} {x ou c cells slots : Nat} {ad : Nat → Nat} {M : MS} {σ : sg_W} {H : Heap} {locs : List Loc} {ls : Array Slot} {iv : Int32} {Q : State → Prop} (hE : lwE p l s m cd D Y b L xs) (hW : LW Y x ou ad M c σ) (hc : c < 512) (hP : sg_P D σ H) (hD : sg_D (fun q : Nat => s.heap.size ≤ q) σ) (hS : va_S (fun q : Nat => s.heap.size ≤ q) s.heap H locs) (hl : lv_has ls 8 (lw5 b x ou ad iv)) (hce : cells + 6 ≤ 601024) (hsl : slots + 50 ≤ 7293034) (h1 : vp_in (iv + 1) L) (h2 : vp_in (iv + 2) L) (kK : lwK p l e s m below meth cd D Y b x ou ad c iv cells slots Q) : W p l e room_1 s m #[Value.ref b] below meth cd H locs cells slots Q (F0 m 565 ls []) := by
  obtain ⟨hx, hb, hml, hown, hts, hX, hbl, hK, hN, hC, hXs, hfl⟩ := hE
  obtain ⟨aM, N, aO, aL, aC, P, t, f, hQ, hR, h, ho, hM⟩ := hW
  have hA : ∀ q : Nat, s.heap.size ≤ q → (fun q : Nat => s.heap.size ≤ q) q := fun _ z => z
  have hbA : ¬ (fun q : Nat => s.heap.size ≤ q) b := Nat.not_le.mpr hbl
  have hl : lv_has ls 8 [(0, .ref b), (1, .ref x), (2, .ref (ad 0)), (3, .ref ou), (4, .int iv)] := hl
  obtain ⟨a1, ea1⟩ : ∃ z, z = xs (iv + 1).toNatClampNeg := ⟨_, rfl⟩
  refine lv_aload_n hx hb dL_law_565 rfl (lv_at hl 1 rfl) ?_
  refine lv_aload_n hx hb dL_law_566 rfl (lv_at hl 0 rfl) ?_
  refine lv_iload hx hb dL_law_567 (lv_at hl 4 rfl) ?_
  refine lv_iconst (v := 1) hx hb dL_law_569 (by decide) ?_
  refine lv_iadd hx hb dL_law_570 ?_
  refine va_sld hx hb hX hbl hbA hS h1 dL_law_571 ?_
  refine lv_topi (fun v571 ev571 => ?_)
  obtain rfl : a1 = v571 := ea1.trans ev571.symm
  refine lv_aload_n hx hb dL_law_572 rfl (lv_at hl 3 rfl) ?_
  refine sg_xcalli hD hS hA (vx_runSX (As := [.ref x, .int a1, .ref ou]) (rest := []) ⟨hx, hb, hml, hown, hts⟩ (c_L_offerMonth l hfl D Y _ _ x ou aM N t c aO aL aC P M f a1 hQ ho h hc hR) (vx_cwSW 3 hts gL_law_L_offerMonth rfl rfl rfl (by decide +kernel) ⟨(Nat.le_of_ble_eq_true rfl), (Nat.le_of_ble_eq_true rfl)⟩) (lh_preS hK hP hD hN hC hXs hS hA) rfl rfl hl.1 rfl (lv_room (Nat.le_of_ble_eq_true rfl)) dL_law_573 ⟨by show cells + 1 ≤ 601024; omega, by show slots + 6 ≤ 7293034; omega⟩) (fun E ce q9 H locs hpx hP hD hS hce hcv hcl => False.elim hpx) (fun r2 σ2 H locs hw hP hD hS => ?_)
  have hM2 : MW Y ad M σ2 := hw.mw hM
  obtain ⟨e2, g0, gn⟩ := hw
  refine lv_istore (lv' := [(5, .int r2), (0, .ref b), (1, .ref x), (2, .ref (ad 0)), (3, .ref ou), (4, .int iv)]) hx hb dL_law_576 hl (by decide) rfl (fun ls hl => ?_)
  refine lv_aload_n hx hb dL_law_578 rfl (lv_at hl 3 rfl) ?_
  refine lv_aload_n hx hb dL_law_579 rfl (lv_at hl 1 rfl) ?_
  refine lv_iload hx hb dL_law_580 (lv_at hl 5 rfl) ?_
  refine lv_iconst (v := 1) hx hb dL_law_582 (by decide) ?_
  refine lv_iadd hx hb dL_law_583 ?_
  refine va_sld hx hb hX hbl hbA hS h1 dL_law_584 ?_
  refine lv_topi (fun v584 ev584 => ?_)
  obtain rfl : a1 = v584 := ea1.trans ev584.symm
  refine sg_calli hD hS hA (va_runV (As := [.int a1]) (rest := []) ⟨hx, hb, hml, hown, hts⟩ (c_X3_offerMonth l D Y _ _ ad M a1 h.six hM2) (cwV 1 hts gL_law_X3_offerMonth rfl rfl rfl (by decide +kernel) ⟨(Nat.le_of_ble_eq_true rfl), (Nat.le_of_ble_eq_true rfl)⟩) (sg_preV (q := (RX3, TX3, 20)) (hM2.1 0 rfl) rfl hK hP hD hN hXs hS hA) rfl rfl hl.1 rfl (lv_room (Nat.le_of_ble_eq_true rfl)) dL_law_585 ⟨by show cells + 1 + 0 ≤ 601024; omega, by show slots + 6 + 0 ≤ 7293034; omega⟩) (fun r3 σ3 H locs hw hP hD hS => ?_)
  obtain ⟨hA3, hM3⟩ := hw
  refine lv_istore (lv' := [(6, .int r3), (5, .int r2), (0, .ref b), (1, .ref x), (2, .ref (ad 0)), (3, .ref ou), (4, .int iv)]) hx hb dL_law_588 hl (by decide) rfl (fun ls hl => ?_)
  refine lv_aload_n hx hb dL_law_590 rfl (lv_at hl 4 rfl) ?_
  refine sg_calli hD hS hA (va_runV (As := []) (rest := []) ⟨hx, hb, hml, hown, hts⟩ (c_X3_thrown l D Y _ _ ad _ hM3.self) (cwV 0 hts gL_law_X3_thrown rfl rfl rfl (by decide +kernel) ⟨(Nat.le_of_ble_eq_true rfl), (Nat.le_of_ble_eq_true rfl)⟩) (sg_preV (q := (RX3, TX3, 20)) (hM3.1 0 rfl) rfl hK hP hD hN hXs hS hA) rfl rfl hl.1 rfl (lv_room (Nat.le_of_ble_eq_true rfl)) dL_law_591 ⟨by show cells + 1 + 0 + 0 ≤ 601024; omega, by show slots + 6 + 0 + 0 ≤ 7293034; omega⟩) (fun r4 σ4 H locs hw hP hD hS => ?_)
  obtain ⟨e4, rfl⟩ := hw
  have e4 : r4 = tMem M a1 := e4
  refine lv_iload hx hb dL_law_594 (lv_at hl 1 rfl) ?_
  refine lv_icmp_eq (tgt := 601) hx hb dL_law_596 (by decide) (fun c9 => ?_) (fun c9 => absurd (e4.trans e2.symm) c9)
  refine lv_iload hx hb dL_law_601 (lv_at hl 1 rfl) ?_
  refine lv_if_ne (tgt := 618) hx hb dL_law_603 (by decide) (fun c8 => ?_) (fun c8 => ?_)
  · have hT : ¬ tMem M a1 = 0 := fun q => (by simpa using c8 : ¬ r2 = 0) (e2.trans q)
    have e5 := gn hT
    refine lv_goto (tgt := 1335) hx hb dL_law_618 (by decide) ?_
    refine W.widen (k := cells + 6) (n := slots + 50) (by omega) (by omega) ?_
    exact kK _ _ _ _ _ ⟨aM, N, aO, aL, aC, P, t, f, hQ.mf (fun n hn => (hM3.2 n hn).trans (congrFun e5.symm n)), hR.u19, (h.mon (by omega)).u19, ((hM3.2 120 (by omega)).trans (congrFun e5.symm 120)).trans ho, hM3.self⟩ hP hD hS (lv_sub hl [2, 3, 4, 5, 6] rfl)
  · have hT : tMem M a1 = 0 := e2.symm.trans (by simpa using c8)
    rw [hT] at hM3
    obtain ⟨bM, bN2, bO, bL, bC, bP, bt, bf, hQ2, hR2, hI2, ho2, hv2, -⟩ := g0 hT
    have ho3 := (hM3.2 120 (by omega)).trans ho2
    refine lv_aload_n hx hb dL_law_606 rfl (lv_at hl 5 rfl) ?_
    refine lv_iconst (v := 0) hx hb dL_law_607 (by decide) ?_
    refine va_lald hx hb hK (sg_one hP ho3) 0 1 rfl rfl (vp_in_nI (n := 0) (by decide) (by decide)) dL_law_608 ?_
    refine lv_iload hx hb dL_law_609 (lv_at hl 0 rfl) ?_
    refine lv_i2l hx hb dL_law_611 rfl ?_
    refine W.lcmp hx hb dL_law_612 ?_
    refine lv_if_eq (tgt := 618) hx hb dL_law_613 (by decide) (fun c7 => ?_) (fun c7 => absurd ((lg_cmp_eq _ _).mpr (hv2.trans (by rw [hA3 hT]))) c7)
    refine lv_goto (tgt := 1335) hx hb dL_law_618 (by decide) ?_
    refine W.widen (k := cells + 6) (n := slots + 50) (by omega) (by omega) ?_
    exact kK _ _ _ _ _ ⟨bM, bN2, bO, bL, bC, bP, bt, bf, hQ2.mf hM3.2, hR2, hI2, ho3, hM3.self⟩ hP hD hS (lv_sub hl [2, 3, 4, 5, 6] rfl)

set_option maxHeartbeats 1000000 in
set_option maxRecDepth 100000 in
theorem lc_offerPrice {p : Program} {l : Launch} {e : Env} {s : State} {m : MethodId} {below : List Frame} {meth : Method} {cd : Code} {D : va_G} {Y : Nat → ClassId} {b L : Nat} {xs : Nat → Int32} {x ou c cells slots : Nat} {ad : Nat → Nat} {M : MS} {σ : sg_W} {H : Heap} {locs : List Loc} {ls : Array Slot} {iv : Int32} {Q : State → Prop} (hE : lwE p l s m cd D Y b L xs) (hW : LW Y x ou ad M c σ) (hc : c < 512) (hP : sg_P D σ H) (hD : sg_D (fun q : Nat => s.heap.size ≤ q) σ) (hS : va_S (fun q : Nat => s.heap.size ≤ q) s.heap H locs) (hl : lv_has ls 8 (lw5 b x ou ad iv)) (hce : cells + 6 ≤ 601024) (hsl : slots + 50 ≤ 7293034) (h1 : vp_in (iv + 1) L) (h2 : vp_in (iv + 2) L) (kK : lwK p l e s m below meth cd D Y b x ou ad c iv cells slots Q) : W p l e room_1 s m #[Value.ref b] below meth cd H locs cells slots Q (F0 m 621 ls []) := by
  obtain ⟨hx, hb, hml, hown, hts, hX, hbl, hK, hN, hC, hXs, hfl⟩ := hE
  obtain ⟨aM, N, aO, aL, aC, P, t, f, hQ, hR, h, ho, hM⟩ := hW
  have hA : ∀ q : Nat, s.heap.size ≤ q → (fun q : Nat => s.heap.size ≤ q) q := fun _ z => z
  have hbA : ¬ (fun q : Nat => s.heap.size ≤ q) b := Nat.not_le.mpr hbl
  have hl : lv_has ls 8 [(0, .ref b), (1, .ref x), (2, .ref (ad 0)), (3, .ref ou), (4, .int iv)] := hl
  obtain ⟨a1, ea1⟩ : ∃ z, z = xs (iv + 1).toNatClampNeg := ⟨_, rfl⟩
  refine lv_aload_n hx hb dL_law_621 rfl (lv_at hl 1 rfl) ?_
  refine lv_aload_n hx hb dL_law_622 rfl (lv_at hl 0 rfl) ?_
  refine lv_iload hx hb dL_law_623 (lv_at hl 4 rfl) ?_
  refine lv_iconst (v := 1) hx hb dL_law_625 (by decide) ?_
  refine lv_iadd hx hb dL_law_626 ?_
  refine va_sld hx hb hX hbl hbA hS h1 dL_law_627 ?_
  refine lv_topi (fun v627 ev627 => ?_)
  obtain rfl : a1 = v627 := ea1.trans ev627.symm
  refine lv_aload_n hx hb dL_law_628 rfl (lv_at hl 3 rfl) ?_
  refine sg_xcalli hD hS hA (vx_runSX (As := [.ref x, .int a1, .ref ou]) (rest := []) ⟨hx, hb, hml, hown, hts⟩ (c_L_offerPrice l hfl D Y _ _ x ou aM N t c aO aL aC P M f a1 hQ ho h hc hR) (vx_cwSW 3 hts gL_law_L_offerPrice rfl rfl rfl (by decide +kernel) ⟨(Nat.le_of_ble_eq_true rfl), (Nat.le_of_ble_eq_true rfl)⟩) (lh_preS hK hP hD hN hC hXs hS hA) rfl rfl hl.1 rfl (lv_room (Nat.le_of_ble_eq_true rfl)) dL_law_629 ⟨by show cells + 1 ≤ 601024; omega, by show slots + 6 ≤ 7293034; omega⟩) (fun E ce q9 H locs hpx hP hD hS hce hcv hcl => False.elim hpx) (fun r2 σ2 H locs hw hP hD hS => ?_)
  have hM2 : MW Y ad M σ2 := hw.mw hM
  obtain ⟨e2, g0, gn⟩ := hw
  refine lv_istore (lv' := [(5, .int r2), (0, .ref b), (1, .ref x), (2, .ref (ad 0)), (3, .ref ou), (4, .int iv)]) hx hb dL_law_632 hl (by decide) rfl (fun ls hl => ?_)
  refine lv_aload_n hx hb dL_law_634 rfl (lv_at hl 3 rfl) ?_
  refine lv_aload_n hx hb dL_law_635 rfl (lv_at hl 1 rfl) ?_
  refine lv_iload hx hb dL_law_636 (lv_at hl 5 rfl) ?_
  refine lv_iconst (v := 1) hx hb dL_law_638 (by decide) ?_
  refine lv_iadd hx hb dL_law_639 ?_
  refine va_sld hx hb hX hbl hbA hS h1 dL_law_640 ?_
  refine lv_topi (fun v640 ev640 => ?_)
  obtain rfl : a1 = v640 := ea1.trans ev640.symm
  refine sg_calli hD hS hA (va_runV (As := [.int a1]) (rest := []) ⟨hx, hb, hml, hown, hts⟩ (c_X3_offerPrice l D Y _ _ ad M a1 h.six h.hf hM2) (cwV 1 hts gL_law_X3_offerPrice rfl rfl rfl (by decide +kernel) ⟨(Nat.le_of_ble_eq_true rfl), (Nat.le_of_ble_eq_true rfl)⟩) (sg_preV (q := (RX3, TX3, 20)) (hM2.1 0 rfl) rfl hK hP hD hN hXs hS hA) rfl rfl hl.1 rfl (lv_room (Nat.le_of_ble_eq_true rfl)) dL_law_641 ⟨by show cells + 1 + 0 ≤ 601024; omega, by show slots + 6 + 0 ≤ 7293034; omega⟩) (fun r3 σ3 H locs hw hP hD hS => ?_)
  obtain ⟨hA3, hM3⟩ := hw
  refine lv_istore (lv' := [(6, .int r3), (5, .int r2), (0, .ref b), (1, .ref x), (2, .ref (ad 0)), (3, .ref ou), (4, .int iv)]) hx hb dL_law_644 hl (by decide) rfl (fun ls hl => ?_)
  refine lv_aload_n hx hb dL_law_646 rfl (lv_at hl 4 rfl) ?_
  refine sg_calli hD hS hA (va_runV (As := []) (rest := []) ⟨hx, hb, hml, hown, hts⟩ (c_X3_thrown l D Y _ _ ad _ hM3.self) (cwV 0 hts gL_law_X3_thrown rfl rfl rfl (by decide +kernel) ⟨(Nat.le_of_ble_eq_true rfl), (Nat.le_of_ble_eq_true rfl)⟩) (sg_preV (q := (RX3, TX3, 20)) (hM3.1 0 rfl) rfl hK hP hD hN hXs hS hA) rfl rfl hl.1 rfl (lv_room (Nat.le_of_ble_eq_true rfl)) dL_law_647 ⟨by show cells + 1 + 0 + 0 ≤ 601024; omega, by show slots + 6 + 0 + 0 ≤ 7293034; omega⟩) (fun r4 σ4 H locs hw hP hD hS => ?_)
  obtain ⟨e4, rfl⟩ := hw
  have e4 : r4 = tMem M a1 := e4
  refine lv_iload hx hb dL_law_650 (lv_at hl 1 rfl) ?_
  refine lv_icmp_eq (tgt := 657) hx hb dL_law_652 (by decide) (fun c9 => ?_) (fun c9 => absurd (e4.trans e2.symm) c9)
  refine lv_iload hx hb dL_law_657 (lv_at hl 1 rfl) ?_
  refine lv_if_ne (tgt := 674) hx hb dL_law_659 (by decide) (fun c8 => ?_) (fun c8 => ?_)
  · have hT : ¬ tMem M a1 = 0 := fun q => (by simpa using c8 : ¬ r2 = 0) (e2.trans q)
    have e5 := gn hT
    refine lv_goto (tgt := 1335) hx hb dL_law_674 (by decide) ?_
    refine W.widen (k := cells + 6) (n := slots + 50) (by omega) (by omega) ?_
    exact kK _ _ _ _ _ ⟨aM, N, aO, aL, aC, P, t, f, hQ.mf (fun n hn => (hM3.2 n hn).trans (congrFun e5.symm n)), hR.u19, (h.mon (by omega)).u19, ((hM3.2 120 (by omega)).trans (congrFun e5.symm 120)).trans ho, hM3.self⟩ hP hD hS (lv_sub hl [2, 3, 4, 5, 6] rfl)
  · have hT : tMem M a1 = 0 := e2.symm.trans (by simpa using c8)
    rw [hT] at hM3
    obtain ⟨bM, bN2, bO, bL, bC, bP, bt, bf, hQ2, hR2, hI2, ho2, hv2, -⟩ := g0 hT
    have ho3 := (hM3.2 120 (by omega)).trans ho2
    refine lv_aload_n hx hb dL_law_662 rfl (lv_at hl 5 rfl) ?_
    refine lv_iconst (v := 0) hx hb dL_law_663 (by decide) ?_
    refine va_lald hx hb hK (sg_one hP ho3) 0 1 rfl rfl (vp_in_nI (n := 0) (by decide) (by decide)) dL_law_664 ?_
    refine lv_iload hx hb dL_law_665 (lv_at hl 0 rfl) ?_
    refine lv_i2l hx hb dL_law_667 rfl ?_
    refine W.lcmp hx hb dL_law_668 ?_
    refine lv_if_eq (tgt := 674) hx hb dL_law_669 (by decide) (fun c7 => ?_) (fun c7 => absurd ((lg_cmp_eq _ _).mpr (hv2.trans (by rw [hA3 hT]))) c7)
    refine lv_goto (tgt := 1335) hx hb dL_law_674 (by decide) ?_
    refine W.widen (k := cells + 6) (n := slots + 50) (by omega) (by omega) ?_
    exact kK _ _ _ _ _ ⟨bM, bN2, bO, bL, bC, bP, bt, bf, hQ2.mf hM3.2, hR2, hI2, ho3, hM3.self⟩ hP hD hS (lv_sub hl [2, 3, 4, 5, 6] rfl)

set_option maxHeartbeats 1000000 in
set_option maxRecDepth 100000 in
theorem lc_resets {p : Program} {l : Launch} {e : Env} {s : State} {m : MethodId} {below : List Frame} {meth : Method} {cd : Code} {D : va_G} {Y : Nat → ClassId} {b L : Nat} {xs : Nat → Int32} {x ou c cells slots : Nat} {ad : Nat → Nat} {M : MS} {σ : sg_W} {H : Heap} {locs : List Loc} {ls : Array Slot} {iv : Int32} {Q : State → Prop} (hE : lwE p l s m cd D Y b L xs) (hW : LW Y x ou ad M c σ) (hc : c < 512) (hP : sg_P D σ H) (hD : sg_D (fun q : Nat => s.heap.size ≤ q) σ) (hS : va_S (fun q : Nat => s.heap.size ≤ q) s.heap H locs) (hl : lv_has ls 8 (lw5 b x ou ad iv)) (hce : cells + 6 ≤ 601024) (hsl : slots + 50 ≤ 7293034) (h1 : vp_in (iv + 1) L) (h2 : vp_in (iv + 2) L) (kK : lwK p l e s m below meth cd D Y b x ou ad c iv cells slots Q) : W p l e room_1 s m #[Value.ref b] below meth cd H locs cells slots Q (F0 m 677 ls []) := by
  obtain ⟨hx, hb, hml, hown, hts, hX, hbl, hK, hN, hC, hXs, hfl⟩ := hE
  obtain ⟨aM, N, aO, aL, aC, P, t, f, hQ, hR, h, ho, hM⟩ := hW
  have hA : ∀ q : Nat, s.heap.size ≤ q → (fun q : Nat => s.heap.size ≤ q) q := fun _ z => z
  have hbA : ¬ (fun q : Nat => s.heap.size ≤ q) b := Nat.not_le.mpr hbl
  have hl : lv_has ls 8 [(0, .ref b), (1, .ref x), (2, .ref (ad 0)), (3, .ref ou), (4, .int iv)] := hl
  obtain ⟨a1, ea1⟩ : ∃ z, z = xs (iv + 1).toNatClampNeg := ⟨_, rfl⟩
  refine lv_aload_n hx hb dL_law_677 rfl (lv_at hl 1 rfl) ?_
  refine lv_aload_n hx hb dL_law_678 rfl (lv_at hl 0 rfl) ?_
  refine lv_iload hx hb dL_law_679 (lv_at hl 4 rfl) ?_
  refine lv_iconst (v := 1) hx hb dL_law_681 (by decide) ?_
  refine lv_iadd hx hb dL_law_682 ?_
  refine va_sld hx hb hX hbl hbA hS h1 dL_law_683 ?_
  refine lv_topi (fun v683 ev683 => ?_)
  obtain rfl : a1 = v683 := ea1.trans ev683.symm
  refine lv_aload_n hx hb dL_law_684 rfl (lv_at hl 3 rfl) ?_
  refine sg_xcalli hD hS hA (vx_runSX (As := [.ref x, .int a1, .ref ou]) (rest := []) ⟨hx, hb, hml, hown, hts⟩ (c_L_resets l hfl D Y _ _ x ou aM N t c aO aL aC P M f a1 hQ ho h hc hR) (vx_cwSW 3 hts gL_law_L_resets rfl rfl rfl (by decide +kernel) ⟨(Nat.le_of_ble_eq_true rfl), (Nat.le_of_ble_eq_true rfl)⟩) (lh_preS hK hP hD hN hC hXs hS hA) rfl rfl hl.1 rfl (lv_room (Nat.le_of_ble_eq_true rfl)) dL_law_685 ⟨by show cells + 1 ≤ 601024; omega, by show slots + 6 ≤ 7293034; omega⟩) (fun E ce q9 H locs hpx hP hD hS hce hcv hcl => False.elim hpx) (fun r2 σ2 H locs hw hP hD hS => ?_)
  have hM2 : MW Y ad M σ2 := hw.mw hM
  obtain ⟨e2, g0, gn⟩ := hw
  refine lv_istore (lv' := [(5, .int r2), (0, .ref b), (1, .ref x), (2, .ref (ad 0)), (3, .ref ou), (4, .int iv)]) hx hb dL_law_688 hl (by decide) rfl (fun ls hl => ?_)
  refine lv_aload_n hx hb dL_law_690 rfl (lv_at hl 3 rfl) ?_
  refine lv_aload_n hx hb dL_law_691 rfl (lv_at hl 1 rfl) ?_
  refine lv_iload hx hb dL_law_692 (lv_at hl 5 rfl) ?_
  refine lv_iconst (v := 1) hx hb dL_law_694 (by decide) ?_
  refine lv_iadd hx hb dL_law_695 ?_
  refine va_sld hx hb hX hbl hbA hS h1 dL_law_696 ?_
  refine lv_topi (fun v696 ev696 => ?_)
  obtain rfl : a1 = v696 := ea1.trans ev696.symm
  refine sg_calli hD hS hA (va_runV (As := [.int a1]) (rest := []) ⟨hx, hb, hml, hown, hts⟩ (c_X3_resets l D Y _ _ ad M a1 h.six hM2) (cwV 1 hts gL_law_X3_resets rfl rfl rfl (by decide +kernel) ⟨(Nat.le_of_ble_eq_true rfl), (Nat.le_of_ble_eq_true rfl)⟩) (sg_preV (q := (RX3, TX3, 20)) (hM2.1 0 rfl) rfl hK hP hD hN hXs hS hA) rfl rfl hl.1 rfl (lv_room (Nat.le_of_ble_eq_true rfl)) dL_law_697 ⟨by show cells + 1 + 0 ≤ 601024; omega, by show slots + 6 + 0 ≤ 7293034; omega⟩) (fun r3 σ3 H locs hw hP hD hS => ?_)
  obtain ⟨hA3, hM3⟩ := hw
  refine lv_istore (lv' := [(6, .int r3), (5, .int r2), (0, .ref b), (1, .ref x), (2, .ref (ad 0)), (3, .ref ou), (4, .int iv)]) hx hb dL_law_700 hl (by decide) rfl (fun ls hl => ?_)
  refine lv_aload_n hx hb dL_law_702 rfl (lv_at hl 4 rfl) ?_
  refine sg_calli hD hS hA (va_runV (As := []) (rest := []) ⟨hx, hb, hml, hown, hts⟩ (c_X3_thrown l D Y _ _ ad _ hM3.self) (cwV 0 hts gL_law_X3_thrown rfl rfl rfl (by decide +kernel) ⟨(Nat.le_of_ble_eq_true rfl), (Nat.le_of_ble_eq_true rfl)⟩) (sg_preV (q := (RX3, TX3, 20)) (hM3.1 0 rfl) rfl hK hP hD hN hXs hS hA) rfl rfl hl.1 rfl (lv_room (Nat.le_of_ble_eq_true rfl)) dL_law_703 ⟨by show cells + 1 + 0 + 0 ≤ 601024; omega, by show slots + 6 + 0 + 0 ≤ 7293034; omega⟩) (fun r4 σ4 H locs hw hP hD hS => ?_)
  obtain ⟨e4, rfl⟩ := hw
  have e4 : r4 = tMem M a1 := e4
  refine lv_iload hx hb dL_law_706 (lv_at hl 1 rfl) ?_
  refine lv_icmp_eq (tgt := 713) hx hb dL_law_708 (by decide) (fun c9 => ?_) (fun c9 => absurd (e4.trans e2.symm) c9)
  refine lv_iload hx hb dL_law_713 (lv_at hl 1 rfl) ?_
  refine lv_if_ne (tgt := 730) hx hb dL_law_715 (by decide) (fun c8 => ?_) (fun c8 => ?_)
  · have hT : ¬ tMem M a1 = 0 := fun q => (by simpa using c8 : ¬ r2 = 0) (e2.trans q)
    have e5 := gn hT
    refine lv_goto (tgt := 1335) hx hb dL_law_730 (by decide) ?_
    refine W.widen (k := cells + 6) (n := slots + 50) (by omega) (by omega) ?_
    exact kK _ _ _ _ _ ⟨aM, N, aO, aL, aC, P, t, f, hQ.mf (fun n hn => (hM3.2 n hn).trans (congrFun e5.symm n)), hR.u19, (h.mon (by omega)).u19, ((hM3.2 120 (by omega)).trans (congrFun e5.symm 120)).trans ho, hM3.self⟩ hP hD hS (lv_sub hl [2, 3, 4, 5, 6] rfl)
  · have hT : tMem M a1 = 0 := e2.symm.trans (by simpa using c8)
    rw [hT] at hM3
    obtain ⟨bM, bN2, bO, bL, bC, bP, bt, bf, hQ2, hR2, hI2, ho2, hv2, -⟩ := g0 hT
    have ho3 := (hM3.2 120 (by omega)).trans ho2
    refine lv_aload_n hx hb dL_law_718 rfl (lv_at hl 5 rfl) ?_
    refine lv_iconst (v := 0) hx hb dL_law_719 (by decide) ?_
    refine va_lald hx hb hK (sg_one hP ho3) 0 1 rfl rfl (vp_in_nI (n := 0) (by decide) (by decide)) dL_law_720 ?_
    refine lv_iload hx hb dL_law_721 (lv_at hl 0 rfl) ?_
    refine lv_i2l hx hb dL_law_723 rfl ?_
    refine W.lcmp hx hb dL_law_724 ?_
    refine lv_if_eq (tgt := 730) hx hb dL_law_725 (by decide) (fun c7 => ?_) (fun c7 => absurd ((lg_cmp_eq _ _).mpr (hv2.trans (by rw [hA3 hT]))) c7)
    refine lv_goto (tgt := 1335) hx hb dL_law_730 (by decide) ?_
    refine W.widen (k := cells + 6) (n := slots + 50) (by omega) (by omega) ?_
    exact kK _ _ _ _ _ ⟨bM, bN2, bO, bL, bC, bP, bt, bf, hQ2.mf hM3.2, hR2, hI2, ho3, hM3.self⟩ hP hD hS (lv_sub hl [2, 3, 4, 5, 6] rfl)

set_option maxHeartbeats 1000000 in
set_option maxRecDepth 100000 in
theorem lc_shares {p : Program} {l : Launch} {e : Env} {s : State} {m : MethodId} {below : List Frame} {meth : Method} {cd : Code} {D : va_G} {Y : Nat → ClassId} {b L : Nat} {xs : Nat → Int32} {x ou c cells slots : Nat} {ad : Nat → Nat} {M : MS} {σ : sg_W} {H : Heap} {locs : List Loc} {ls : Array Slot} {iv : Int32} {Q : State → Prop} (hE : lwE p l s m cd D Y b L xs) (hW : LW Y x ou ad M c σ) (hc : c < 512) (hP : sg_P D σ H) (hD : sg_D (fun q : Nat => s.heap.size ≤ q) σ) (hS : va_S (fun q : Nat => s.heap.size ≤ q) s.heap H locs) (hl : lv_has ls 8 (lw5 b x ou ad iv)) (hce : cells + 6 ≤ 601024) (hsl : slots + 50 ≤ 7293034) (h1 : vp_in (iv + 1) L) (h2 : vp_in (iv + 2) L) (kK : lwK p l e s m below meth cd D Y b x ou ad c iv cells slots Q) : W p l e room_1 s m #[Value.ref b] below meth cd H locs cells slots Q (F0 m 733 ls []) := by
  obtain ⟨hx, hb, hml, hown, hts, hX, hbl, hK, hN, hC, hXs, hfl⟩ := hE
  obtain ⟨aM, N, aO, aL, aC, P, t, f, hQ, hR, h, ho, hM⟩ := hW
  have hA : ∀ q : Nat, s.heap.size ≤ q → (fun q : Nat => s.heap.size ≤ q) q := fun _ z => z
  have hbA : ¬ (fun q : Nat => s.heap.size ≤ q) b := Nat.not_le.mpr hbl
  have hl : lv_has ls 8 [(0, .ref b), (1, .ref x), (2, .ref (ad 0)), (3, .ref ou), (4, .int iv)] := hl
  obtain ⟨a1, ea1⟩ : ∃ z, z = xs (iv + 1).toNatClampNeg := ⟨_, rfl⟩
  refine lv_aload_n hx hb dL_law_733 rfl (lv_at hl 1 rfl) ?_
  refine lv_aload_n hx hb dL_law_734 rfl (lv_at hl 0 rfl) ?_
  refine lv_iload hx hb dL_law_735 (lv_at hl 4 rfl) ?_
  refine lv_iconst (v := 1) hx hb dL_law_737 (by decide) ?_
  refine lv_iadd hx hb dL_law_738 ?_
  refine va_sld hx hb hX hbl hbA hS h1 dL_law_739 ?_
  refine lv_topi (fun v739 ev739 => ?_)
  obtain rfl : a1 = v739 := ea1.trans ev739.symm
  refine lv_aload_n hx hb dL_law_740 rfl (lv_at hl 3 rfl) ?_
  refine sg_xcalli hD hS hA (vx_runSX (As := [.ref x, .int a1, .ref ou]) (rest := []) ⟨hx, hb, hml, hown, hts⟩ (c_L_shares l hfl D Y _ _ x ou aM N t c aO aL aC P M f a1 hQ ho h hc hR) (vx_cwSW 3 hts gL_law_L_shares rfl rfl rfl (by decide +kernel) ⟨(Nat.le_of_ble_eq_true rfl), (Nat.le_of_ble_eq_true rfl)⟩) (lh_preS hK hP hD hN hC hXs hS hA) rfl rfl hl.1 rfl (lv_room (Nat.le_of_ble_eq_true rfl)) dL_law_741 ⟨by show cells + 1 ≤ 601024; omega, by show slots + 6 ≤ 7293034; omega⟩) (fun E ce q9 H locs hpx hP hD hS hce hcv hcl => False.elim hpx) (fun r2 σ2 H locs hw hP hD hS => ?_)
  have hM2 : MW Y ad M σ2 := hw.mw hM
  obtain ⟨e2, g0, gn⟩ := hw
  refine lv_istore (lv' := [(5, .int r2), (0, .ref b), (1, .ref x), (2, .ref (ad 0)), (3, .ref ou), (4, .int iv)]) hx hb dL_law_744 hl (by decide) rfl (fun ls hl => ?_)
  refine lv_aload_n hx hb dL_law_746 rfl (lv_at hl 3 rfl) ?_
  refine lv_aload_n hx hb dL_law_747 rfl (lv_at hl 1 rfl) ?_
  refine lv_iload hx hb dL_law_748 (lv_at hl 5 rfl) ?_
  refine lv_iconst (v := 1) hx hb dL_law_750 (by decide) ?_
  refine lv_iadd hx hb dL_law_751 ?_
  refine va_sld hx hb hX hbl hbA hS h1 dL_law_752 ?_
  refine lv_topi (fun v752 ev752 => ?_)
  obtain rfl : a1 = v752 := ea1.trans ev752.symm
  refine sg_calli hD hS hA (va_runV (As := [.int a1]) (rest := []) ⟨hx, hb, hml, hown, hts⟩ (c_X3_shares l D Y _ _ ad M a1 h.six hM2) (cwV 1 hts gL_law_X3_shares rfl rfl rfl (by decide +kernel) ⟨(Nat.le_of_ble_eq_true rfl), (Nat.le_of_ble_eq_true rfl)⟩) (sg_preV (q := (RX3, TX3, 20)) (hM2.1 0 rfl) rfl hK hP hD hN hXs hS hA) rfl rfl hl.1 rfl (lv_room (Nat.le_of_ble_eq_true rfl)) dL_law_753 ⟨by show cells + 1 + 0 ≤ 601024; omega, by show slots + 6 + 0 ≤ 7293034; omega⟩) (fun r3 σ3 H locs hw hP hD hS => ?_)
  obtain ⟨hA3, hM3⟩ := hw
  refine lv_istore (lv' := [(6, .int r3), (5, .int r2), (0, .ref b), (1, .ref x), (2, .ref (ad 0)), (3, .ref ou), (4, .int iv)]) hx hb dL_law_756 hl (by decide) rfl (fun ls hl => ?_)
  refine lv_aload_n hx hb dL_law_758 rfl (lv_at hl 4 rfl) ?_
  refine sg_calli hD hS hA (va_runV (As := []) (rest := []) ⟨hx, hb, hml, hown, hts⟩ (c_X3_thrown l D Y _ _ ad _ hM3.self) (cwV 0 hts gL_law_X3_thrown rfl rfl rfl (by decide +kernel) ⟨(Nat.le_of_ble_eq_true rfl), (Nat.le_of_ble_eq_true rfl)⟩) (sg_preV (q := (RX3, TX3, 20)) (hM3.1 0 rfl) rfl hK hP hD hN hXs hS hA) rfl rfl hl.1 rfl (lv_room (Nat.le_of_ble_eq_true rfl)) dL_law_759 ⟨by show cells + 1 + 0 + 0 ≤ 601024; omega, by show slots + 6 + 0 + 0 ≤ 7293034; omega⟩) (fun r4 σ4 H locs hw hP hD hS => ?_)
  obtain ⟨e4, rfl⟩ := hw
  have e4 : r4 = tMem M a1 := e4
  refine lv_iload hx hb dL_law_762 (lv_at hl 1 rfl) ?_
  refine lv_icmp_eq (tgt := 769) hx hb dL_law_764 (by decide) (fun c9 => ?_) (fun c9 => absurd (e4.trans e2.symm) c9)
  refine lv_iload hx hb dL_law_769 (lv_at hl 1 rfl) ?_
  refine lv_if_ne (tgt := 786) hx hb dL_law_771 (by decide) (fun c8 => ?_) (fun c8 => ?_)
  · have hT : ¬ tMem M a1 = 0 := fun q => (by simpa using c8 : ¬ r2 = 0) (e2.trans q)
    have e5 := gn hT
    refine lv_goto (tgt := 1335) hx hb dL_law_786 (by decide) ?_
    refine W.widen (k := cells + 6) (n := slots + 50) (by omega) (by omega) ?_
    exact kK _ _ _ _ _ ⟨aM, N, aO, aL, aC, P, t, f, hQ.mf (fun n hn => (hM3.2 n hn).trans (congrFun e5.symm n)), hR.u19, (h.mon (by omega)).u19, ((hM3.2 120 (by omega)).trans (congrFun e5.symm 120)).trans ho, hM3.self⟩ hP hD hS (lv_sub hl [2, 3, 4, 5, 6] rfl)
  · have hT : tMem M a1 = 0 := e2.symm.trans (by simpa using c8)
    rw [hT] at hM3
    obtain ⟨bM, bN2, bO, bL, bC, bP, bt, bf, hQ2, hR2, hI2, ho2, hv2, -⟩ := g0 hT
    have ho3 := (hM3.2 120 (by omega)).trans ho2
    refine lv_aload_n hx hb dL_law_774 rfl (lv_at hl 5 rfl) ?_
    refine lv_iconst (v := 0) hx hb dL_law_775 (by decide) ?_
    refine va_lald hx hb hK (sg_one hP ho3) 0 1 rfl rfl (vp_in_nI (n := 0) (by decide) (by decide)) dL_law_776 ?_
    refine lv_iload hx hb dL_law_777 (lv_at hl 0 rfl) ?_
    refine lv_i2l hx hb dL_law_779 rfl ?_
    refine W.lcmp hx hb dL_law_780 ?_
    refine lv_if_eq (tgt := 786) hx hb dL_law_781 (by decide) (fun c7 => ?_) (fun c7 => absurd ((lg_cmp_eq _ _).mpr (hv2.trans (by rw [hA3 hT]))) c7)
    refine lv_goto (tgt := 1335) hx hb dL_law_786 (by decide) ?_
    refine W.widen (k := cells + 6) (n := slots + 50) (by omega) (by omega) ?_
    exact kK _ _ _ _ _ ⟨bM, bN2, bO, bL, bC, bP, bt, bf, hQ2.mf hM3.2, hR2, hI2, ho3, hM3.self⟩ hP hD hS (lv_sub hl [2, 3, 4, 5, 6] rfl)

set_option maxHeartbeats 1000000 in
set_option maxRecDepth 100000 in
theorem lc_bought {p : Program} {l : Launch} {e : Env} {s : State} {m : MethodId} {below : List Frame} {meth : Method} {cd : Code} {D : va_G} {Y : Nat → ClassId} {b L : Nat} {xs : Nat → Int32} {x ou c cells slots : Nat} {ad : Nat → Nat} {M : MS} {σ : sg_W} {H : Heap} {locs : List Loc} {ls : Array Slot} {iv : Int32} {Q : State → Prop} (hE : lwE p l s m cd D Y b L xs) (hW : LW Y x ou ad M c σ) (hc : c < 512) (hP : sg_P D σ H) (hD : sg_D (fun q : Nat => s.heap.size ≤ q) σ) (hS : va_S (fun q : Nat => s.heap.size ≤ q) s.heap H locs) (hl : lv_has ls 8 (lw5 b x ou ad iv)) (hce : cells + 6 ≤ 601024) (hsl : slots + 50 ≤ 7293034) (h1 : vp_in (iv + 1) L) (h2 : vp_in (iv + 2) L) (kK : lwK p l e s m below meth cd D Y b x ou ad c iv cells slots Q) : W p l e room_1 s m #[Value.ref b] below meth cd H locs cells slots Q (F0 m 789 ls []) := by
  obtain ⟨hx, hb, hml, hown, hts, hX, hbl, hK, hN, hC, hXs, hfl⟩ := hE
  obtain ⟨aM, N, aO, aL, aC, P, t, f, hQ, hR, h, ho, hM⟩ := hW
  have hA : ∀ q : Nat, s.heap.size ≤ q → (fun q : Nat => s.heap.size ≤ q) q := fun _ z => z
  have hbA : ¬ (fun q : Nat => s.heap.size ≤ q) b := Nat.not_le.mpr hbl
  have hl : lv_has ls 8 [(0, .ref b), (1, .ref x), (2, .ref (ad 0)), (3, .ref ou), (4, .int iv)] := hl
  obtain ⟨a1, ea1⟩ : ∃ z, z = xs (iv + 1).toNatClampNeg := ⟨_, rfl⟩
  obtain ⟨a2, ea2⟩ : ∃ z, z = xs (iv + 2).toNatClampNeg := ⟨_, rfl⟩
  refine lv_aload_n hx hb dL_law_789 rfl (lv_at hl 1 rfl) ?_
  refine lv_aload_n hx hb dL_law_790 rfl (lv_at hl 0 rfl) ?_
  refine lv_iload hx hb dL_law_791 (lv_at hl 4 rfl) ?_
  refine lv_iconst (v := 1) hx hb dL_law_793 (by decide) ?_
  refine lv_iadd hx hb dL_law_794 ?_
  refine va_sld hx hb hX hbl hbA hS h1 dL_law_795 ?_
  refine lv_topi (fun v795 ev795 => ?_)
  obtain rfl : a1 = v795 := ea1.trans ev795.symm
  refine lv_aload_n hx hb dL_law_796 rfl (lv_at hl 0 rfl) ?_
  refine lv_iload hx hb dL_law_797 (lv_at hl 4 rfl) ?_
  refine lv_iconst (v := 2) hx hb dL_law_799 (by decide) ?_
  refine lv_iadd hx hb dL_law_800 ?_
  refine va_sld hx hb hX hbl hbA hS h2 dL_law_801 ?_
  refine lv_topi (fun v801 ev801 => ?_)
  obtain rfl : a2 = v801 := ea2.trans ev801.symm
  refine lv_aload_n hx hb dL_law_802 rfl (lv_at hl 3 rfl) ?_
  refine sg_xcalli hD hS hA (vx_runSX (As := [.ref x, .int a1, .int a2, .ref ou]) (rest := []) ⟨hx, hb, hml, hown, hts⟩ (c_L_bought l hfl D Y _ _ x ou aM N t c aO aL aC P M f a1 a2 hQ ho h hc hR) (vx_cwSW 4 hts gL_law_L_bought rfl rfl rfl (by decide +kernel) ⟨(Nat.le_of_ble_eq_true rfl), (Nat.le_of_ble_eq_true rfl)⟩) (lh_preS hK hP hD hN hC hXs hS hA) rfl rfl hl.1 rfl (lv_room (Nat.le_of_ble_eq_true rfl)) dL_law_803 ⟨by show cells + 3 ≤ 601024; omega, by show slots + 18 ≤ 7293034; omega⟩) (fun E ce q9 H locs hpx hP hD hS hce hcv hcl => False.elim hpx) (fun r2 σ2 H locs hw hP hD hS => ?_)
  have hM2 : MW Y ad M σ2 := hw.mw hM
  obtain ⟨e2, g0, gn⟩ := hw
  refine lv_istore (lv' := [(5, .int r2), (0, .ref b), (1, .ref x), (2, .ref (ad 0)), (3, .ref ou), (4, .int iv)]) hx hb dL_law_806 hl (by decide) rfl (fun ls hl => ?_)
  refine lv_aload_n hx hb dL_law_808 rfl (lv_at hl 3 rfl) ?_
  refine lv_aload_n hx hb dL_law_809 rfl (lv_at hl 1 rfl) ?_
  refine lv_iload hx hb dL_law_810 (lv_at hl 5 rfl) ?_
  refine lv_iconst (v := 1) hx hb dL_law_812 (by decide) ?_
  refine lv_iadd hx hb dL_law_813 ?_
  refine va_sld hx hb hX hbl hbA hS h1 dL_law_814 ?_
  refine lv_topi (fun v814 ev814 => ?_)
  obtain rfl : a1 = v814 := ea1.trans ev814.symm
  refine lv_aload_n hx hb dL_law_815 rfl (lv_at hl 1 rfl) ?_
  refine lv_iload hx hb dL_law_816 (lv_at hl 5 rfl) ?_
  refine lv_iconst (v := 2) hx hb dL_law_818 (by decide) ?_
  refine lv_iadd hx hb dL_law_819 ?_
  refine va_sld hx hb hX hbl hbA hS h2 dL_law_820 ?_
  refine lv_topi (fun v820 ev820 => ?_)
  obtain rfl : a2 = v820 := ea2.trans ev820.symm
  refine sg_calli hD hS hA (va_runV (As := [.int a1, .int a2]) (rest := []) ⟨hx, hb, hml, hown, hts⟩ (c_X3_bought l D Y _ _ ad M a1 a2 h.six hM2) (cwV 2 hts gL_law_X3_bought rfl rfl rfl (by decide +kernel) ⟨(Nat.le_of_ble_eq_true rfl), (Nat.le_of_ble_eq_true rfl)⟩) (sg_preV (q := (RX3, TX3, 20)) (hM2.1 0 rfl) rfl hK hP hD hN hXs hS hA) rfl rfl hl.1 rfl (lv_room (Nat.le_of_ble_eq_true rfl)) dL_law_821 ⟨by show cells + 3 + 0 ≤ 601024; omega, by show slots + 18 + 0 ≤ 7293034; omega⟩) (fun r3 σ3 H locs hw hP hD hS => ?_)
  obtain ⟨hA3, hM3⟩ := hw
  refine lv_istore (lv' := [(6, .int r3), (5, .int r2), (0, .ref b), (1, .ref x), (2, .ref (ad 0)), (3, .ref ou), (4, .int iv)]) hx hb dL_law_824 hl (by decide) rfl (fun ls hl => ?_)
  refine lv_aload_n hx hb dL_law_826 rfl (lv_at hl 4 rfl) ?_
  refine sg_calli hD hS hA (va_runV (As := []) (rest := []) ⟨hx, hb, hml, hown, hts⟩ (c_X3_thrown l D Y _ _ ad _ hM3.self) (cwV 0 hts gL_law_X3_thrown rfl rfl rfl (by decide +kernel) ⟨(Nat.le_of_ble_eq_true rfl), (Nat.le_of_ble_eq_true rfl)⟩) (sg_preV (q := (RX3, TX3, 20)) (hM3.1 0 rfl) rfl hK hP hD hN hXs hS hA) rfl rfl hl.1 rfl (lv_room (Nat.le_of_ble_eq_true rfl)) dL_law_827 ⟨by show cells + 3 + 0 + 0 ≤ 601024; omega, by show slots + 18 + 0 + 0 ≤ 7293034; omega⟩) (fun r4 σ4 H locs hw hP hD hS => ?_)
  obtain ⟨e4, rfl⟩ := hw
  have e4 : r4 = tMonth M a1 a2 := e4
  refine lv_iload hx hb dL_law_830 (lv_at hl 1 rfl) ?_
  refine lv_icmp_eq (tgt := 837) hx hb dL_law_832 (by decide) (fun c9 => ?_) (fun c9 => absurd (e4.trans e2.symm) c9)
  refine lv_iload hx hb dL_law_837 (lv_at hl 1 rfl) ?_
  refine lv_if_ne (tgt := 854) hx hb dL_law_839 (by decide) (fun c8 => ?_) (fun c8 => ?_)
  · have hT : ¬ tMonth M a1 a2 = 0 := fun q => (by simpa using c8 : ¬ r2 = 0) (e2.trans q)
    have e5 := gn hT
    refine lv_goto (tgt := 1335) hx hb dL_law_854 (by decide) ?_
    refine W.widen (k := cells + 6) (n := slots + 50) (by omega) (by omega) ?_
    exact kK _ _ _ _ _ ⟨aM, N, aO, aL, aC, P, t, f, hQ.mf (fun n hn => (hM3.2 n hn).trans (congrFun e5.symm n)), hR.u19, (h.mon (by omega)).u19, ((hM3.2 120 (by omega)).trans (congrFun e5.symm 120)).trans ho, hM3.self⟩ hP hD hS (lv_sub hl [2, 3, 4, 5, 6] rfl)
  · have hT : tMonth M a1 a2 = 0 := e2.symm.trans (by simpa using c8)
    rw [hT] at hM3
    obtain ⟨bM, bN2, bO, bL, bC, bP, bt, bf, hQ2, hR2, hI2, ho2, hv2, -⟩ := g0 hT
    have ho3 := (hM3.2 120 (by omega)).trans ho2
    refine lv_aload_n hx hb dL_law_842 rfl (lv_at hl 5 rfl) ?_
    refine lv_iconst (v := 0) hx hb dL_law_843 (by decide) ?_
    refine va_lald hx hb hK (sg_one hP ho3) 0 1 rfl rfl (vp_in_nI (n := 0) (by decide) (by decide)) dL_law_844 ?_
    refine lv_iload hx hb dL_law_845 (lv_at hl 0 rfl) ?_
    refine lv_i2l hx hb dL_law_847 rfl ?_
    refine W.lcmp hx hb dL_law_848 ?_
    refine lv_if_eq (tgt := 854) hx hb dL_law_849 (by decide) (fun c7 => ?_) (fun c7 => absurd ((lg_cmp_eq _ _).mpr (hv2.trans (by rw [hA3 hT]))) c7)
    refine lv_goto (tgt := 1335) hx hb dL_law_854 (by decide) ?_
    refine W.widen (k := cells + 6) (n := slots + 50) (by omega) (by omega) ?_
    exact kK _ _ _ _ _ ⟨bM, bN2, bO, bL, bC, bP, bt, bf, hQ2.mf hM3.2, hR2, hI2, ho3, hM3.self⟩ hP hD hS (lv_sub hl [2, 3, 4, 5, 6] rfl)
