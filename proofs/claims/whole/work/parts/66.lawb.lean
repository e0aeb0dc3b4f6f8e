set_option maxHeartbeats 1000000 in
set_option maxRecDepth 100000 in
theorem lc_month {p : Program} {l : Launch} {e : Env} {s : State} {m : MethodId} {below : List Frame} {meth : Method} {cd : Code} {D : va_G} {Y : Nat → ClassId} {b L : Nat} {xs : Nat → Int32} {x ou c cells slots : Nat} {ad : Nat → Nat} {M : MS} {σ : sg_W} {H : Heap} {locs : List Loc} {ls : Array Slot} {iv : Int32} {Q : State → Prop} (hE : lwE p l s m cd D Y b L xs) (hW : LW Y x ou ad M c σ) (hc : c < 512) (hP : sg_P D σ H) (hD : sg_D (fun q : Nat => s.heap.size ≤ q) σ) (hS : va_S (fun q : Nat => s.heap.size ≤ q) s.heap H locs) (hl : lv_has ls 8 (lw5 b x ou ad iv)) (hce : cells + 6 ≤ 601024) (hsl : slots + 50 ≤ 7293034) (h1 : vp_in (iv + 1) L) (h2 : vp_in (iv + 2) L) (kK : lwK p l e s m below meth cd D Y b x ou ad c iv cells slots Q) : W p l e room_1 s m #[Value.ref b] below meth cd H locs cells slots Q (F0 m 192 ls []) := by
  obtain ⟨hx, hb, hml, hown, hts, hX, hbl, hK, hN, hC, hXs, hfl⟩ := hE
  obtain ⟨aM, N, aO, aL, aC, P, t, f, hQ, hR, h, ho, hM⟩ := hW
  have hA : ∀ q : Nat, s.heap.size ≤ q → (fun q : Nat => s.heap.size ≤ q) q := fun _ z => z
  have hbA : ¬ (fun q : Nat => s.heap.size ≤ q) b := Nat.not_le.mpr hbl
  have hl : lv_has ls 8 [(0, .ref b), (1, .ref x), (2, .ref (ad 0)), (3, .ref ou), (4, .int iv)] := hl
  refine lv_aload_n hx hb dL_law_192 rfl (lv_at hl 1 rfl) ?_
  refine sg_calli hD hS hA (va_runV (As := []) (rest := []) ⟨hx, hb, hml, hown, hts⟩ (c_X2_month l D Y _ _ x aM N aO aL aC P hQ) (cwV 0 hts gL_law_X2_month rfl rfl rfl (by decide +kernel) ⟨(Nat.le_of_ble_eq_true rfl), (Nat.le_of_ble_eq_true rfl)⟩) (sg_preV (q := (RX2, TX2, 5)) (hQ.1) rfl hK hP hD hN hXs hS hA) rfl rfl hl.1 rfl (lv_room (Nat.le_of_ble_eq_true rfl)) dL_law_193 ⟨by show cells + 0 ≤ 601024; omega, by show slots + 0 ≤ 7293034; omega⟩) (fun r2 σ2 H locs hw hP hD hS => ?_)
  obtain ⟨e2, rfl⟩ := hw
  refine lv_aload_n hx hb dL_law_196 rfl (lv_at hl 2 rfl) ?_
  refine sg_calli hD hS hA (va_runV (As := []) (rest := [.int r2]) ⟨hx, hb, hml, hown, hts⟩ (c_X3_month l D Y _ _ ad M hM) (cwV 0 hts gL_law_X3_month rfl rfl rfl (by decide +kernel) ⟨(Nat.le_of_ble_eq_true rfl), (Nat.le_of_ble_eq_true rfl)⟩) (sg_preV (q := (RX3, TX3, 20)) (hM.1 0 rfl) rfl hK hP hD hN hXs hS hA) rfl rfl hl.1 rfl (lv_room (Nat.le_of_ble_eq_true rfl)) dL_law_197 ⟨by show cells + 0 + 0 ≤ 601024; omega, by show slots + 0 + 0 ≤ 7293034; omega⟩) (fun r3 σ3 H locs hw hP hD hS => ?_)
  obtain ⟨e3, hM3⟩ := hw
  refine lv_icmp_eq (tgt := 1335) hx hb dL_law_200 (by decide) (fun c9 => ?_) (fun c9 => absurd (e2.trans (hR.2.1.trans e3.symm)) c9)
  refine W.widen (k := cells + 6) (n := slots + 50) (by omega) (by omega) ?_
  exact kK (uS M 19 0) _ _ _ _ ⟨aM, N, aO, aL, aC, P, t, f, hQ.mf hM3.2, (q_S h hR 0).2, (q_S h hR 0).1, (hM3.2 120 (by omega)).trans ho, hM3.self⟩ hP hD hS hl

set_option maxHeartbeats 1000000 in
set_option maxRecDepth 100000 in
theorem lc_money {p : Program} {l : Launch} {e : Env} {s : State} {m : MethodId} {below : List Frame} {meth : Method} {cd : Code} {D : va_G} {Y : Nat → ClassId} {b L : Nat} {xs : Nat → Int32} {x ou c cells slots : Nat} {ad : Nat → Nat} {M : MS} {σ : sg_W} {H : Heap} {locs : List Loc} {ls : Array Slot} {iv : Int32} {Q : State → Prop} (hE : lwE p l s m cd D Y b L xs) (hW : LW Y x ou ad M c σ) (hc : c < 512) (hP : sg_P D σ H) (hD : sg_D (fun q : Nat => s.heap.size ≤ q) σ) (hS : va_S (fun q : Nat => s.heap.size ≤ q) s.heap H locs) (hl : lv_has ls 8 (lw5 b x ou ad iv)) (hce : cells + 6 ≤ 601024) (hsl : slots + 50 ≤ 7293034) (h1 : vp_in (iv + 1) L) (h2 : vp_in (iv + 2) L) (kK : lwK p l e s m below meth cd D Y b x ou ad c iv cells slots Q) : W p l e room_1 s m #[Value.ref b] below meth cd H locs cells slots Q (F0 m 509 ls []) := by
  obtain ⟨hx, hb, hml, hown, hts, hX, hbl, hK, hN, hC, hXs, hfl⟩ := hE
  obtain ⟨aM, N, aO, aL, aC, P, t, f, hQ, hR, h, ho, hM⟩ := hW
  have hA : ∀ q : Nat, s.heap.size ≤ q → (fun q : Nat => s.heap.size ≤ q) q := fun _ z => z
  have hbA : ¬ (fun q : Nat => s.heap.size ≤ q) b := Nat.not_le.mpr hbl
  have hl : lv_has ls 8 [(0, .ref b), (1, .ref x), (2, .ref (ad 0)), (3, .ref ou), (4, .int iv)] := hl
  obtain ⟨a1, ea1⟩ : ∃ z, z = xs (iv + 1).toNatClampNeg := ⟨_, rfl⟩
  refine lv_aload_n hx hb dL_law_509 rfl (lv_at hl 1 rfl) ?_
  refine lv_aload_n hx hb dL_law_510 rfl (lv_at hl 0 rfl) ?_
  refine lv_iload hx hb dL_law_511 (lv_at hl 4 rfl) ?_
  refine lv_iconst (v := 1) hx hb dL_law_513 (by decide) ?_
  refine lv_iadd hx hb dL_law_514 ?_
  refine va_sld hx hb hX hbl hbA hS h1 dL_law_515 ?_
  refine lv_topi (fun v515 ev515 => ?_)
  obtain rfl : a1 = v515 := ea1.trans ev515.symm
  refine lv_aload_n hx hb dL_law_516 rfl (lv_at hl 3 rfl) ?_
  refine sg_xcalli hD hS hA (vx_runSX (As := [.ref x, .int a1, .ref ou]) (rest := []) ⟨hx, hb, hml, hown, hts⟩ (c_L_money l hfl D Y _ _ x ou aM N t c aO aL aC P M f a1 hQ ho h hc hR) (vx_cwSW 3 hts gL_law_L_money rfl rfl rfl (by decide +kernel) ⟨(Nat.le_of_ble_eq_true rfl), (Nat.le_of_ble_eq_true rfl)⟩) (lh_preS hK hP hD hN hC hXs hS hA) rfl rfl hl.1 rfl (lv_room (Nat.le_of_ble_eq_true rfl)) dL_law_517 ⟨by show cells + 1 ≤ 601024; omega, by show slots + 6 ≤ 7293034; omega⟩) (fun E ce q9 H locs hpx hP hD hS hce hcv hcl => False.elim hpx) (fun r2 σ2 H locs hw hP hD hS => ?_)
  have hM2 : MW Y ad M σ2 := hw.mw hM
  obtain ⟨e2, g0, gn⟩ := hw
  refine lv_istore (lv' := [(5, .int r2), (0, .ref b), (1, .ref x), (2, .ref (ad 0)), (3, .ref ou), (4, .int iv)]) hx hb dL_law_520 hl (by decide) rfl (fun ls hl => ?_)
  refine lv_aload_n hx hb dL_law_522 rfl (lv_at hl 3 rfl) ?_
  refine lv_aload_n hx hb dL_law_523 rfl (lv_at hl 1 rfl) ?_
  refine lv_iload hx hb dL_law_524 (lv_at hl 5 rfl) ?_
  refine lv_iconst (v := 1) hx hb dL_law_526 (by decide) ?_
  refine lv_iadd hx hb dL_law_527 ?_
  refine va_sld hx hb hX hbl hbA hS h1 dL_law_528 ?_
  refine lv_topi (fun v528 ev528 => ?_)
  obtain rfl : a1 = v528 := ea1.trans ev528.symm
  refine sg_calli hD hS hA (va_runV (As := [.int a1]) (rest := []) ⟨hx, hb, hml, hown, hts⟩ (c_X3_money l D Y _ _ ad M a1 h.six hM2) (cwV 1 hts gL_law_X3_money rfl rfl rfl (by decide +kernel) ⟨(Nat.le_of_ble_eq_true rfl), (Nat.le_of_ble_eq_true rfl)⟩) (sg_preV (q := (RX3, TX3, 20)) (hM2.1 0 rfl) rfl hK hP hD hN hXs hS hA) rfl rfl hl.1 rfl (lv_room (Nat.le_of_ble_eq_true rfl)) dL_law_529 ⟨by show cells + 1 + 0 ≤ 601024; omega, by show slots + 6 + 0 ≤ 7293034; omega⟩) (fun r3 σ3 H locs hw hP hD hS => ?_)
  obtain ⟨hA3, hM3⟩ := hw
  refine lv_istore (lv' := [(6, .int r3), (5, .int r2), (0, .ref b), (1, .ref x), (2, .ref (ad 0)), (3, .ref ou), (4, .int iv)]) hx hb dL_law_532 hl (by decide) rfl (fun ls hl => ?_)
  refine lv_aload_n hx hb dL_law_534 rfl (lv_at hl 4 rfl) ?_
  refine sg_calli hD hS hA (va_runV (As := []) (rest := []) ⟨hx, hb, hml, hown, hts⟩ (c_X3_thrown l D Y _ _ ad _ hM3.self) (cwV 0 hts gL_law_X3_thrown rfl rfl rfl (by decide +kernel) ⟨(Nat.le_of_ble_eq_true rfl), (Nat.le_of_ble_eq_true rfl)⟩) (sg_preV (q := (RX3, TX3, 20)) (hM3.1 0 rfl) rfl hK hP hD hN hXs hS hA) rfl rfl hl.1 rfl (lv_room (Nat.le_of_ble_eq_true rfl)) dL_law_535 ⟨by show cells + 1 + 0 + 0 ≤ 601024; omega, by show slots + 6 + 0 + 0 ≤ 7293034; omega⟩) (fun r4 σ4 H locs hw hP hD hS => ?_)
  obtain ⟨e4, rfl⟩ := hw
  have e4 : r4 = tMem M a1 := e4
  refine lv_iload hx hb dL_law_538 (lv_at hl 1 rfl) ?_
  refine lv_icmp_eq (tgt := 545) hx hb dL_law_540 (by decide) (fun c9 => ?_) (fun c9 => absurd (e4.trans e2.symm) c9)
  refine lv_iload hx hb dL_law_545 (lv_at hl 1 rfl) ?_
  refine lv_if_ne (tgt := 562) hx hb dL_law_547 (by decide) (fun c8 => ?_) (fun c8 => ?_)
  · have hT : ¬ tMem M a1 = 0 := fun q => (by simpa using c8 : ¬ r2 = 0) (e2.trans q)
    have e5 := gn hT
    refine lv_goto (tgt := 1335) hx hb dL_law_562 (by decide) ?_
    refine W.widen (k := cells + 6) (n := slots + 50) (by omega) (by omega) ?_
    exact kK _ _ _ _ _ ⟨aM, N, aO, aL, aC, P, t, f, hQ.mf (fun n hn => (hM3.2 n hn).trans (congrFun e5.symm n)), hR.u19, (h.mon (by omega)).u19, ((hM3.2 120 (by omega)).trans (congrFun e5.symm 120)).trans ho, hM3.self⟩ hP hD hS (lv_sub hl [2, 3, 4, 5, 6] rfl)
  · have hT : tMem M a1 = 0 := e2.symm.trans (by simpa using c8)
    rw [hT] at hM3
    obtain ⟨bM, bN2, bO, bL, bC, bP, bt, bf, hQ2, hR2, hI2, ho2, hv2, -⟩ := g0 hT
    have ho3 := (hM3.2 120 (by omega)).trans ho2
    refine lv_aload_n hx hb dL_law_550 rfl (lv_at hl 5 rfl) ?_
    refine lv_iconst (v := 0) hx hb dL_law_551 (by decide) ?_
    refine va_lald hx hb hK (sg_one hP ho3) 0 1 rfl rfl (vp_in_nI (n := 0) (by decide) (by decide)) dL_law_552 ?_
    refine lv_iload hx hb dL_law_553 (lv_at hl 0 rfl) ?_
    refine lv_i2l hx hb dL_law_555 rfl ?_
    refine W.lcmp hx hb dL_law_556 ?_
    refine lv_if_eq (tgt := 562) hx hb dL_law_557 (by decide) (fun c7 => ?_) (fun c7 => absurd ((lg_cmp_eq _ _).mpr (hv2.trans (by rw [hA3 hT]))) c7)
    refine lv_goto (tgt := 1335) hx hb dL_law_562 (by decide) ?_
    refine W.widen (k := cells + 6) (n := slots + 50) (by omega) (by omega) ?_
    exact kK _ _ _ _ _ ⟨bM, bN2, bO, bL, bC, bP, bt, bf, hQ2.mf hM3.2, hR2, hI2, ho3, hM3.self⟩ hP hD hS (lv_sub hl [2, 3, 4, 5, 6] rfl)
