theorem kLot_some {c : CS} {d : Int32} {la : Nat} (h : kLot c d = some la) : tN (d / 6) < 10 ∧ kR c (tN (d / 6)) = some la := by
  unfold kLot at h
  split at h
  · split at h
    · cases h
    · rename_i h1 h2
      refine ⟨?_, h⟩
      have h3 : ¬ d / 6 < 0 := fun q => h2 (Or.inl q)
      have h4 : ¬ 10 ≤ d / 6 := fun q => h2 (Or.inr q)
      exact vp_lt (vp_10 h3 (Int32.not_le.mp h4))
  · cases h
def pLot (c : CS) (d : Int32) (f : Nat) (v : Int32) : Int32 := if kLot c d = none then v else kV c (tN (d / 6)) f
theorem y4 {x : Int32} (h : x < 0 ∨ 5 ≤ x) : ¬ qIn x 0 4 := by
  rintro ⟨h1, h2⟩
  simp only [Int32.lt_iff_toInt_lt, Int32.le_iff_toInt_le] at *
  have a1 : (0 : Int32).toInt = 0 := rfl
  have a2 : (5 : Int32).toInt = 5 := rfl
  have a3 : (4 : Int32).toInt = 4 := rfl
  omega
theorem y4b {x : Int32} (h1 : 0 ≤ x) (h2 : x < 5) : qIn x 0 4 := by
  refine ⟨h1, ?_⟩
  simp only [Int32.lt_iff_toInt_lt, Int32.le_iff_toInt_le] at *
  have a2 : (5 : Int32).toInt = 5 := rfl
  have a3 : (4 : Int32).toInt = 4 := rfl
  omega
theorem wi_X2_rate_X1 : ∀ w ∈ wsX10, w ∈ wsX2_rate := by decide +kernel
set_option maxHeartbeats 4000000 in
set_option maxRecDepth 100000 in
theorem c_X2_rate (l : Launch) (hfl : l.stackTraces = false) (D : va_G) (Y : Nat → ClassId) (σ : sg_W) (sz : Nat) (x aM N : Nat) (aO aL aC : Nat → Nat) (P : PS) (i y : Int32) (hQ : PF Y x aM N aO aL aC σ P σ) : vx_Met l yX2_rate wsX2_rate ({ frames := 7, cells := 3, slots := 18, locals := 112 } : Room) (va_Pc [.ref x, .int i, .int y] (sg_U D Y σ sz)) (va_Qi (fun r σ' => r = kI (pC P (tN i)) 2 ∧ vp_in i N ∧ qIn y 1 15 ∧ kI (pC P (tN i)) 3 = 0 ∧ PF Y x aM N aO aL aC σ (uPC P (tN i) (uKI (pC P (tN i)) 2 y)) σ') (sg_B D σ sz) (sg_A σ sz)) (sg_T9 D σ sz (fun E => (E = "java/lang/IndexOutOfBoundsException" ∧ ¬ vp_in i N) ∨ (vp_in i N ∧ E = "java/lang/IllegalArgumentException" ∧ ¬ qIn y 1 15) ∨ (vp_in i N ∧ qIn y 1 15 ∧ E = "java/lang/IllegalStateException" ∧ ¬ kI (pC P (tN i)) 3 = 0))) 3 18 (sg_A σ sz) := by
  refine sg_metX (cc := cX2_rate) (maxL := 5) (ret := (some .int)) (by decide) rfl (Nat.le_of_ble_eq_true rfl) ?_
  intro p e s m below meth cd9 ls hx hb hml hex hr hown hts hlocks hnm hP hK hD hN hX hA hS hsz hl
  have hl : lv_has ls 5 [(0, .ref x), (1, .int i), (2, .int y)] := hl
  refine lv_aload_n hx hb dX2_rate_0 rfl (lv_at hl 0 rfl) ?_
  refine lv_iload_n hx hb dX2_rate_1 rfl (lv_at hl 1 rfl) ?_
  refine sg_xcallq hD hS hA (vx_runV (As := [.int i]) (rest := []) ⟨hx, hb, hml, hown, hts⟩ (c_X2_memberOrThrow l hfl D Y _ _ x aM N aO aL aC P i hQ.self) (cwV 1 hts gX2_rate_X2_memberOrThrow rfl rfl rfl (by decide +kernel) ⟨Nat.le_of_ble_eq_true rfl, Nat.le_of_ble_eq_true rfl⟩) (sg_preV (q := (RX2, TX2, 5)) (hQ.1) rfl hK hP hD hN hX hS hA) rfl rfl hl.1 rfl (lv_room (Nat.le_of_ble_eq_true rfl)) dX2_rate_2 ⟨Nat.le_of_ble_eq_true rfl, Nat.le_of_ble_eq_true rfl⟩) (fun E ce q9 H locs hpx hP hD hS hce hcv hcl => ?_) (fun r2 σ' H locs hw hP hD hS => ?_)
  · exact sg_xout hex hlocks hce hcv hcl hP hS (Nat.le_of_ble_eq_true rfl) (Nat.le_of_ble_eq_true rfl) (Or.inl hpx)
  obtain ⟨rfl, hvi, rfl⟩ := hw
  have hi9 := vp_lt hvi
  refine W.eq (g2 := F0 m 5 ls [.ref (aO (tN i))]) rfl ?_
  refine lv_astore_n (lv' := [(3, .ref (aO (tN i))), (0, .ref x), (1, .int i), (2, .int y)]) hx hb dX2_rate_5 rfl hl (by decide) rfl (fun ls hl => ?_)
  refine lv_iload_n hx hb dX2_rate_6 rfl (lv_at hl 3 rfl) ?_
  refine sg_xcallv hD hS hA (vx_runS (As := [.int y]) (rest := []) ⟨hx, hb, hml, hown, hts⟩ (c_X2_refuseBadRate l hfl D Y _ _ y) (va_cwS 1 hts gX2_rate_X2_refuseBadRate rfl rfl rfl (by decide +kernel) ⟨Nat.le_of_ble_eq_true rfl, Nat.le_of_ble_eq_true rfl⟩) (sg_preS hK hP hD hN hX hS hA) rfl rfl hl.1 rfl (lv_room (Nat.le_of_ble_eq_true rfl)) dX2_rate_7 ⟨Nat.le_of_ble_eq_true rfl, Nat.le_of_ble_eq_true rfl⟩) (fun E ce q9 H locs hpx hP hD hS hce hcv hcl => ?_) (fun σ' H locs hw hP hD hS => ?_)
  · exact sg_xout hex hlocks hce hcv hcl hP hS (Nat.le_of_ble_eq_true rfl) (Nat.le_of_ble_eq_true rfl) (Or.inr (Or.inl ⟨hvi, hpx⟩))
  obtain ⟨hqr, rfl⟩ := hw
  refine lv_aload_n hx hb dX2_rate_10 rfl (lv_at hl 0 rfl) ?_
  refine sg_xcallv hD hS hA (vx_runS (As := [.ref (aO (tN i))]) (rest := []) ⟨hx, hb, hml, hown, hts⟩ (c_X2_refuseLeft l hfl D Y _ _ (1000 + 20 * tN i) (aO (tN i)) (aL (tN i)) (aC (tN i)) (pC P (tN i)) (hQ.2.2.1 _ hi9)) (va_cwS 1 hts gX2_rate_X2_refuseLeft rfl rfl rfl (by decide +kernel) ⟨Nat.le_of_ble_eq_true rfl, Nat.le_of_ble_eq_true rfl⟩) (sg_preS hK hP hD hN hX hS hA) rfl rfl hl.1 rfl (lv_room (Nat.le_of_ble_eq_true rfl)) dX2_rate_11 ⟨Nat.le_of_ble_eq_true rfl, Nat.le_of_ble_eq_true rfl⟩) (fun E ce q9 H locs hpx hP hD hS hce hcv hcl => ?_) (fun σ' H locs hw hP hD hS => ?_)
  · exact sg_xout hex hlocks hce hcv hcl hP hS (Nat.le_of_ble_eq_true rfl) (Nat.le_of_ble_eq_true rfl) (Or.inr (Or.inr ⟨hvi, hqr, hpx⟩))
  obtain ⟨hlf, rfl⟩ := hw
  refine lv_aload_n hx hb dX2_rate_14 rfl (lv_at hl 0 rfl) ?_
  refine va_getN (ref := RX1) (host := RX2) (v := .int (kI (pC P (tN i)) 2)) hx hb hts wi_X2_rate_X1 hown hK (sg_one hP ((hQ.2.2.1 _ hi9).1)) 0 rfl rfl 2 (by decide) (va_Nw.use rfl (hN.1 (.fieldLinkNest RX2 71 RX1 "rate" "I" RX2) (List.mem_of_getElem? (i := 4) rfl))) (fun _ h => h) rfl dX2_rate_15 ?_
  refine lv_topi (fun v18 ev18 => ?_)
  obtain rfl : v18 = kI (pC P (tN i)) 2 := by exact ev18
  refine lv_istore (lv' := [(4, .int (kI (pC P (tN i)) 2)), (3, .ref (aO (tN i))), (0, .ref x), (1, .int i), (2, .int y)]) hx hb dX2_rate_18 hl (by decide) rfl (fun ls hl => ?_)
  refine lv_aload_n hx hb dX2_rate_20 rfl (lv_at hl 1 rfl) ?_
  refine lv_iload_n hx hb dX2_rate_21 rfl (lv_at hl 4 rfl) ?_
  refine sg_putN (ref := RX1) (host := RX2) (ty := .int) (v := .int y) hx hb hts wi_X2_rate_X1 tyX1 tyX1_ok nmX1 hown hK hP hD hS ((hQ.2.2.1 _ hi9).1) rfl 2 (by decide) (va_Nw.use rfl (hN.1 (.fieldLinkNest RX2 71 RX1 "rate" "I" RX2) (List.mem_of_getElem? (i := 4) rfl))) (fun _ h => h) rfl (by decide +kernel) rfl rfl (Nat.le_of_ble_eq_true rfl) dX2_rate_22 (fun H locs hP hD hS => ?_)
  have hQ := hQ.mem hi9 ((hQ.2.2.1 _ hi9).i2 (v := y))
  refine lv_iload hx hb dX2_rate_25 (lv_at hl 0 rfl) ?_
  exact vx_ret (sg_iret hx hb hr rfl hlocks hP hD hS (Nat.le_of_ble_eq_true rfl) (Nat.le_of_ble_eq_true rfl) dX2_rate_27 (⟨rfl, hvi, hqr, hlf, hQ⟩))

set_option maxHeartbeats 4000000 in
set_option maxRecDepth 100000 in
theorem c_X2_slip (l : Launch) (hfl : l.stackTraces = false) (D : va_G) (Y : Nat → ClassId) (σ : sg_W) (sz : Nat) (x aM N : Nat) (aO aL aC : Nat → Nat) (P : PS) (i y : Int32) (hQ : PF Y x aM N aO aL aC σ P σ) : vx_Met l yX2_slip wsX2_slip ({ frames := 7, cells := 3, slots := 18, locals := 112 } : Room) (va_Pc [.ref x, .int i, .int y] (sg_U D Y σ sz)) (va_Qi (fun r σ' => r = y * kI (pC P (tN i)) 2 / 100 ∧ vp_in i N ∧ qIn y 0 5000000 ∧ kI (pC P (tN i)) 3 = 0 ∧ PF Y x aM N aO aL aC σ (uPC P (tN i) (uKL (uKL (pC P (tN i)) 4 (kL (pC P (tN i)) 4 + (y * kI (pC P (tN i)) 2 / 100).toInt64)) 7 (kL (pC P (tN i)) 7 + (y * kI (pC P (tN i)) 2 / 100).toInt64))) σ') (sg_B D σ sz) (sg_A σ sz)) (sg_T9 D σ sz (fun E => (E = "java/lang/IndexOutOfBoundsException" ∧ ¬ vp_in i N) ∨ (vp_in i N ∧ E = "java/lang/IllegalArgumentException" ∧ ¬ qIn y 0 5000000) ∨ (vp_in i N ∧ qIn y 0 5000000 ∧ E = "java/lang/IllegalStateException" ∧ ¬ kI (pC P (tN i)) 3 = 0))) 3 18 (sg_A σ sz) := by
  refine sg_metX (cc := cX2_slip) (maxL := 4) (ret := (some .int)) (by decide) rfl (Nat.le_of_ble_eq_true rfl) ?_
  intro p e s m below meth cd9 ls hx hb hml hex hr hown hts hlocks hnm hP hK hD hN hX hA hS hsz hl
  have hl : lv_has ls 4 [(0, .ref x), (1, .int i), (2, .int y)] := hl
  refine lv_aload_n hx hb dX2_slip_0 rfl (lv_at hl 0 rfl) ?_
  refine lv_iload_n hx hb dX2_slip_1 rfl (lv_at hl 1 rfl) ?_
  refine sg_xcallq hD hS hA (vx_runV (As := [.int i]) (rest := []) ⟨hx, hb, hml, hown, hts⟩ (c_X2_memberOrThrow l hfl D Y _ _ x aM N aO aL aC P i hQ.self) (cwV 1 hts gX2_slip_X2_memberOrThrow rfl rfl rfl (by decide +kernel) ⟨Nat.le_of_ble_eq_true rfl, Nat.le_of_ble_eq_true rfl⟩) (sg_preV (q := (RX2, TX2, 5)) (hQ.1) rfl hK hP hD hN hX hS hA) rfl rfl hl.1 rfl (lv_room (Nat.le_of_ble_eq_true rfl)) dX2_slip_2 ⟨Nat.le_of_ble_eq_true rfl, Nat.le_of_ble_eq_true rfl⟩) (fun E ce q9 H locs hpx hP hD hS hce hcv hcl => ?_) (fun r2 σ' H locs hw hP hD hS => ?_)
  · exact sg_xout hex hlocks hce hcv hcl hP hS (Nat.le_of_ble_eq_true rfl) (Nat.le_of_ble_eq_true rfl) (Or.inl hpx)
  obtain ⟨rfl, hvi, rfl⟩ := hw
  have hi9 := vp_lt hvi
  refine W.eq (g2 := F0 m 5 ls [.ref (aO (tN i))]) rfl ?_
  refine lv_astore_n (lv' := [(3, .ref (aO (tN i))), (0, .ref x), (1, .int i), (2, .int y)]) hx hb dX2_slip_5 rfl hl (by decide) rfl (fun ls hl => ?_)
  refine lv_iload_n hx hb dX2_slip_6 rfl (lv_at hl 3 rfl) ?_
  refine lv_if_lt (tgt := 16) hx hb dX2_slip_7 (by decide) (fun c7 => ?_) (fun c7 => ?_)
  · skip
    exact sg_throw (cls := "java/lang/IllegalArgumentException") (names := ["java/lang/RuntimeException", "java/lang/Exception"]) (B := [.castable "java/lang/IllegalArgumentException" "java/lang/IllegalArgumentException", .declares (Bundle.initS "java/lang/RuntimeException"), .declares (Bundle.initS "java/lang/Exception"), .declares (Bundle.initS "java/lang/Throwable")]) hx hb hfl hown (by decide +kernel) (by decide +kernel) (hts (.classLink RX2 30 "java/lang/IllegalArgumentException") (by decide +kernel)) (hts (.initialized "java/lang/IllegalArgumentException") (by decide +kernel)) (hN.2.2.2.2 (75, "the gross is out of its range") (List.mem_of_getElem? (i := 12) rfl)) (fun w h => hts w (List.mem_cons_of_mem _ (List.mem_append_left _ (List.mem_append_left _ (List.mem_append_right _ h))))) (by decide +kernel) (vx_c (va_Nw.use rfl (hN.2.2.1 _ (List.mem_of_getElem? (i := 1) rfl))) (vx_c (va_Nw.use rfl (hN.2.2.1 _ (List.mem_of_getElem? (i := 3) rfl))) (vx_c (va_Nw.use rfl (hN.2.2.1 _ (List.mem_of_getElem? (i := 4) rfl))) (vx_c (va_Nw.use rfl (hN.2.2.1 _ (List.mem_of_getElem? (i := 5) rfl))) vx_n)))) (by decide +kernel) hX hP hS (hl.1.trans hml.symm) dX2_slip_16 dX2_slip_19 dX2_slip_20 dX2_slip_22 dX2_slip_25 hex (Nat.le_of_ble_eq_true rfl) (Nat.le_of_ble_eq_true rfl) (Nat.le_of_ble_eq_true rfl) (Nat.le_of_ble_eq_true rfl) hlocks (Nat.le_of_ble_eq_true rfl) (Nat.le_of_ble_eq_true rfl) (Or.inr (Or.inl ⟨hvi, rfl, by grind [Int32.not_le, Int32.not_lt]⟩))
  · skip
    refine lv_iload_n hx hb dX2_slip_10 rfl (lv_at hl 3 rfl) ?_
    refine lv_ldc (v := 5000000) hx hb hown (hts (.constant RX2 74 5000000) (by decide +kernel)) dX2_slip_11 ?_
    refine lv_icmp_le (tgt := 26) hx hb dX2_slip_13 (by decide) (fun c13 => ?_) (fun c13 => ?_)
    · skip
      have hqs : qIn y 0 5000000 := by grind [Int32.not_le, Int32.not_lt]
      refine lv_aload_n hx hb dX2_slip_26 rfl (lv_at hl 0 rfl) ?_
      refine sg_xcallv hD hS hA (vx_runS (As := [.ref (aO (tN i))]) (rest := []) ⟨hx, hb, hml, hown, hts⟩ (c_X2_refuseLeft l hfl D Y _ _ (1000 + 20 * tN i) (aO (tN i)) (aL (tN i)) (aC (tN i)) (pC P (tN i)) (hQ.2.2.1 _ hi9)) (va_cwS 1 hts gX2_slip_X2_refuseLeft rfl rfl rfl (by decide +kernel) ⟨Nat.le_of_ble_eq_true rfl, Nat.le_of_ble_eq_true rfl⟩) (sg_preS hK hP hD hN hX hS hA) rfl rfl hl.1 rfl (lv_room (Nat.le_of_ble_eq_true rfl)) dX2_slip_27 ⟨Nat.le_of_ble_eq_true rfl, Nat.le_of_ble_eq_true rfl⟩) (fun E ce q9 H locs hpx hP hD hS hce hcv hcl => ?_) (fun σ' H locs hw hP hD hS => ?_)
      · exact sg_xout hex hlocks hce hcv hcl hP hS (Nat.le_of_ble_eq_true rfl) (Nat.le_of_ble_eq_true rfl) (Or.inr (Or.inr ⟨hvi, hqs, hpx⟩))
      obtain ⟨hlf, rfl⟩ := hw
      refine lv_aload_n hx hb dX2_slip_30 rfl (lv_at hl 0 rfl) ?_
      refine lv_iload_n hx hb dX2_slip_31 rfl (lv_at hl 3 rfl) ?_
      refine sg_calli hD hS hA (va_runVN (As := [.int y]) (rest := []) ⟨hx, hb, hml, hown, hts⟩ (c_X1_takeSlip l D Y _ _ (1000 + 20 * tN i) (aO (tN i)) (aL (tN i)) (aC (tN i)) (pC P (tN i)) y (hQ.2.2.1 _ hi9)) ⟨(va_cnB 1 hts gX2_slip_X1_takeSlip_n77 rfl rfl rfl (hN.2.1 (.methodLinkNest RX2 77 yX1_takeSlip RX2) (List.mem_of_getElem? (i := 6) rfl)) (hts (.initialized RX1) (by decide +kernel)) (by decide +kernel) ⟨Nat.le_of_ble_eq_true rfl, Nat.le_of_ble_eq_true rfl⟩), (hts (.instanceMethod yX1_takeSlip) (by decide +kernel)), (hts (.selects RX1 yX1_takeSlip yX1_takeSlip) (by decide +kernel))⟩ (sg_preV (q := (RX1, TX1, 14)) ((hQ.2.2.1 _ hi9).1) rfl hK hP hD hN hX hS hA) rfl rfl hl.1 rfl (lv_room (Nat.le_of_ble_eq_true rfl)) dX2_slip_32 ⟨Nat.le_of_ble_eq_true rfl, Nat.le_of_ble_eq_true rfl⟩) (fun r32 σ' H locs hw hP hD hS => ?_)
      obtain ⟨rfl, hw⟩ := hw
      have hQ := hQ.mem hi9 hw
      exact vx_ret (sg_iret hx hb hr rfl hlocks hP hD hS (Nat.le_of_ble_eq_true rfl) (Nat.le_of_ble_eq_true rfl) dX2_slip_35 (⟨rfl, hvi, hqs, hlf, hQ⟩))
    · skip
      exact sg_throw (cls := "java/lang/IllegalArgumentException") (names := ["java/lang/RuntimeException", "java/lang/Exception"]) (B := [.castable "java/lang/IllegalArgumentException" "java/lang/IllegalArgumentException", .declares (Bundle.initS "java/lang/RuntimeException"), .declares (Bundle.initS "java/lang/Exception"), .declares (Bundle.initS "java/lang/Throwable")]) hx hb hfl hown (by decide +kernel) (by decide +kernel) (hts (.classLink RX2 30 "java/lang/IllegalArgumentException") (by decide +kernel)) (hts (.initialized "java/lang/IllegalArgumentException") (by decide +kernel)) (hN.2.2.2.2 (75, "the gross is out of its range") (List.mem_of_getElem? (i := 12) rfl)) (fun w h => hts w (List.mem_cons_of_mem _ (List.mem_append_left _ (List.mem_append_left _ (List.mem_append_right _ h))))) (by decide +kernel) (vx_c (va_Nw.use rfl (hN.2.2.1 _ (List.mem_of_getElem? (i := 1) rfl))) (vx_c (va_Nw.use rfl (hN.2.2.1 _ (List.mem_of_getElem? (i := 3) rfl))) (vx_c (va_Nw.use rfl (hN.2.2.1 _ (List.mem_of_getElem? (i := 4) rfl))) (vx_c (va_Nw.use rfl (hN.2.2.1 _ (List.mem_of_getElem? (i := 5) rfl))) vx_n)))) (by decide +kernel) hX hP hS (hl.1.trans hml.symm) dX2_slip_16 dX2_slip_19 dX2_slip_20 dX2_slip_22 dX2_slip_25 hex (Nat.le_of_ble_eq_true rfl) (Nat.le_of_ble_eq_true rfl) (Nat.le_of_ble_eq_true rfl) (Nat.le_of_ble_eq_true rfl) hlocks (Nat.le_of_ble_eq_true rfl) (Nat.le_of_ble_eq_true rfl) (Or.inr (Or.inl ⟨hvi, rfl, by grind [Int32.not_le, Int32.not_lt]⟩))

set_option maxHeartbeats 4000000 in
set_option maxRecDepth 100000 in
theorem c_X2_leave (l : Launch) (hfl : l.stackTraces = false) (D : va_G) (Y : Nat → ClassId) (σ : sg_W) (sz : Nat) (x aM N : Nat) (aO aL aC : Nat → Nat) (P : PS) (i : Int32) (hQ : PF Y x aM N aO aL aC σ P σ) : vx_Met l yX2_leave wsX2_leave ({ frames := 7, cells := 3, slots := 18, locals := 112 } : Room) (va_Pc [.ref x, .int i] (sg_U D Y σ sz)) (va_Qi (fun r σ' => r = (kL (pC P (tN i)) 4).toInt32 ∧ vp_in i N ∧ kI (pC P (tN i)) 3 = 0 ∧ PF Y x aM N aO aL aC σ (uPC P (tN i) (uKI (uKL (uKL (pC P (tN i)) 6 (kL (pC P (tN i)) 6 + kL (pC P (tN i)) 4)) 4 0) 3 1)) σ') (sg_B D σ sz) (sg_A σ sz)) (sg_T9 D σ sz (fun E => (E = "java/lang/IndexOutOfBoundsException" ∧ ¬ vp_in i N) ∨ (vp_in i N ∧ E = "java/lang/IllegalStateException" ∧ ¬ kI (pC P (tN i)) 3 = 0))) 3 18 (sg_A σ sz) := by
  refine sg_metX (cc := cX2_leave) (maxL := 3) (ret := (some .int)) (by decide) rfl (Nat.le_of_ble_eq_true rfl) ?_
  intro p e s m below meth cd9 ls hx hb hml hex hr hown hts hlocks hnm hP hK hD hN hX hA hS hsz hl
  have hl : lv_has ls 3 [(0, .ref x), (1, .int i)] := hl
  refine lv_aload_n hx hb dX2_leave_0 rfl (lv_at hl 0 rfl) ?_
  refine lv_iload_n hx hb dX2_leave_1 rfl (lv_at hl 1 rfl) ?_
  refine sg_xcallq hD hS hA (vx_runV (As := [.int i]) (rest := []) ⟨hx, hb, hml, hown, hts⟩ (c_X2_memberOrThrow l hfl D Y _ _ x aM N aO aL aC P i hQ.self) (cwV 1 hts gX2_leave_X2_memberOrThrow rfl rfl rfl (by decide +kernel) ⟨Nat.le_of_ble_eq_true rfl, Nat.le_of_ble_eq_true rfl⟩) (sg_preV (q := (RX2, TX2, 5)) (hQ.1) rfl hK hP hD hN hX hS hA) rfl rfl hl.1 rfl (lv_room (Nat.le_of_ble_eq_true rfl)) dX2_leave_2 ⟨Nat.le_of_ble_eq_true rfl, Nat.le_of_ble_eq_true rfl⟩) (fun E ce q9 H locs hpx hP hD hS hce hcv hcl => ?_) (fun r2 σ' H locs hw hP hD hS => ?_)
  · exact sg_xout hex hlocks hce hcv hcl hP hS (Nat.le_of_ble_eq_true rfl) (Nat.le_of_ble_eq_true rfl) (Or.inl hpx)
  obtain ⟨rfl, hvi, rfl⟩ := hw
  have hi9 := vp_lt hvi
  refine W.eq (g2 := F0 m 5 ls [.ref (aO (tN i))]) rfl ?_
  refine lv_astore_n (lv' := [(2, .ref (aO (tN i))), (0, .ref x), (1, .int i)]) hx hb dX2_leave_5 rfl hl (by decide) rfl (fun ls hl => ?_)
  refine lv_aload_n hx hb dX2_leave_6 rfl (lv_at hl 0 rfl) ?_
  refine sg_xcallv hD hS hA (vx_runS (As := [.ref (aO (tN i))]) (rest := []) ⟨hx, hb, hml, hown, hts⟩ (c_X2_refuseLeft l hfl D Y _ _ (1000 + 20 * tN i) (aO (tN i)) (aL (tN i)) (aC (tN i)) (pC P (tN i)) (hQ.2.2.1 _ hi9)) (va_cwS 1 hts gX2_leave_X2_refuseLeft rfl rfl rfl (by decide +kernel) ⟨Nat.le_of_ble_eq_true rfl, Nat.le_of_ble_eq_true rfl⟩) (sg_preS hK hP hD hN hX hS hA) rfl rfl hl.1 rfl (lv_room (Nat.le_of_ble_eq_true rfl)) dX2_leave_7 ⟨Nat.le_of_ble_eq_true rfl, Nat.le_of_ble_eq_true rfl⟩) (fun E ce q9 H locs hpx hP hD hS hce hcv hcl => ?_) (fun σ' H locs hw hP hD hS => ?_)
  · exact sg_xout hex hlocks hce hcv hcl hP hS (Nat.le_of_ble_eq_true rfl) (Nat.le_of_ble_eq_true rfl) (Or.inr ⟨hvi, hpx⟩)
  obtain ⟨hlf, rfl⟩ := hw
  refine lv_aload_n hx hb dX2_leave_10 rfl (lv_at hl 0 rfl) ?_
  refine sg_calll hD hS hA (va_runVN (As := []) (rest := []) ⟨hx, hb, hml, hown, hts⟩ (c_X1_giveBack l D Y _ _ (1000 + 20 * tN i) (aO (tN i)) (aL (tN i)) (aC (tN i)) (pC P (tN i)) (hQ.2.2.1 _ hi9)) ⟨(va_cnB 0 hts gX2_leave_X1_giveBack_n81 rfl rfl rfl (hN.2.1 (.methodLinkNest RX2 81 yX1_giveBack RX2) (List.mem_of_getElem? (i := 7) rfl)) (hts (.initialized RX1) (by decide +kernel)) (by decide +kernel) ⟨Nat.le_of_ble_eq_true rfl, Nat.le_of_ble_eq_true rfl⟩), (hts (.instanceMethod yX1_giveBack) (by decide +kernel)), (hts (.selects RX1 yX1_giveBack yX1_giveBack) (by decide +kernel))⟩ (sg_preV (q := (RX1, TX1, 14)) ((hQ.2.2.1 _ hi9).1) rfl hK hP hD hN hX hS hA) rfl rfl hl.1 rfl (lv_room (Nat.le_of_ble_eq_true rfl)) dX2_leave_11 ⟨Nat.le_of_ble_eq_true rfl, Nat.le_of_ble_eq_true rfl⟩) (fun r11 σ' H locs hw hP hD hS => ?_)
  obtain ⟨rfl, hw⟩ := hw
  have hQ := hQ.mem hi9 hw
  refine lv_l2i hx hb dX2_leave_14 rfl ?_
  exact vx_ret (sg_iret hx hb hr rfl hlocks hP hD hS (Nat.le_of_ble_eq_true rfl) (Nat.le_of_ble_eq_true rfl) dX2_leave_15 (⟨rfl, hvi, hlf, hQ⟩))

theorem wi_X2_bought_X0 : ∀ w ∈ wsX00, w ∈ wsX2_bought := by decide +kernel
set_option maxHeartbeats 4000000 in
set_option maxRecDepth 100000 in
theorem c_X2_bought (l : Launch) (hfl : l.stackTraces = false) (D : va_G) (Y : Nat → ClassId) (σ : sg_W) (sz : Nat) (x aM N : Nat) (aO aL aC : Nat → Nat) (P : PS) (i d : Int32) (hQ : PF Y x aM N aO aL aC σ P σ) : vx_Met l yX2_bought wsX2_bought ({ frames := 7, cells := 3, slots := 18, locals := 112 } : Room) (va_Pc [.ref x, .int i, .int d] (sg_U D Y σ sz)) (va_Qi (fun r σ' => r = pLot (pC P (tN i)) d 5 (0) ∧ (vp_in i N ∧ qIn d 0 59) ∧ σ = σ') (sg_B D σ sz) (sg_A σ sz)) (sg_T9 D σ sz (fun E => E = "java/lang/IndexOutOfBoundsException" ∧ ¬ (vp_in i N ∧ qIn d 0 59))) 3 18 (sg_A σ sz) := by
  refine sg_metX (cc := cX2_bought) (maxL := 5) (ret := (some .int)) (by decide) rfl (Nat.le_of_ble_eq_true rfl) ?_
  intro p e s m below meth cd9 ls hx hb hml hex hr hown hts hlocks hnm hP hK hD hN hX hA hS hsz hl
  have hl : lv_has ls 5 [(0, .ref x), (1, .int i), (2, .int d)] := hl
  refine lv_aload_n hx hb dX2_bought_0 rfl (lv_at hl 0 rfl) ?_
  refine lv_iload_n hx hb dX2_bought_1 rfl (lv_at hl 1 rfl) ?_
  refine sg_xcallq hD hS hA (vx_runV (As := [.int i]) (rest := []) ⟨hx, hb, hml, hown, hts⟩ (c_X2_memberOrThrow l hfl D Y _ _ x aM N aO aL aC P i hQ.self) (cwV 1 hts gX2_bought_X2_memberOrThrow rfl rfl rfl (by decide +kernel) ⟨Nat.le_of_ble_eq_true rfl, Nat.le_of_ble_eq_true rfl⟩) (sg_preV (q := (RX2, TX2, 5)) (hQ.1) rfl hK hP hD hN hX hS hA) rfl rfl hl.1 rfl (lv_room (Nat.le_of_ble_eq_true rfl)) dX2_bought_2 ⟨Nat.le_of_ble_eq_true rfl, Nat.le_of_ble_eq_true rfl⟩) (fun E ce q9 H locs hpx hP hD hS hce hcv hcl => ?_) (fun r2 σ' H locs hw hP hD hS => ?_)
  · exact sg_xout hex hlocks hce hcv hcl hP hS (Nat.le_of_ble_eq_true rfl) (Nat.le_of_ble_eq_true rfl) (⟨hpx.1, fun h => hpx.2 h.1⟩)
  obtain ⟨rfl, hvi, rfl⟩ := hw
  have hi9 := vp_lt hvi
  refine W.eq (g2 := F0 m 5 ls [.ref (aO (tN i))]) rfl ?_
  refine lv_astore_n (lv' := [(3, .ref (aO (tN i))), (0, .ref x), (1, .int i), (2, .int d)]) hx hb dX2_bought_5 rfl hl (by decide) rfl (fun ls hl => ?_)
  refine lv_iload_n hx hb dX2_bought_6 rfl (lv_at hl 3 rfl) ?_
  refine sg_xcallv hD hS hA (vx_runS (As := [.int d]) (rest := []) ⟨hx, hb, hml, hown, hts⟩ (c_X2_refuseBadMonth l hfl D Y _ _ d) (va_cwS 1 hts gX2_bought_X2_refuseBadMonth rfl rfl rfl (by decide +kernel) ⟨Nat.le_of_ble_eq_true rfl, Nat.le_of_ble_eq_true rfl⟩) (sg_preS hK hP hD hN hX hS hA) rfl rfl hl.1 rfl (lv_room (Nat.le_of_ble_eq_true rfl)) dX2_bought_7 ⟨Nat.le_of_ble_eq_true rfl, Nat.le_of_ble_eq_true rfl⟩) (fun E ce q9 H locs hpx hP hD hS hce hcv hcl => ?_) (fun σ' H locs hw hP hD hS => ?_)
  · exact sg_xout hex hlocks hce hcv hcl hP hS (Nat.le_of_ble_eq_true rfl) (Nat.le_of_ble_eq_true rfl) (⟨hpx.1, fun h => hpx.2 h.2⟩)
  obtain ⟨hqd, rfl⟩ := hw
  refine lv_aload_n hx hb dX2_bought_10 rfl (lv_at hl 0 rfl) ?_
  refine lv_iload_n hx hb dX2_bought_11 rfl (lv_at hl 3 rfl) ?_
  refine sg_callq hD hS hA (va_runVN (As := [.int d]) (rest := []) ⟨hx, hb, hml, hown, hts⟩ (c_X1_lotOf l D Y _ _ (1000 + 20 * tN i) (aO (tN i)) (aL (tN i)) (aC (tN i)) (pC P (tN i)) d (hQ.2.2.1 _ hi9)) ⟨(va_cnB 1 hts gX2_bought_X1_lotOf_n105 rfl rfl rfl (hN.2.1 (.methodLinkNest RX2 105 yX1_lotOf RX2) (List.mem_of_getElem? (i := 0) rfl)) (hts (.initialized RX1) (by decide +kernel)) (by decide +kernel) ⟨Nat.le_of_ble_eq_true rfl, Nat.le_of_ble_eq_true rfl⟩), (hts (.instanceMethod yX1_lotOf) (by decide +kernel)), (hts (.selects RX1 yX1_lotOf yX1_lotOf) (by decide +kernel))⟩ (sg_preV (q := (RX1, TX1, 14)) ((hQ.2.2.1 _ hi9).1) rfl hK hP hD hN hX hS hA) rfl rfl hl.1 rfl (lv_room (Nat.le_of_ble_eq_true rfl)) dX2_bought_12 ⟨Nat.le_of_ble_eq_true rfl, Nat.le_of_ble_eq_true rfl⟩) (fun r12 σ' H locs hw hP hD hS => ?_)
  obtain ⟨rfl, rfl⟩ := hw
  rcases hlx : kLot (pC P (tN i)) d with _ | la
  · skip
    refine lv_astoreN (lv' := [(4, .null), (3, .ref (aO (tN i))), (0, .ref x), (1, .int i), (2, .int d)]) hx hb dX2_bought_15 hl (by decide) rfl (fun ls hl => ?_)
    refine lv_aloadN hx hb dX2_bought_17 (lv_at hl 0 rfl) ?_
    refine lv_ifnonnullN hx hb dX2_bought_19 ?_
    refine lv_iconst (v := 0) hx hb dX2_bought_22 (by decide) ?_
    refine lv_goto (tgt := 31) hx hb dX2_bought_23 (by decide) ?_
    exact vx_ret (sg_iret hx hb hr rfl hlocks hP hD hS (Nat.le_of_ble_eq_true rfl) (Nat.le_of_ble_eq_true rfl) dX2_bought_31 (⟨by rw [pLot, hlx]; first | rw [if_pos rfl] | rw [if_neg (by simp)], ⟨hvi, hqd⟩, rfl⟩))
  · obtain ⟨hk9, hla⟩ := kLot_some hlx
    refine lv_astore (lv' := [(4, .ref la), (3, .ref (aO (tN i))), (0, .ref x), (1, .int i), (2, .int d)]) hx hb dX2_bought_15 hl (by decide) rfl (fun ls hl => ?_)
    refine lv_aload hx hb dX2_bought_17 (lv_at hl 0 rfl) ?_
    refine lv_ifnonnull (tgt := 26) hx hb dX2_bought_19 (by decide) ?_
    refine lv_aload hx hb dX2_bought_26 (lv_at hl 0 rfl) ?_
    refine va_getN (ref := RX0) (host := RX2) (v := .int (kV (pC P (tN i)) (tN (d / 6)) 5)) hx hb hts wi_X2_bought_X0 hown hK (sg_one hP ((hQ.2.2.1 _ hi9).lot hk9 hla)) 0 rfl rfl 5 (by decide) (va_Nw.use rfl (hN.1 (.fieldLinkNest RX2 109 RX0 "bought" "I" RX2) (List.mem_of_getElem? (i := 2) rfl))) (fun _ h => h) rfl dX2_bought_28 ?_
    exact vx_ret (sg_iret hx hb hr rfl hlocks hP hD hS (Nat.le_of_ble_eq_true rfl) (Nat.le_of_ble_eq_true rfl) dX2_bought_31 (⟨by rw [pLot, hlx]; first | rw [if_pos rfl] | rw [if_neg (by simp)], ⟨hvi, hqd⟩, rfl⟩))

theorem wi_X2_paidEach_X0 : ∀ w ∈ wsX00, w ∈ wsX2_paidEach := by decide +kernel
set_option maxHeartbeats 4000000 in
set_option maxRecDepth 100000 in
theorem c_X2_paidEach (l : Launch) (hfl : l.stackTraces = false) (D : va_G) (Y : Nat → ClassId) (σ : sg_W) (sz : Nat) (x aM N : Nat) (aO aL aC : Nat → Nat) (P : PS) (i d : Int32) (hQ : PF Y x aM N aO aL aC σ P σ) : vx_Met l yX2_paidEach wsX2_paidEach ({ frames := 7, cells := 3, slots := 18, locals := 112 } : Room) (va_Pc [.ref x, .int i, .int d] (sg_U D Y σ sz)) (va_Qi (fun r σ' => r = pLot (pC P (tN i)) d 2 (-1) ∧ (vp_in i N ∧ qIn d 0 59) ∧ σ = σ') (sg_B D σ sz) (sg_A σ sz)) (sg_T9 D σ sz (fun E => E = "java/lang/IndexOutOfBoundsException" ∧ ¬ (vp_in i N ∧ qIn d 0 59))) 3 18 (sg_A σ sz) := by
  refine sg_metX (cc := cX2_paidEach) (maxL := 5) (ret := (some .int)) (by decide) rfl (Nat.le_of_ble_eq_true rfl) ?_
  intro p e s m below meth cd9 ls hx hb hml hex hr hown hts hlocks hnm hP hK hD hN hX hA hS hsz hl
  have hl : lv_has ls 5 [(0, .ref x), (1, .int i), (2, .int d)] := hl
  refine lv_aload_n hx hb dX2_paidEach_0 rfl (lv_at hl 0 rfl) ?_
  refine lv_iload_n hx hb dX2_paidEach_1 rfl (lv_at hl 1 rfl) ?_
  refine sg_xcallq hD hS hA (vx_runV (As := [.int i]) (rest := []) ⟨hx, hb, hml, hown, hts⟩ (c_X2_memberOrThrow l hfl D Y _ _ x aM N aO aL aC P i hQ.self) (cwV 1 hts gX2_paidEach_X2_memberOrThrow rfl rfl rfl (by decide +kernel) ⟨Nat.le_of_ble_eq_true rfl, Nat.le_of_ble_eq_true rfl⟩) (sg_preV (q := (RX2, TX2, 5)) (hQ.1) rfl hK hP hD hN hX hS hA) rfl rfl hl.1 rfl (lv_room (Nat.le_of_ble_eq_true rfl)) dX2_paidEach_2 ⟨Nat.le_of_ble_eq_true rfl, Nat.le_of_ble_eq_true rfl⟩) (fun E ce q9 H locs hpx hP hD hS hce hcv hcl => ?_) (fun r2 σ' H locs hw hP hD hS => ?_)
  · exact sg_xout hex hlocks hce hcv hcl hP hS (Nat.le_of_ble_eq_true rfl) (Nat.le_of_ble_eq_true rfl) (⟨hpx.1, fun h => hpx.2 h.1⟩)
  obtain ⟨rfl, hvi, rfl⟩ := hw
  have hi9 := vp_lt hvi
  refine W.eq (g2 := F0 m 5 ls [.ref (aO (tN i))]) rfl ?_
  refine lv_astore_n (lv' := [(3, .ref (aO (tN i))), (0, .ref x), (1, .int i), (2, .int d)]) hx hb dX2_paidEach_5 rfl hl (by decide) rfl (fun ls hl => ?_)
  refine lv_iload_n hx hb dX2_paidEach_6 rfl (lv_at hl 3 rfl) ?_
  refine sg_xcallv hD hS hA (vx_runS (As := [.int d]) (rest := []) ⟨hx, hb, hml, hown, hts⟩ (c_X2_refuseBadMonth l hfl D Y _ _ d) (va_cwS 1 hts gX2_paidEach_X2_refuseBadMonth rfl rfl rfl (by decide +kernel) ⟨Nat.le_of_ble_eq_true rfl, Nat.le_of_ble_eq_true rfl⟩) (sg_preS hK hP hD hN hX hS hA) rfl rfl hl.1 rfl (lv_room (Nat.le_of_ble_eq_true rfl)) dX2_paidEach_7 ⟨Nat.le_of_ble_eq_true rfl, Nat.le_of_ble_eq_true rfl⟩) (fun E ce q9 H locs hpx hP hD hS hce hcv hcl => ?_) (fun σ' H locs hw hP hD hS => ?_)
  · exact sg_xout hex hlocks hce hcv hcl hP hS (Nat.le_of_ble_eq_true rfl) (Nat.le_of_ble_eq_true rfl) (⟨hpx.1, fun h => hpx.2 h.2⟩)
  obtain ⟨hqd, rfl⟩ := hw
  refine lv_aload_n hx hb dX2_paidEach_10 rfl (lv_at hl 0 rfl) ?_
  refine lv_iload_n hx hb dX2_paidEach_11 rfl (lv_at hl 3 rfl) ?_
  refine sg_callq hD hS hA (va_runVN (As := [.int d]) (rest := []) ⟨hx, hb, hml, hown, hts⟩ (c_X1_lotOf l D Y _ _ (1000 + 20 * tN i) (aO (tN i)) (aL (tN i)) (aC (tN i)) (pC P (tN i)) d (hQ.2.2.1 _ hi9)) ⟨(va_cnB 1 hts gX2_paidEach_X1_lotOf_n105 rfl rfl rfl (hN.2.1 (.methodLinkNest RX2 105 yX1_lotOf RX2) (List.mem_of_getElem? (i := 0) rfl)) (hts (.initialized RX1) (by decide +kernel)) (by decide +kernel) ⟨Nat.le_of_ble_eq_true rfl, Nat.le_of_ble_eq_true rfl⟩), (hts (.instanceMethod yX1_lotOf) (by decide +kernel)), (hts (.selects RX1 yX1_lotOf yX1_lotOf) (by decide +kernel))⟩ (sg_preV (q := (RX1, TX1, 14)) ((hQ.2.2.1 _ hi9).1) rfl hK hP hD hN hX hS hA) rfl rfl hl.1 rfl (lv_room (Nat.le_of_ble_eq_true rfl)) dX2_paidEach_12 ⟨Nat.le_of_ble_eq_true rfl, Nat.le_of_ble_eq_true rfl⟩) (fun r12 σ' H locs hw hP hD hS => ?_)
  obtain ⟨rfl, rfl⟩ := hw
  rcases hlx : kLot (pC P (tN i)) d with _ | la
  · skip
    refine lv_astoreN (lv' := [(4, .null), (3, .ref (aO (tN i))), (0, .ref x), (1, .int i), (2, .int d)]) hx hb dX2_paidEach_15 hl (by decide) rfl (fun ls hl => ?_)
    refine lv_aloadN hx hb dX2_paidEach_17 (lv_at hl 0 rfl) ?_
    refine lv_ifnonnullN hx hb dX2_paidEach_19 ?_
    refine lv_iconst (v := (-1)) hx hb dX2_paidEach_22 (by decide) ?_
    refine lv_goto (tgt := 31) hx hb dX2_paidEach_23 (by decide) ?_
    exact vx_ret (sg_iret hx hb hr rfl hlocks hP hD hS (Nat.le_of_ble_eq_true rfl) (Nat.le_of_ble_eq_true rfl) dX2_paidEach_31 (⟨by rw [pLot, hlx]; first | rw [if_pos rfl] | rw [if_neg (by simp)], ⟨hvi, hqd⟩, rfl⟩))
  · obtain ⟨hk9, hla⟩ := kLot_some hlx
    refine lv_astore (lv' := [(4, .ref la), (3, .ref (aO (tN i))), (0, .ref x), (1, .int i), (2, .int d)]) hx hb dX2_paidEach_15 hl (by decide) rfl (fun ls hl => ?_)
    refine lv_aload hx hb dX2_paidEach_17 (lv_at hl 0 rfl) ?_
    refine lv_ifnonnull (tgt := 26) hx hb dX2_paidEach_19 (by decide) ?_
    refine lv_aload hx hb dX2_paidEach_26 (lv_at hl 0 rfl) ?_
    refine va_getN (ref := RX0) (host := RX2) (v := .int (kV (pC P (tN i)) (tN (d / 6)) 2)) hx hb hts wi_X2_paidEach_X0 hown hK (sg_one hP ((hQ.2.2.1 _ hi9).lot hk9 hla)) 0 rfl rfl 2 (by decide) (va_Nw.use rfl (hN.1 (.fieldLinkNest RX2 114 RX0 "paidEach" "I" RX2) (List.mem_of_getElem? (i := 1) rfl))) (fun _ h => h) rfl dX2_paidEach_28 ?_
    exact vx_ret (sg_iret hx hb hr rfl hlocks hP hD hS (Nat.le_of_ble_eq_true rfl) (Nat.le_of_ble_eq_true rfl) dX2_paidEach_31 (⟨by rw [pLot, hlx]; first | rw [if_pos rfl] | rw [if_neg (by simp)], ⟨hvi, hqd⟩, rfl⟩))

set_option maxHeartbeats 4000000 in
set_option maxRecDepth 100000 in
theorem c_X2_counted (l : Launch) (hfl : l.stackTraces = false) (D : va_G) (Y : Nat → ClassId) (σ : sg_W) (sz : Nat) (x aM N : Nat) (aO aL aC : Nat → Nat) (P : PS) (i d : Int32) (hQ : PF Y x aM N aO aL aC σ P σ) : vx_Met l yX2_counted wsX2_counted ({ frames := 7, cells := 3, slots := 18, locals := 112 } : Room) (va_Pc [.ref x, .int i, .int d] (sg_U D Y σ sz)) (va_Ql (fun r σ' => r = kCnt (pC P (tN i)) d ∧ (vp_in i N ∧ qIn d 0 4) ∧ σ = σ') (sg_B D σ sz) (sg_A σ sz)) (sg_T9 D σ sz (fun E => E = "java/lang/IndexOutOfBoundsException" ∧ ¬ (vp_in i N ∧ qIn d 0 4))) 3 18 (sg_A σ sz) := by
  refine sg_metX (cc := cX2_counted) (maxL := 4) (ret := (some .long)) (by decide) rfl (Nat.le_of_ble_eq_true rfl) ?_
  intro p e s m below meth cd9 ls hx hb hml hex hr hown hts hlocks hnm hP hK hD hN hX hA hS hsz hl
  have hl : lv_has ls 4 [(0, .ref x), (1, .int i), (2, .int d)] := hl
  refine lv_aload_n hx hb dX2_counted_0 rfl (lv_at hl 0 rfl) ?_
  refine lv_iload_n hx hb dX2_counted_1 rfl (lv_at hl 1 rfl) ?_
  refine sg_xcallq hD hS hA (vx_runV (As := [.int i]) (rest := []) ⟨hx, hb, hml, hown, hts⟩ (c_X2_memberOrThrow l hfl D Y _ _ x aM N aO aL aC P i hQ.self) (cwV 1 hts gX2_counted_X2_memberOrThrow rfl rfl rfl (by decide +kernel) ⟨Nat.le_of_ble_eq_true rfl, Nat.le_of_ble_eq_true rfl⟩) (sg_preV (q := (RX2, TX2, 5)) (hQ.1) rfl hK hP hD hN hX hS hA) rfl rfl hl.1 rfl (lv_room (Nat.le_of_ble_eq_true rfl)) dX2_counted_2 ⟨Nat.le_of_ble_eq_true rfl, Nat.le_of_ble_eq_true rfl⟩) (fun E ce q9 H locs hpx hP hD hS hce hcv hcl => ?_) (fun r2 σ' H locs hw hP hD hS => ?_)
  · exact sg_xout hex hlocks hce hcv hcl hP hS (Nat.le_of_ble_eq_true rfl) (Nat.le_of_ble_eq_true rfl) (⟨hpx.1, fun h => hpx.2 h.1⟩)
  obtain ⟨rfl, hvi, rfl⟩ := hw
  have hi9 := vp_lt hvi
  refine W.eq (g2 := F0 m 5 ls [.ref (aO (tN i))]) rfl ?_
  refine lv_astore_n (lv' := [(3, .ref (aO (tN i))), (0, .ref x), (1, .int i), (2, .int d)]) hx hb dX2_counted_5 rfl hl (by decide) rfl (fun ls hl => ?_)
  refine lv_iload_n hx hb dX2_counted_6 rfl (lv_at hl 3 rfl) ?_
  refine lv_if_lt (tgt := 15) hx hb dX2_counted_7 (by decide) (fun c7 => ?_) (fun c7 => ?_)
  · skip
    exact sg_throw (cls := "java/lang/IndexOutOfBoundsException") (names := ["java/lang/RuntimeException", "java/lang/Exception"]) (B := [.castable "java/lang/IndexOutOfBoundsException" "java/lang/IndexOutOfBoundsException", .declares (Bundle.initS "java/lang/RuntimeException"), .declares (Bundle.initS "java/lang/Exception"), .declares (Bundle.initS "java/lang/Throwable")]) hx hb hfl hown (by decide +kernel) (by decide +kernel) (hts (.classLink RX2 117 "java/lang/IndexOutOfBoundsException") (by decide +kernel)) (hts (.initialized "java/lang/IndexOutOfBoundsException") (by decide +kernel)) (hN.2.2.2.2 (119, "there is no such year") (List.mem_of_getElem? (i := 0) rfl)) (fun w h => hts w (List.mem_cons_of_mem _ (List.mem_append_right _ h))) (by decide +kernel) (vx_c (va_Nw.use rfl (hN.2.2.1 _ (List.mem_of_getElem? (i := 0) rfl))) (vx_c (va_Nw.use rfl (hN.2.2.1 _ (List.mem_of_getElem? (i := 3) rfl))) (vx_c (va_Nw.use rfl (hN.2.2.1 _ (List.mem_of_getElem? (i := 4) rfl))) (vx_c (va_Nw.use rfl (hN.2.2.1 _ (List.mem_of_getElem? (i := 5) rfl))) vx_n)))) (by decide +kernel) hX hP hS (hl.1.trans hml.symm) dX2_counted_15 dX2_counted_18 dX2_counted_19 dX2_counted_21 dX2_counted_24 hex (Nat.le_of_ble_eq_true rfl) (Nat.le_of_ble_eq_true rfl) (Nat.le_of_ble_eq_true rfl) (Nat.le_of_ble_eq_true rfl) hlocks (Nat.le_of_ble_eq_true rfl) (Nat.le_of_ble_eq_true rfl) (⟨rfl, fun h => y4 (by grind [Int32.not_le, Int32.not_lt]) h.2⟩)
  · skip
    refine lv_iload_n hx hb dX2_counted_10 rfl (lv_at hl 3 rfl) ?_
    refine lv_iconst (v := 5) hx hb dX2_counted_11 (by decide) ?_
    refine lv_icmp_lt (tgt := 25) hx hb dX2_counted_12 (by decide) (fun c12 => ?_) (fun c12 => ?_)
    · skip
      refine lv_aload_n hx hb dX2_counted_25 rfl (lv_at hl 0 rfl) ?_
      refine lv_iload_n hx hb dX2_counted_26 rfl (lv_at hl 3 rfl) ?_
      refine sg_calll hD hS hA (va_runVN (As := [.int d]) (rest := []) ⟨hx, hb, hml, hown, hts⟩ (c_X1_countedIn l D Y _ _ (1000 + 20 * tN i) (aO (tN i)) (aL (tN i)) (aC (tN i)) (pC P (tN i)) d (hQ.2.2.1 _ hi9)) ⟨(va_cnB 1 hts gX2_counted_X1_countedIn_n122 rfl rfl rfl (hN.2.1 (.methodLinkNest RX2 122 yX1_countedIn RX2) (List.mem_of_getElem? (i := 1) rfl)) (hts (.initialized RX1) (by decide +kernel)) (by decide +kernel) ⟨Nat.le_of_ble_eq_true rfl, Nat.le_of_ble_eq_true rfl⟩), (hts (.instanceMethod yX1_countedIn) (by decide +kernel)), (hts (.selects RX1 yX1_countedIn yX1_countedIn) (by decide +kernel))⟩ (sg_preV (q := (RX1, TX1, 14)) ((hQ.2.2.1 _ hi9).1) rfl hK hP hD hN hX hS hA) rfl rfl hl.1 rfl (lv_room (Nat.le_of_ble_eq_true rfl)) dX2_counted_27 ⟨Nat.le_of_ble_eq_true rfl, Nat.le_of_ble_eq_true rfl⟩) (fun r27 σ' H locs hw hP hD hS => ?_)
      obtain ⟨rfl, rfl⟩ := hw
      exact vx_ret (sg_lret hx hb hr hlocks hP hD hS (Nat.le_of_ble_eq_true rfl) (Nat.le_of_ble_eq_true rfl) dX2_counted_30 (⟨rfl, ⟨hvi, y4b (Int32.not_lt.mp c7) c12⟩, rfl⟩))
    · skip
      exact sg_throw (cls := "java/lang/IndexOutOfBoundsException") (names := ["java/lang/RuntimeException", "java/lang/Exception"]) (B := [.castable "java/lang/IndexOutOfBoundsException" "java/lang/IndexOutOfBoundsException", .declares (Bundle.initS "java/lang/RuntimeException"), .declares (Bundle.initS "java/lang/Exception"), .declares (Bundle.initS "java/lang/Throwable")]) hx hb hfl hown (by decide +kernel) (by decide +kernel) (hts (.classLink RX2 117 "java/lang/IndexOutOfBoundsException") (by decide +kernel)) (hts (.initialized "java/lang/IndexOutOfBoundsException") (by decide +kernel)) (hN.2.2.2.2 (119, "there is no such year") (List.mem_of_getElem? (i := 0) rfl)) (fun w h => hts w (List.mem_cons_of_mem _ (List.mem_append_right _ h))) (by decide +kernel) (vx_c (va_Nw.use rfl (hN.2.2.1 _ (List.mem_of_getElem? (i := 0) rfl))) (vx_c (va_Nw.use rfl (hN.2.2.1 _ (List.mem_of_getElem? (i := 3) rfl))) (vx_c (va_Nw.use rfl (hN.2.2.1 _ (List.mem_of_getElem? (i := 4) rfl))) (vx_c (va_Nw.use rfl (hN.2.2.1 _ (List.mem_of_getElem? (i := 5) rfl))) vx_n)))) (by decide +kernel) hX hP hS (hl.1.trans hml.symm) dX2_counted_15 dX2_counted_18 dX2_counted_19 dX2_counted_21 dX2_counted_24 hex (Nat.le_of_ble_eq_true rfl) (Nat.le_of_ble_eq_true rfl) (Nat.le_of_ble_eq_true rfl) (Nat.le_of_ble_eq_true rfl) hlocks (Nat.le_of_ble_eq_true rfl) (Nat.le_of_ble_eq_true rfl) (⟨rfl, fun h => y4 (by grind [Int32.not_le, Int32.not_lt]) h.2⟩)

theorem wi_X2_sell_X2 : ∀ w ∈ wsX20, w ∈ wsX2_sell := by decide +kernel
set_option maxHeartbeats 4000000 in
set_option maxRecDepth 100000 in
theorem c_X2_sell (l : Launch) (hfl : l.stackTraces = false) (D : va_G) (Y : Nat → ClassId) (σ : sg_W) (sz : Nat) (x aM N : Nat) (aO aL aC : Nat → Nat) (P : PS) (i y : Int32) (hQ : PF Y x aM N aO aL aC σ P σ) : vx_Met l yX2_sell wsX2_sell ({ frames := 7, cells := 3, slots := 18, locals := 112 } : Room) (va_Pc [.ref x, .int i, .int y] (sg_U D Y σ sz)) (va_Qi (fun r σ' => r = (kSellN (pS P 2) (pS P 3) 10 ((pC P (tN i)), y, 0)).2.2 ∧ vp_in i N ∧ qIn y 1 1000000 ∧ y ≤ kSum (pC P (tN i)) 10 ∧ PF Y x aM N aO aL aC σ (uPC P (tN i) (kSellN (pS P 2) (pS P 3) 10 ((pC P (tN i)), y, 0)).1) σ') (sg_B D σ sz) (sg_A σ sz)) (sg_T9 D σ sz (fun E => (E = "java/lang/IndexOutOfBoundsException" ∧ ¬ vp_in i N) ∨ (vp_in i N ∧ E = "java/lang/IllegalArgumentException" ∧ ¬ qIn y 1 1000000) ∨ (vp_in i N ∧ qIn y 1 1000000 ∧ E = "java/lang/IllegalStateException" ∧ ¬ y ≤ kSum (pC P (tN i)) 10))) 3 18 (sg_A σ sz) := by
  refine sg_metX (cc := cX2_sell) (maxL := 4) (ret := (some .int)) (by decide) rfl (Nat.le_of_ble_eq_true rfl) ?_
  intro p e s m below meth cd9 ls hx hb hml hex hr hown hts hlocks hnm hP hK hD hN hX hA hS hsz hl
  have hl : lv_has ls 4 [(0, .ref x), (1, .int i), (2, .int y)] := hl
  refine lv_aload_n hx hb dX2_sell_0 rfl (lv_at hl 0 rfl) ?_
  refine lv_iload_n hx hb dX2_sell_1 rfl (lv_at hl 1 rfl) ?_
  refine sg_xcallq hD hS hA (vx_runV (As := [.int i]) (rest := []) ⟨hx, hb, hml, hown, hts⟩ (c_X2_memberOrThrow l hfl D Y _ _ x aM N aO aL aC P i hQ.self) (cwV 1 hts gX2_sell_X2_memberOrThrow rfl rfl rfl (by decide +kernel) ⟨Nat.le_of_ble_eq_true rfl, Nat.le_of_ble_eq_true rfl⟩) (sg_preV (q := (RX2, TX2, 5)) (hQ.1) rfl hK hP hD hN hX hS hA) rfl rfl hl.1 rfl (lv_room (Nat.le_of_ble_eq_true rfl)) dX2_sell_2 ⟨Nat.le_of_ble_eq_true rfl, Nat.le_of_ble_eq_true rfl⟩) (fun E ce q9 H locs hpx hP hD hS hce hcv hcl => ?_) (fun r2 σ' H locs hw hP hD hS => ?_)
  · exact sg_xout hex hlocks hce hcv hcl hP hS (Nat.le_of_ble_eq_true rfl) (Nat.le_of_ble_eq_true rfl) (Or.inl hpx)
  obtain ⟨rfl, hvi, rfl⟩ := hw
  have hi9 := vp_lt hvi
  refine W.eq (g2 := F0 m 5 ls [.ref (aO (tN i))]) rfl ?_
  refine lv_astore_n (lv' := [(3, .ref (aO (tN i))), (0, .ref x), (1, .int i), (2, .int y)]) hx hb dX2_sell_5 rfl hl (by decide) rfl (fun ls hl => ?_)
  refine lv_iload_n hx hb dX2_sell_6 rfl (lv_at hl 3 rfl) ?_
  refine lv_iconst (v := 1) hx hb dX2_sell_7 (by decide) ?_
  refine lv_icmp_lt (tgt := 17) hx hb dX2_sell_8 (by decide) (fun c8 => ?_) (fun c8 => ?_)
  · skip
    exact sg_throw (cls := "java/lang/IllegalArgumentException") (names := ["java/lang/RuntimeException", "java/lang/Exception"]) (B := [.castable "java/lang/IllegalArgumentException" "java/lang/IllegalArgumentException", .declares (Bundle.initS "java/lang/RuntimeException"), .declares (Bundle.initS "java/lang/Exception"), .declares (Bundle.initS "java/lang/Throwable")]) hx hb hfl hown (by decide +kernel) (by decide +kernel) (hts (.classLink RX2 30 "java/lang/IllegalArgumentException") (by decide +kernel)) (hts (.initialized "java/lang/IllegalArgumentException") (by decide +kernel)) (hN.2.2.2.2 (136, "the number of shares is out of its range") (List.mem_of_getElem? (i := 1) rfl)) (fun w h => hts w (List.mem_cons_of_mem _ (List.mem_append_left _ (List.mem_append_left _ (List.mem_append_right _ h))))) (by decide +kernel) (vx_c (va_Nw.use rfl (hN.2.2.1 _ (List.mem_of_getElem? (i := 1) rfl))) (vx_c (va_Nw.use rfl (hN.2.2.1 _ (List.mem_of_getElem? (i := 3) rfl))) (vx_c (va_Nw.use rfl (hN.2.2.1 _ (List.mem_of_getElem? (i := 4) rfl))) (vx_c (va_Nw.use rfl (hN.2.2.1 _ (List.mem_of_getElem? (i := 5) rfl))) vx_n)))) (by decide +kernel) hX hP hS (hl.1.trans hml.symm) dX2_sell_17 dX2_sell_20 dX2_sell_21 dX2_sell_23 dX2_sell_26 hex (Nat.le_of_ble_eq_true rfl) (Nat.le_of_ble_eq_true rfl) (Nat.le_of_ble_eq_true rfl) (Nat.le_of_ble_eq_true rfl) hlocks (Nat.le_of_ble_eq_true rfl) (Nat.le_of_ble_eq_true rfl) (Or.inr (Or.inl ⟨hvi, rfl, by grind [Int32.not_le, Int32.not_lt]⟩))
  · skip
    refine lv_iload_n hx hb dX2_sell_11 rfl (lv_at hl 3 rfl) ?_
    refine lv_ldc (v := 1000000) hx hb hown (hts (.constant RX2 135 1000000) (by decide +kernel)) dX2_sell_12 ?_
    refine lv_icmp_le (tgt := 27) hx hb dX2_sell_14 (by decide) (fun c14 => ?_) (fun c14 => ?_)
    · skip
      have hqs : qIn y 1 1000000 := by grind [Int32.not_le, Int32.not_lt]
      refine lv_aload_n hx hb dX2_sell_27 rfl (lv_at hl 0 rfl) ?_
      refine sg_calli hD hS hA (va_runVN (As := []) (rest := []) ⟨hx, hb, hml, hown, hts⟩ (c_X1_sharesHeld l D Y _ _ (1000 + 20 * tN i) (aO (tN i)) (aL (tN i)) (aC (tN i)) (pC P (tN i)) (hQ.2.2.1 _ hi9)) ⟨(va_cnB 0 hts gX2_sell_X1_sharesHeld_n98 rfl rfl rfl (hN.2.1 (.methodLinkNest RX2 98 yX1_sharesHeld RX2) (List.mem_of_getElem? (i := 8) rfl)) (hts (.initialized RX1) (by decide +kernel)) (by decide +kernel) ⟨Nat.le_of_ble_eq_true rfl, Nat.le_of_ble_eq_true rfl⟩), (hts (.instanceMethod yX1_sharesHeld) (by decide +kernel)), (hts (.selects RX1 yX1_sharesHeld yX1_sharesHeld) (by decide +kernel))⟩ (sg_preV (q := (RX1, TX1, 14)) ((hQ.2.2.1 _ hi9).1) rfl hK hP hD hN hX hS hA) rfl rfl hl.1 rfl (lv_room (Nat.le_of_ble_eq_true rfl)) dX2_sell_28 ⟨Nat.le_of_ble_eq_true rfl, Nat.le_of_ble_eq_true rfl⟩) (fun r28 σ' H locs hw hP hD hS => ?_)
      obtain ⟨rfl, rfl⟩ := hw
      refine lv_iload_n hx hb dX2_sell_31 rfl (lv_at hl 3 rfl) ?_
      refine lv_icmp_ge (tgt := 45) hx hb dX2_sell_32 (by decide) (fun c32 => ?_) (fun c32 => ?_)
      · skip
        refine lv_aload_n hx hb dX2_sell_45 rfl (lv_at hl 0 rfl) ?_
        refine lv_iload_n hx hb dX2_sell_46 rfl (lv_at hl 3 rfl) ?_
        refine lv_aload_n hx hb dX2_sell_47 rfl (lv_at hl 1 rfl) ?_
        refine va_get (ref := RX2) (v := .int (pS P 2)) hx hb hts wi_X2_sell_X2 hown hK (sg_one hP (hQ.1)) 0 rfl rfl 2 (by decide) (hts (.fieldLink RX2 19 RX2 "month" "I") (by decide +kernel)) (fun _ h => h) rfl dX2_sell_48 ?_
        refine lv_aload_n hx hb dX2_sell_51 rfl (lv_at hl 1 rfl) ?_
        refine va_get (ref := RX2) (v := .int (pS P 3)) hx hb hts wi_X2_sell_X2 hown hK (sg_one hP (hQ.1)) 0 rfl rfl 3 (by decide) (hts (.fieldLink RX2 22 RX2 "priceNow" "I") (by decide +kernel)) (fun _ h => h) rfl dX2_sell_52 ?_
        refine sg_calli hD hS hA (va_runVN (As := [.int y, .int (pS P 2), .int (pS P 3)]) (rest := []) ⟨hx, hb, hml, hown, hts⟩ (c_X1_sellOldest l D Y _ _ (1000 + 20 * tN i) (aO (tN i)) (aL (tN i)) (aC (tN i)) (pC P (tN i)) y (pS P 2) (pS P 3) (hQ.2.2.1 _ hi9)) ⟨(va_cnB 3 hts gX2_sell_X1_sellOldest_n140 rfl rfl rfl (hN.2.1 (.methodLinkNest RX2 140 yX1_sellOldest RX2) (List.mem_of_getElem? (i := 2) rfl)) (hts (.initialized RX1) (by decide +kernel)) (by decide +kernel) ⟨Nat.le_of_ble_eq_true rfl, Nat.le_of_ble_eq_true rfl⟩), (hts (.instanceMethod yX1_sellOldest) (by decide +kernel)), (hts (.selects RX1 yX1_sellOldest yX1_sellOldest) (by decide +kernel))⟩ (sg_preV (q := (RX1, TX1, 14)) ((hQ.2.2.1 _ hi9).1) rfl hK hP hD hN hX hS hA) rfl rfl hl.1 rfl (lv_room (Nat.le_of_ble_eq_true rfl)) dX2_sell_55 ⟨Nat.le_of_ble_eq_true rfl, Nat.le_of_ble_eq_true rfl⟩) (fun r55 σ' H locs hw hP hD hS => ?_)
        obtain ⟨rfl, hw⟩ := hw
        have hQ := hQ.mem hi9 hw
        exact vx_ret (sg_iret hx hb hr rfl hlocks hP hD hS (Nat.le_of_ble_eq_true rfl) (Nat.le_of_ble_eq_true rfl) dX2_sell_58 (⟨rfl, hvi, hqs, c32, hQ⟩))
      · skip
        exact sg_throw (cls := "java/lang/IllegalStateException") (names := ["java/lang/RuntimeException", "java/lang/Exception"]) (B := [.castable "java/lang/IllegalStateException" "java/lang/IllegalStateException", .declares (Bundle.initS "java/lang/RuntimeException"), .declares (Bundle.initS "java/lang/Exception"), .declares (Bundle.initS "java/lang/Throwable")]) hx hb hfl hown (by decide +kernel) (by decide +kernel) (hts (.classLink RX2 37 "java/lang/IllegalStateException") (by decide +kernel)) (hts (.initialized "java/lang/IllegalStateException") (by decide +kernel)) (hN.2.2.2.2 (138, "the member has fewer shares") (List.mem_of_getElem? (i := 2) rfl)) (fun w h => hts w (List.mem_cons_of_mem _ (List.mem_append_left _ (List.mem_append_right _ h)))) (by decide +kernel) (vx_c (va_Nw.use rfl (hN.2.2.1 _ (List.mem_of_getElem? (i := 2) rfl))) (vx_c (va_Nw.use rfl (hN.2.2.1 _ (List.mem_of_getElem? (i := 3) rfl))) (vx_c (va_Nw.use rfl (hN.2.2.1 _ (List.mem_of_getElem? (i := 4) rfl))) (vx_c (va_Nw.use rfl (hN.2.2.1 _ (List.mem_of_getElem? (i := 5) rfl))) vx_n)))) (by decide +kernel) hX hP hS (hl.1.trans hml.symm) dX2_sell_35 dX2_sell_38 dX2_sell_39 dX2_sell_41 dX2_sell_44 hex (Nat.le_of_ble_eq_true rfl) (Nat.le_of_ble_eq_true rfl) (Nat.le_of_ble_eq_true rfl) (Nat.le_of_ble_eq_true rfl) hlocks (Nat.le_of_ble_eq_true rfl) (Nat.le_of_ble_eq_true rfl) (Or.inr (Or.inr ⟨hvi, hqs, rfl, c32⟩))
    · skip
      exact sg_throw (cls := "java/lang/IllegalArgumentException") (names := ["java/lang/RuntimeException", "java/lang/Exception"]) (B := [.castable "java/lang/IllegalArgumentException" "java/lang/IllegalArgumentException", .declares (Bundle.initS "java/lang/RuntimeException"), .declares (Bundle.initS "java/lang/Exception"), .declares (Bundle.initS "java/lang/Throwable")]) hx hb hfl hown (by decide +kernel) (by decide +kernel) (hts (.classLink RX2 30 "java/lang/IllegalArgumentException") (by decide +kernel)) (hts (.initialized "java/lang/IllegalArgumentException") (by decide +kernel)) (hN.2.2.2.2 (136, "the number of shares is out of its range") (List.mem_of_getElem? (i := 1) rfl)) (fun w h => hts w (List.mem_cons_of_mem _ (List.mem_append_left _ (List.mem_append_left _ (List.mem_append_right _ h))))) (by decide +kernel) (vx_c (va_Nw.use rfl (hN.2.2.1 _ (List.mem_of_getElem? (i := 1) rfl))) (vx_c (va_Nw.use rfl (hN.2.2.1 _ (List.mem_of_getElem? (i := 3) rfl))) (vx_c (va_Nw.use rfl (hN.2.2.1 _ (List.mem_of_getElem? (i := 4) rfl))) (vx_c (va_Nw.use rfl (hN.2.2.1 _ (List.mem_of_getElem? (i := 5) rfl))) vx_n)))) (by decide +kernel) hX hP hS (hl.1.trans hml.symm) dX2_sell_17 dX2_sell_20 dX2_sell_21 dX2_sell_23 dX2_sell_26 hex (Nat.le_of_ble_eq_true rfl) (Nat.le_of_ble_eq_true rfl) (Nat.le_of_ble_eq_true rfl) (Nat.le_of_ble_eq_true rfl) hlocks (Nat.le_of_ble_eq_true rfl) (Nat.le_of_ble_eq_true rfl) (Or.inr (Or.inl ⟨hvi, rfl, by grind [Int32.not_le, Int32.not_lt]⟩))

theorem wi_X2_month_X2 : ∀ w ∈ wsX20, w ∈ wsX2_month := by decide +kernel
set_option maxHeartbeats 4000000 in
set_option maxRecDepth 100000 in
theorem c_X2_month (l : Launch) (D : va_G) (Y : Nat → ClassId) (σ : sg_W) (sz : Nat) (x aM N : Nat) (aO aL aC : Nat → Nat) (P : PS) (hQ : PF Y x aM N aO aL aC σ P σ) : Met l yX2_month wsX2_month ({ frames := 0, cells := 0, slots := 0, locals := 0 } : Room) (va_Pc [.ref x] (sg_U D Y σ sz)) (va_Qi (fun r σ' => r = pS P 2 ∧ σ = σ') (sg_B D σ sz) (sg_A σ sz)) 0 0 (sg_A σ sz) := by
  refine sg_met (cc := cX2_month) (maxL := 1) (ret := (some .int)) (by decide) rfl (Nat.le_of_ble_eq_true rfl) ?_
  intro p e s m below meth cd9 ls hx hb hml hr hown hts hlocks hnm hP hK hD hN hX hA hS hsz hl
  have hl : lv_has ls 1 [(0, .ref x)] := hl
  refine lv_aload_n hx hb dX2_month_0 rfl (lv_at hl 0 rfl) ?_
  refine va_get (ref := RX2) (v := .int (pS P 2)) hx hb hts wi_X2_month_X2 hown hK (sg_one hP (hQ.1)) 0 rfl rfl 2 (by decide) (hts (.fieldLink RX2 19 RX2 "month" "I") (by decide +kernel)) (fun _ h => h) rfl dX2_month_1 ?_
  exact sg_iret hx hb hr rfl hlocks hP hD hS (Nat.le_of_ble_eq_true rfl) (Nat.le_of_ble_eq_true rfl) dX2_month_4 (⟨rfl, rfl⟩)

theorem wi_X2_ceiling_X2 : ∀ w ∈ wsX20, w ∈ wsX2_ceiling := by decide +kernel
set_option maxHeartbeats 4000000 in
set_option maxRecDepth 100000 in
theorem c_X2_ceiling (l : Launch) (hfl : l.stackTraces = false) (D : va_G) (Y : Nat → ClassId) (σ : sg_W) (sz : Nat) (x aM N : Nat) (aO aL aC : Nat → Nat) (P : PS) (y : Int32) (hQ : PF Y x aM N aO aL aC σ P σ) : vx_Met l yX2_ceiling wsX2_ceiling ({ frames := 6, cells := 1, slots := 6, locals := 90 } : Room) (va_Pc [.ref x, .int y] (sg_U D Y σ sz)) (va_Qi (fun r σ' => r = pS P 4 ∧ qIn y 0 10000000 ∧ PF Y x aM N aO aL aC σ (uPS P 4 y) σ') (sg_B D σ sz) (sg_A σ sz)) (sg_T9 D σ sz (fun E => E = "java/lang/IllegalArgumentException" ∧ ¬ qIn y 0 10000000)) 1 6 (sg_A σ sz) := by
  refine sg_metX (cc := cX2_ceiling) (maxL := 3) (ret := (some .int)) (by decide) rfl (Nat.le_of_ble_eq_true rfl) ?_
  intro p e s m below meth cd9 ls hx hb hml hex hr hown hts hlocks hnm hP hK hD hN hX hA hS hsz hl
  have hl : lv_has ls 3 [(0, .ref x), (1, .int y)] := hl
  refine lv_iload_n hx hb dX2_ceiling_0 rfl (lv_at hl 1 rfl) ?_
  refine lv_if_lt (tgt := 10) hx hb dX2_ceiling_1 (by decide) (fun c1 => ?_) (fun c1 => ?_)
  · skip
    exact sg_throw (cls := "java/lang/IllegalArgumentException") (names := ["java/lang/RuntimeException", "java/lang/Exception"]) (B := [.castable "java/lang/IllegalArgumentException" "java/lang/IllegalArgumentException", .declares (Bundle.initS "java/lang/RuntimeException"), .declares (Bundle.initS "java/lang/Exception"), .declares (Bundle.initS "java/lang/Throwable")]) hx hb hfl hown (by decide +kernel) (by decide +kernel) (hts (.classLink RX2 30 "java/lang/IllegalArgumentException") (by decide +kernel)) (hts (.initialized "java/lang/IllegalArgumentException") (by decide +kernel)) (hN.2.2.2.2 (50, "the ceiling is out of its range") (List.mem_of_getElem? (i := 9) rfl)) (fun w h => hts w (List.mem_cons_of_mem _ (List.mem_append_right _ h))) (by decide +kernel) (vx_c (va_Nw.use rfl (hN.2.2.1 _ (List.mem_of_getElem? (i := 1) rfl))) (vx_c (va_Nw.use rfl (hN.2.2.1 _ (List.mem_of_getElem? (i := 3) rfl))) (vx_c (va_Nw.use rfl (hN.2.2.1 _ (List.mem_of_getElem? (i := 4) rfl))) (vx_c (va_Nw.use rfl (hN.2.2.1 _ (List.mem_of_getElem? (i := 5) rfl))) vx_n)))) (by decide +kernel) hX hP hS (hl.1.trans hml.symm) dX2_ceiling_10 dX2_ceiling_13 dX2_ceiling_14 dX2_ceiling_16 dX2_ceiling_19 hex (Nat.le_of_ble_eq_true rfl) (Nat.le_of_ble_eq_true rfl) (Nat.le_of_ble_eq_true rfl) (Nat.le_of_ble_eq_true rfl) hlocks (Nat.le_of_ble_eq_true rfl) (Nat.le_of_ble_eq_true rfl) (⟨rfl, by grind [Int32.not_le, Int32.not_lt]⟩)
  · skip
    refine lv_iload_n hx hb dX2_ceiling_4 rfl (lv_at hl 1 rfl) ?_
    refine lv_ldc (v := 10000000) hx hb hown (hts (.constant RX2 49 10000000) (by decide +kernel)) dX2_ceiling_5 ?_
    refine lv_icmp_le (tgt := 20) hx hb dX2_ceiling_7 (by decide) (fun c7 => ?_) (fun c7 => ?_)
    · skip
      have hqs : qIn y 0 10000000 := by grind [Int32.not_le, Int32.not_lt]
      refine lv_aload_n hx hb dX2_ceiling_20 rfl (lv_at hl 0 rfl) ?_
      refine va_get (ref := RX2) (v := .int (pS P 4)) hx hb hts wi_X2_ceiling_X2 hown hK (sg_one hP (hQ.1)) 0 rfl rfl 4 (by decide) (hts (.fieldLink RX2 26 RX2 "ceiling" "I") (by decide +kernel)) (fun _ h => h) rfl dX2_ceiling_21 ?_
      refine lv_topi (fun v24 ev24 => ?_)
      obtain rfl : v24 = pS P 4 := by exact ev24
      refine lv_istore_n (lv' := [(2, .int (pS P 4)), (0, .ref x), (1, .int y)]) hx hb dX2_ceiling_24 rfl hl (by decide) rfl (fun ls hl => ?_)
      refine lv_aload_n hx hb dX2_ceiling_25 rfl (lv_at hl 1 rfl) ?_
      refine lv_iload_n hx hb dX2_ceiling_26 rfl (lv_at hl 2 rfl) ?_
      refine sg_put (ref := RX2) (ty := .int) (v := .int y) hx hb hts wi_X2_ceiling_X2 tyX2 tyX2_ok nmX2 hown hK hP hD hS (hQ.1) rfl 4 (by decide) (hts (.fieldLink RX2 26 RX2 "ceiling" "I") (by decide +kernel)) (fun _ h => h) rfl (by decide +kernel) rfl rfl (Nat.le_of_ble_eq_true rfl) dX2_ceiling_27 (fun H locs hP hD hS => ?_)
      have hQ := hQ.s4 (v := y)
      refine lv_iload_n hx hb dX2_ceiling_30 rfl (lv_at hl 0 rfl) ?_
      exact vx_ret (sg_iret hx hb hr rfl hlocks hP hD hS (Nat.le_of_ble_eq_true rfl) (Nat.le_of_ble_eq_true rfl) dX2_ceiling_31 (⟨rfl, hqs, hQ⟩))
    · skip
      exact sg_throw (cls := "java/lang/IllegalArgumentException") (names := ["java/lang/RuntimeException", "java/lang/Exception"]) (B := [.castable "java/lang/IllegalArgumentException" "java/lang/IllegalArgumentException", .declares (Bundle.initS "java/lang/RuntimeException"), .declares (Bundle.initS "java/lang/Exception"), .declares (Bundle.initS "java/lang/Throwable")]) hx hb hfl hown (by decide +kernel) (by decide +kernel) (hts (.classLink RX2 30 "java/lang/IllegalArgumentException") (by decide +kernel)) (hts (.initialized "java/lang/IllegalArgumentException") (by decide +kernel)) (hN.2.2.2.2 (50, "the ceiling is out of its range") (List.mem_of_getElem? (i := 9) rfl)) (fun w h => hts w (List.mem_cons_of_mem _ (List.mem_append_right _ h))) (by decide +kernel) (vx_c (va_Nw.use rfl (hN.2.2.1 _ (List.mem_of_getElem? (i := 1) rfl))) (vx_c (va_Nw.use rfl (hN.2.2.1 _ (List.mem_of_getElem? (i := 3) rfl))) (vx_c (va_Nw.use rfl (hN.2.2.1 _ (List.mem_of_getElem? (i := 4) rfl))) (vx_c (va_Nw.use rfl (hN.2.2.1 _ (List.mem_of_getElem? (i := 5) rfl))) vx_n)))) (by decide +kernel) hX hP hS (hl.1.trans hml.symm) dX2_ceiling_10 dX2_ceiling_13 dX2_ceiling_14 dX2_ceiling_16 dX2_ceiling_19 hex (Nat.le_of_ble_eq_true rfl) (Nat.le_of_ble_eq_true rfl) (Nat.le_of_ble_eq_true rfl) (Nat.le_of_ble_eq_true rfl) hlocks (Nat.le_of_ble_eq_true rfl) (Nat.le_of_ble_eq_true rfl) (⟨rfl, by grind [Int32.not_le, Int32.not_lt]⟩)
