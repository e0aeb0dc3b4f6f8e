theorem m59 {x : Int32} (h : x < 0 ∨ 60 ≤ x) : ¬ qIn x 0 59 := by
  rintro ⟨h1, h2⟩
  simp only [Int32.lt_iff_toInt_lt, Int32.le_iff_toInt_le] at *
  have a1 : (0 : Int32).toInt = 0 := rfl
  have a2 : (60 : Int32).toInt = 60 := rfl
  have a3 : (59 : Int32).toInt = 59 := rfl
  omega
theorem m59b {x : Int32} (h1 : 0 ≤ x) (h2 : x < 60) : qIn x 0 59 := by
  refine ⟨h1, ?_⟩
  simp only [Int32.lt_iff_toInt_lt, Int32.le_iff_toInt_le] at *
  have a2 : (60 : Int32).toInt = 60 := rfl
  have a3 : (59 : Int32).toInt = 59 := rfl
  omega
set_option maxHeartbeats 4000000 in
set_option maxRecDepth 100000 in
theorem c_X2_refuseBadRate (l : Launch) (hfl : l.stackTraces = false) (D : va_G) (Y : Nat → ClassId) (σ : sg_W) (sz : Nat) (x : Int32) : vx_Met l yX2_refuseBadRate wsX2_refuseBadRate ({ frames := 6, cells := 1, slots := 6, locals := 90 } : Room) (va_Pc [.int x] (sg_U D Y σ sz)) (va_Qv (fun σ' => qIn x 1 15 ∧ σ = σ') (sg_B D σ sz) (sg_A σ sz)) (sg_T9 D σ sz (fun E => E = "java/lang/IllegalArgumentException" ∧ ¬ qIn x 1 15)) 1 6 (sg_A σ sz) := by
  refine sg_metX (cc := cX2_refuseBadRate) (maxL := 1) (ret := none) (by decide) rfl (Nat.le_of_ble_eq_true rfl) ?_
  intro p e s m below meth cd9 ls hx hb hml hex hr hown hts hlocks hnm hP hK hD hN hX hA hS hsz hl
  have hl : lv_has ls 1 [(0, .int x)] := hl
  refine lv_iload_n hx hb dX2_refuseBadRate_0 rfl (lv_at hl 0 rfl) ?_
  refine lv_iconst (v := 1) hx hb dX2_refuseBadRate_1 (by decide) ?_
  refine lv_icmp_lt (tgt := 11) hx hb dX2_refuseBadRate_2 (by decide) (fun c2 => ?_) (fun c2 => ?_)
  · skip
    exact sg_throw (cls := "java/lang/IllegalArgumentException") (names := ["java/lang/RuntimeException", "java/lang/Exception"]) (B := [.castable "java/lang/IllegalArgumentException" "java/lang/IllegalArgumentException", .declares (Bundle.initS "java/lang/RuntimeException"), .declares (Bundle.initS "java/lang/Exception"), .declares (Bundle.initS "java/lang/Throwable")]) hx hb hfl hown (by decide +kernel) (by decide +kernel) (hts (.classLink RX2 30 "java/lang/IllegalArgumentException") (by decide +kernel)) (hts (.initialized "java/lang/IllegalArgumentException") (by decide +kernel)) (hN.2.2.2.2 (156, "the rate is out of its range") (List.mem_of_getElem? (i := 4) rfl)) (fun w h => hts w (List.mem_cons_of_mem _ (List.mem_append_right _ h))) (by decide +kernel) (vx_c (va_Nw.use rfl (hN.2.2.1 _ (List.mem_of_getElem? (i := 1) rfl))) (vx_c (va_Nw.use rfl (hN.2.2.1 _ (List.mem_of_getElem? (i := 3) rfl))) (vx_c (va_Nw.use rfl (hN.2.2.1 _ (List.mem_of_getElem? (i := 4) rfl))) (vx_c (va_Nw.use rfl (hN.2.2.1 _ (List.mem_of_getElem? (i := 5) rfl))) vx_n)))) (by decide +kernel) hX hP hS (hl.1.trans hml.symm) dX2_refuseBadRate_11 dX2_refuseBadRate_14 dX2_refuseBadRate_15 dX2_refuseBadRate_17 dX2_refuseBadRate_20 hex (Nat.le_of_ble_eq_true rfl) (Nat.le_of_ble_eq_true rfl) (Nat.le_of_ble_eq_true rfl) (Nat.le_of_ble_eq_true rfl) hlocks (Nat.le_of_ble_eq_true rfl) (Nat.le_of_ble_eq_true rfl) (⟨rfl, by grind [Int32.not_le, Int32.not_lt]⟩)
  · skip
    refine lv_iload_n hx hb dX2_refuseBadRate_5 rfl (lv_at hl 0 rfl) ?_
    refine lv_bipush (v := 15) hx hb dX2_refuseBadRate_6 (by decide) ?_
    refine lv_icmp_le (tgt := 21) hx hb dX2_refuseBadRate_8 (by decide) (fun c8 => ?_) (fun c8 => ?_)
    · skip
      exact vx_ret (sg_vret hx hb hr hlocks hP hD hS (Nat.le_of_ble_eq_true rfl) (Nat.le_of_ble_eq_true rfl) dX2_refuseBadRate_21 (⟨by grind [Int32.not_le, Int32.not_lt], rfl⟩))
    · skip
      exact sg_throw (cls := "java/lang/IllegalArgumentException") (names := ["java/lang/RuntimeException", "java/lang/Exception"]) (B := [.castable "java/lang/IllegalArgumentException" "java/lang/IllegalArgumentException", .declares (Bundle.initS "java/lang/RuntimeException"), .declares (Bundle.initS "java/lang/Exception"), .declares (Bundle.initS "java/lang/Throwable")]) hx hb hfl hown (by decide +kernel) (by decide +kernel) (hts (.classLink RX2 30 "java/lang/IllegalArgumentException") (by decide +kernel)) (hts (.initialized "java/lang/IllegalArgumentException") (by decide +kernel)) (hN.2.2.2.2 (156, "the rate is out of its range") (List.mem_of_getElem? (i := 4) rfl)) (fun w h => hts w (List.mem_cons_of_mem _ (List.mem_append_right _ h))) (by decide +kernel) (vx_c (va_Nw.use rfl (hN.2.2.1 _ (List.mem_of_getElem? (i := 1) rfl))) (vx_c (va_Nw.use rfl (hN.2.2.1 _ (List.mem_of_getElem? (i := 3) rfl))) (vx_c (va_Nw.use rfl (hN.2.2.1 _ (List.mem_of_getElem? (i := 4) rfl))) (vx_c (va_Nw.use rfl (hN.2.2.1 _ (List.mem_of_getElem? (i := 5) rfl))) vx_n)))) (by decide +kernel) hX hP hS (hl.1.trans hml.symm) dX2_refuseBadRate_11 dX2_refuseBadRate_14 dX2_refuseBadRate_15 dX2_refuseBadRate_17 dX2_refuseBadRate_20 hex (Nat.le_of_ble_eq_true rfl) (Nat.le_of_ble_eq_true rfl) (Nat.le_of_ble_eq_true rfl) (Nat.le_of_ble_eq_true rfl) hlocks (Nat.le_of_ble_eq_true rfl) (Nat.le_of_ble_eq_true rfl) (⟨rfl, by grind [Int32.not_le, Int32.not_lt]⟩)

set_option maxHeartbeats 4000000 in
set_option maxRecDepth 100000 in
theorem c_X2_refuseBadMonth (l : Launch) (hfl : l.stackTraces = false) (D : va_G) (Y : Nat → ClassId) (σ : sg_W) (sz : Nat) (x : Int32) : vx_Met l yX2_refuseBadMonth wsX2_refuseBadMonth ({ frames := 6, cells := 1, slots := 6, locals := 90 } : Room) (va_Pc [.int x] (sg_U D Y σ sz)) (va_Qv (fun σ' => qIn x 0 59 ∧ σ = σ') (sg_B D σ sz) (sg_A σ sz)) (sg_T9 D σ sz (fun E => E = "java/lang/IndexOutOfBoundsException" ∧ ¬ qIn x 0 59)) 1 6 (sg_A σ sz) := by
  refine sg_metX (cc := cX2_refuseBadMonth) (maxL := 1) (ret := none) (by decide) rfl (Nat.le_of_ble_eq_true rfl) ?_
  intro p e s m below meth cd9 ls hx hb hml hex hr hown hts hlocks hnm hP hK hD hN hX hA hS hsz hl
  have hl : lv_has ls 1 [(0, .int x)] := hl
  refine lv_iload_n hx hb dX2_refuseBadMonth_0 rfl (lv_at hl 0 rfl) ?_
  refine lv_if_lt (tgt := 10) hx hb dX2_refuseBadMonth_1 (by decide) (fun c1 => ?_) (fun c1 => ?_)
  · skip
    exact sg_throw (cls := "java/lang/IndexOutOfBoundsException") (names := ["java/lang/RuntimeException", "java/lang/Exception"]) (B := [.castable "java/lang/IndexOutOfBoundsException" "java/lang/IndexOutOfBoundsException", .declares (Bundle.initS "java/lang/RuntimeException"), .declares (Bundle.initS "java/lang/Exception"), .declares (Bundle.initS "java/lang/Throwable")]) hx hb hfl hown (by decide +kernel) (by decide +kernel) (hts (.classLink RX2 117 "java/lang/IndexOutOfBoundsException") (by decide +kernel)) (hts (.initialized "java/lang/IndexOutOfBoundsException") (by decide +kernel)) (hN.2.2.2.2 (158, "there is no such month") (List.mem_of_getElem? (i := 5) rfl)) (fun w h => hts w (List.mem_cons_of_mem _ (List.mem_append_right _ h))) (by decide +kernel) (vx_c (va_Nw.use rfl (hN.2.2.1 _ (List.mem_of_getElem? (i := 0) rfl))) (vx_c (va_Nw.use rfl (hN.2.2.1 _ (List.mem_of_getElem? (i := 3) rfl))) (vx_c (va_Nw.use rfl (hN.2.2.1 _ (List.mem_of_getElem? (i := 4) rfl))) (vx_c (va_Nw.use rfl (hN.2.2.1 _ (List.mem_of_getElem? (i := 5) rfl))) vx_n)))) (by decide +kernel) hX hP hS (hl.1.trans hml.symm) dX2_refuseBadMonth_10 dX2_refuseBadMonth_13 dX2_refuseBadMonth_14 dX2_refuseBadMonth_16 dX2_refuseBadMonth_19 hex (Nat.le_of_ble_eq_true rfl) (Nat.le_of_ble_eq_true rfl) (Nat.le_of_ble_eq_true rfl) (Nat.le_of_ble_eq_true rfl) hlocks (Nat.le_of_ble_eq_true rfl) (Nat.le_of_ble_eq_true rfl) (⟨rfl, m59 (by grind [Int32.not_le, Int32.not_lt])⟩)
  · skip
    refine lv_iload_n hx hb dX2_refuseBadMonth_4 rfl (lv_at hl 0 rfl) ?_
    refine lv_bipush (v := 60) hx hb dX2_refuseBadMonth_5 (by decide) ?_
    refine lv_icmp_lt (tgt := 20) hx hb dX2_refuseBadMonth_7 (by decide) (fun c7 => ?_) (fun c7 => ?_)
    · skip
      exact vx_ret (sg_vret hx hb hr hlocks hP hD hS (Nat.le_of_ble_eq_true rfl) (Nat.le_of_ble_eq_true rfl) dX2_refuseBadMonth_20 (⟨m59b (Int32.not_lt.mp c1) c7, rfl⟩))
    · skip
      exact sg_throw (cls := "java/lang/IndexOutOfBoundsException") (names := ["java/lang/RuntimeException", "java/lang/Exception"]) (B := [.castable "java/lang/IndexOutOfBoundsException" "java/lang/IndexOutOfBoundsException", .declares (Bundle.initS "java/lang/RuntimeException"), .declares (Bundle.initS "java/lang/Exception"), .declares (Bundle.initS "java/lang/Throwable")]) hx hb hfl hown (by decide +kernel) (by decide +kernel) (hts (.classLink RX2 117 "java/lang/IndexOutOfBoundsException") (by decide +kernel)) (hts (.initialized "java/lang/IndexOutOfBoundsException") (by decide +kernel)) (hN.2.2.2.2 (158, "there is no such month") (List.mem_of_getElem? (i := 5) rfl)) (fun w h => hts w (List.mem_cons_of_mem _ (List.mem_append_right _ h))) (by decide +kernel) (vx_c (va_Nw.use rfl (hN.2.2.1 _ (List.mem_of_getElem? (i := 0) rfl))) (vx_c (va_Nw.use rfl (hN.2.2.1 _ (List.mem_of_getElem? (i := 3) rfl))) (vx_c (va_Nw.use rfl (hN.2.2.1 _ (List.mem_of_getElem? (i := 4) rfl))) (vx_c (va_Nw.use rfl (hN.2.2.1 _ (List.mem_of_getElem? (i := 5) rfl))) vx_n)))) (by decide +kernel) hX hP hS (hl.1.trans hml.symm) dX2_refuseBadMonth_10 dX2_refuseBadMonth_13 dX2_refuseBadMonth_14 dX2_refuseBadMonth_16 dX2_refuseBadMonth_19 hex (Nat.le_of_ble_eq_true rfl) (Nat.le_of_ble_eq_true rfl) (Nat.le_of_ble_eq_true rfl) (Nat.le_of_ble_eq_true rfl) hlocks (Nat.le_of_ble_eq_true rfl) (Nat.le_of_ble_eq_true rfl) (⟨rfl, m59 (by grind [Int32.not_le, Int32.not_lt])⟩)

theorem wi_X2_refuseLeft_X1 : ∀ w ∈ wsX10, w ∈ wsX2_refuseLeft := by decide +kernel
set_option maxHeartbeats 4000000 in
set_option maxRecDepth 100000 in
theorem c_X2_refuseLeft (l : Launch) (hfl : l.stackTraces = false) (D : va_G) (Y : Nat → ClassId) (σ : sg_W) (sz : Nat) (n aO aL aC : Nat) (c : CS) (hC : KF Y n aO aL aC σ c σ) : vx_Met l yX2_refuseLeft wsX2_refuseLeft ({ frames := 6, cells := 1, slots := 6, locals := 90 } : Room) (va_Pc [.ref aO] (sg_U D Y σ sz)) (va_Qv (fun σ' => kI c 3 = 0 ∧ σ = σ') (sg_B D σ sz) (sg_A σ sz)) (sg_T9 D σ sz (fun E => E = "java/lang/IllegalStateException" ∧ ¬ kI c 3 = 0)) 1 6 (sg_A σ sz) := by
  refine sg_metX (cc := cX2_refuseLeft) (maxL := 1) (ret := none) (by decide) rfl (Nat.le_of_ble_eq_true rfl) ?_
  intro p e s m below meth cd9 ls hx hb hml hex hr hown hts hlocks hnm hP hK hD hN hX hA hS hsz hl
  have hl : lv_has ls 1 [(0, .ref aO)] := hl
  refine lv_aload_n hx hb dX2_refuseLeft_0 rfl (lv_at hl 0 rfl) ?_
  refine va_getN (ref := RX1) (host := RX2) (v := .int (kI c 3)) hx hb hts wi_X2_refuseLeft_X1 hown hK (sg_one hP (hC.1)) 0 rfl rfl 3 (by decide) (va_Nw.use rfl (hN.1 (.fieldLinkNest RX2 160 RX1 "hasLeft" "Z" RX2) (List.mem_of_getElem? (i := 5) rfl))) (fun _ h => h) rfl dX2_refuseLeft_1 ?_
  refine lv_if_eq (tgt := 17) hx hb dX2_refuseLeft_4 (by decide) (fun c4 => ?_) (fun c4 => ?_)
  · skip
    exact vx_ret (sg_vret hx hb hr hlocks hP hD hS (Nat.le_of_ble_eq_true rfl) (Nat.le_of_ble_eq_true rfl) dX2_refuseLeft_17 (⟨c4, rfl⟩))
  · skip
    exact sg_throw (cls := "java/lang/IllegalStateException") (names := ["java/lang/RuntimeException", "java/lang/Exception"]) (B := [.castable "java/lang/IllegalStateException" "java/lang/IllegalStateException", .declares (Bundle.initS "java/lang/RuntimeException"), .declares (Bundle.initS "java/lang/Exception"), .declares (Bundle.initS "java/lang/Throwable")]) hx hb hfl hown (by decide +kernel) (by decide +kernel) (hts (.classLink RX2 37 "java/lang/IllegalStateException") (by decide +kernel)) (hts (.initialized "java/lang/IllegalStateException") (by decide +kernel)) (hN.2.2.2.2 (164, "the member has left") (List.mem_of_getElem? (i := 6) rfl)) (fun w h => hts w (List.mem_cons_of_mem _ (List.mem_append_right _ h))) (by decide +kernel) (vx_c (va_Nw.use rfl (hN.2.2.1 _ (List.mem_of_getElem? (i := 2) rfl))) (vx_c (va_Nw.use rfl (hN.2.2.1 _ (List.mem_of_getElem? (i := 3) rfl))) (vx_c (va_Nw.use rfl (hN.2.2.1 _ (List.mem_of_getElem? (i := 4) rfl))) (vx_c (va_Nw.use rfl (hN.2.2.1 _ (List.mem_of_getElem? (i := 5) rfl))) vx_n)))) (by decide +kernel) hX hP hS (hl.1.trans hml.symm) dX2_refuseLeft_7 dX2_refuseLeft_10 dX2_refuseLeft_11 dX2_refuseLeft_13 dX2_refuseLeft_16 hex (Nat.le_of_ble_eq_true rfl) (Nat.le_of_ble_eq_true rfl) (Nat.le_of_ble_eq_true rfl) (Nat.le_of_ble_eq_true rfl) hlocks (Nat.le_of_ble_eq_true rfl) (Nat.le_of_ble_eq_true rfl) (⟨rfl, c4⟩)
