theorem vp_out {i : Int32} (h : i < 0 ∨ 6 ≤ i) : ¬ vp_in i 6 := by
  rw [vp_in_iff]
  simp only [Int32.lt_iff_toInt_lt, Int32.le_iff_toInt_le] at h
  have a1 : (0 : Int32).toInt = 0 := rfl
  have a2 : (6 : Int32).toInt = 6 := rfl
  omega
theorem vp_mono {i : Int32} {n m : Nat} (h : vp_in i n) (hm : n ≤ m) : vp_in i m := by
  rw [vp_in_iff] at *
  omega
theorem vp_6 {y : Int32} (h : ¬ y < 0) (h2 : y < 6) : vp_in y 6 := by
  obtain ⟨j, hj, rfl⟩ := nI_of h
  rw [show (6 : Int32) = nI 6 from rfl, nI_ltI hj (by omega)] at h2
  exact vp_in_nI h2 (by decide)
theorem vp_n {y : Int32} {N : Nat} (h : ¬ y < 0) (h2 : tN y < N) (hN : N ≤ 6) : vp_in y N := by
  obtain ⟨j, hj, rfl⟩ := nI_of h
  rw [tN, nI_clamp hj] at h2
  exact vp_in_nI h2 (by omega)
theorem pR_none {N : Nat} {aO : Nat → Nat} {i : Nat} (h : pR N aO i = none) : ¬ i < N := by
  intro h2
  rw [pR, if_pos h2] at h
  cases h
theorem pR_some {N : Nat} {aO : Nat → Nat} {i la : Nat} (h : pR N aO i = some la) : some la = some (aO i) ∧ i < N := by
  by_cases h2 : i < N
  · rw [pR, if_pos h2] at h
    exact ⟨h.symm, h2⟩
  · rw [pR, if_neg h2] at h
    cases h
theorem wi_X2_memberOrThrow_X2 : ∀ w ∈ wsX20, w ∈ wsX2_memberOrThrow := by decide +kernel
set_option maxHeartbeats 4000000 in
set_option maxRecDepth 100000 in
theorem c_X2_memberOrThrow (l : Launch) (hfl : l.stackTraces = false) (D : va_G) (Y : Nat → ClassId) (σ : sg_W) (sz : Nat) (x aM N : Nat) (aO aL aC : Nat → Nat) (P : PS) (i : Int32) (hQ : PF Y x aM N aO aL aC σ P σ) : vx_Met l yX2_memberOrThrow wsX2_memberOrThrow ({ frames := 6, cells := 1, slots := 6, locals := 90 } : Room) (va_Pc [.ref x, .int i] (sg_U D Y σ sz)) (va_Qq (fun r σ' => r = some (aO (tN i)) ∧ vp_in i N ∧ σ = σ') (sg_B D σ sz) (sg_A σ sz)) (sg_T9 D σ sz (fun E => E = "java/lang/IndexOutOfBoundsException" ∧ ¬ vp_in i N)) 1 6 (sg_A σ sz) := by
  refine sg_metX (cc := cX2_memberOrThrow) (maxL := 3) (ret := (some (.object "LookbackPlan$Member"))) (by decide) rfl (Nat.le_of_ble_eq_true rfl) ?_
  intro p e s m below meth cd9 ls hx hb hml hex hr hown hts hlocks hnm hP hK hD hN hX hA hS hsz hl
  have hl : lv_has ls 3 [(0, .ref x), (1, .int i)] := hl
  refine lv_iload_n hx hb dX2_memberOrThrow_0 rfl (lv_at hl 1 rfl) ?_
  refine lv_if_lt (tgt := 13) hx hb dX2_memberOrThrow_1 (by decide) (fun c1 => ?_) (fun c1 => ?_)
  · skip
    exact sg_throw (cls := "java/lang/IndexOutOfBoundsException") (names := ["java/lang/RuntimeException", "java/lang/Exception"]) (B := [.castable "java/lang/IndexOutOfBoundsException" "java/lang/IndexOutOfBoundsException", .declares (Bundle.initS "java/lang/RuntimeException"), .declares (Bundle.initS "java/lang/Exception"), .declares (Bundle.initS "java/lang/Throwable")]) hx hb hfl hown (by decide +kernel) (by decide +kernel) (hts (.classLink RX2 117 "java/lang/IndexOutOfBoundsException") (by decide +kernel)) (hts (.initialized "java/lang/IndexOutOfBoundsException") (by decide +kernel)) (hN.2.2.2.2 (154, "there is no such member") (List.mem_of_getElem? (i := 3) rfl)) (fun w h => hts w (List.mem_cons_of_mem _ (List.mem_append_right _ h))) (by decide +kernel) (vx_c (va_Nw.use rfl (hN.2.2.1 _ (List.mem_of_getElem? (i := 0) rfl))) (vx_c (va_Nw.use rfl (hN.2.2.1 _ (List.mem_of_getElem? (i := 3) rfl))) (vx_c (va_Nw.use rfl (hN.2.2.1 _ (List.mem_of_getElem? (i := 4) rfl))) (vx_c (va_Nw.use rfl (hN.2.2.1 _ (List.mem_of_getElem? (i := 5) rfl))) vx_n)))) (by decide +kernel) hX hP hS (hl.1.trans hml.symm) dX2_memberOrThrow_13 dX2_memberOrThrow_16 dX2_memberOrThrow_17 dX2_memberOrThrow_19 dX2_memberOrThrow_22 hex (Nat.le_of_ble_eq_true rfl) (Nat.le_of_ble_eq_true rfl) (Nat.le_of_ble_eq_true rfl) (Nat.le_of_ble_eq_true rfl) hlocks (Nat.le_of_ble_eq_true rfl) (Nat.le_of_ble_eq_true rfl) (⟨rfl, fun h => vp_out (by grind [Int32.not_le, Int32.not_lt]) (vp_mono h hQ.2.2.2.2)⟩)
  · skip
    refine lv_iload_n hx hb dX2_memberOrThrow_4 rfl (lv_at hl 1 rfl) ?_
    refine lv_aload_n hx hb dX2_memberOrThrow_5 rfl (lv_at hl 0 rfl) ?_
    refine va_get (ref := RX2) (v := .ref aM) hx hb hts wi_X2_memberOrThrow_X2 hown hK (sg_one hP (hQ.1)) 0 rfl rfl 0 (by decide) (hts (.fieldLink RX2 11 RX2 "members" "[LLookbackPlan$Member;") (by decide +kernel)) (fun _ h => h) rfl dX2_memberOrThrow_6 ?_
    refine va_alen (v := 6) hx hb hK (sg_one hP (hQ.2.1)) 0 4 rfl rfl rfl dX2_memberOrThrow_9 ?_
    refine lv_icmp_lt (tgt := 23) hx hb dX2_memberOrThrow_10 (by decide) (fun c10 => ?_) (fun c10 => ?_)
    · skip
      refine lv_aload_n hx hb dX2_memberOrThrow_23 rfl (lv_at hl 0 rfl) ?_
      refine va_get (ref := RX2) (v := .ref aM) hx hb hts wi_X2_memberOrThrow_X2 hown hK (sg_one hP (hQ.1)) 0 rfl rfl 0 (by decide) (hts (.fieldLink RX2 11 RX2 "members" "[LLookbackPlan$Member;") (by decide +kernel)) (fun _ h => h) rfl dX2_memberOrThrow_24 ?_
      refine lv_iload_n hx hb dX2_memberOrThrow_27 rfl (lv_at hl 1 rfl) ?_
      refine va_aldq hx hb hK (sg_one hP (hQ.2.1)) 0 4 rfl rfl (vp_6 c1 c10) dX2_memberOrThrow_28 ?_
      rcases hla : pR N aO (i).toNatClampNeg with _ | la
      · skip
        refine lv_astore_nN (lv' := [(2, .null), (0, .ref x), (1, .int i)]) hx hb dX2_memberOrThrow_29 rfl hl (by decide) rfl (fun ls hl => ?_)
        refine lv_aload_nN hx hb dX2_memberOrThrow_30 rfl (lv_at hl 0 rfl) ?_
        refine lv_ifnonnullN hx hb dX2_memberOrThrow_31 ?_
        exact sg_throw (cls := "java/lang/IndexOutOfBoundsException") (names := ["java/lang/RuntimeException", "java/lang/Exception"]) (B := [.castable "java/lang/IndexOutOfBoundsException" "java/lang/IndexOutOfBoundsException", .declares (Bundle.initS "java/lang/RuntimeException"), .declares (Bundle.initS "java/lang/Exception"), .declares (Bundle.initS "java/lang/Throwable")]) hx hb hfl hown (by decide +kernel) (by decide +kernel) (hts (.classLink RX2 117 "java/lang/IndexOutOfBoundsException") (by decide +kernel)) (hts (.initialized "java/lang/IndexOutOfBoundsException") (by decide +kernel)) (hN.2.2.2.2 (154, "there is no such member") (List.mem_of_getElem? (i := 3) rfl)) (fun w h => hts w (List.mem_cons_of_mem _ (List.mem_append_right _ h))) (by decide +kernel) (vx_c (va_Nw.use rfl (hN.2.2.1 _ (List.mem_of_getElem? (i := 0) rfl))) (vx_c (va_Nw.use rfl (hN.2.2.1 _ (List.mem_of_getElem? (i := 3) rfl))) (vx_c (va_Nw.use rfl (hN.2.2.1 _ (List.mem_of_getElem? (i := 4) rfl))) (vx_c (va_Nw.use rfl (hN.2.2.1 _ (List.mem_of_getElem? (i := 5) rfl))) vx_n)))) (by decide +kernel) hX hP hS (hl.1.trans hml.symm) dX2_memberOrThrow_34 dX2_memberOrThrow_37 dX2_memberOrThrow_38 dX2_memberOrThrow_40 dX2_memberOrThrow_43 hex (Nat.le_of_ble_eq_true rfl) (Nat.le_of_ble_eq_true rfl) (Nat.le_of_ble_eq_true rfl) (Nat.le_of_ble_eq_true rfl) hlocks (Nat.le_of_ble_eq_true rfl) (Nat.le_of_ble_eq_true rfl) (⟨rfl, fun h => pR_none hla (vp_lt h)⟩)
      · skip
        refine lv_astore_n (lv' := [(2, .ref la), (0, .ref x), (1, .int i)]) hx hb dX2_memberOrThrow_29 rfl hl (by decide) rfl (fun ls hl => ?_)
        refine lv_aload_n hx hb dX2_memberOrThrow_30 rfl (lv_at hl 0 rfl) ?_
        refine lv_ifnonnull (tgt := 44) hx hb dX2_memberOrThrow_31 (by decide) ?_
        refine lv_aload_n hx hb dX2_memberOrThrow_44 rfl (lv_at hl 0 rfl) ?_
        exact vx_ret (sg_qret (v := some la) hx hb hr hlocks hP hD hS (Nat.le_of_ble_eq_true rfl) (Nat.le_of_ble_eq_true rfl) dX2_memberOrThrow_45 (⟨(pR_some hla).1, vp_n c1 (pR_some hla).2 hQ.2.2.2.2, rfl⟩))
    · skip
      exact sg_throw (cls := "java/lang/IndexOutOfBoundsException") (names := ["java/lang/RuntimeException", "java/lang/Exception"]) (B := [.castable "java/lang/IndexOutOfBoundsException" "java/lang/IndexOutOfBoundsException", .declares (Bundle.initS "java/lang/RuntimeException"), .declares (Bundle.initS "java/lang/Exception"), .declares (Bundle.initS "java/lang/Throwable")]) hx hb hfl hown (by decide +kernel) (by decide +kernel) (hts (.classLink RX2 117 "java/lang/IndexOutOfBoundsException") (by decide +kernel)) (hts (.initialized "java/lang/IndexOutOfBoundsException") (by decide +kernel)) (hN.2.2.2.2 (154, "there is no such member") (List.mem_of_getElem? (i := 3) rfl)) (fun w h => hts w (List.mem_cons_of_mem _ (List.mem_append_right _ h))) (by decide +kernel) (vx_c (va_Nw.use rfl (hN.2.2.1 _ (List.mem_of_getElem? (i := 0) rfl))) (vx_c (va_Nw.use rfl (hN.2.2.1 _ (List.mem_of_getElem? (i := 3) rfl))) (vx_c (va_Nw.use rfl (hN.2.2.1 _ (List.mem_of_getElem? (i := 4) rfl))) (vx_c (va_Nw.use rfl (hN.2.2.1 _ (List.mem_of_getElem? (i := 5) rfl))) vx_n)))) (by decide +kernel) hX hP hS (hl.1.trans hml.symm) dX2_memberOrThrow_13 dX2_memberOrThrow_16 dX2_memberOrThrow_17 dX2_memberOrThrow_19 dX2_memberOrThrow_22 hex (Nat.le_of_ble_eq_true rfl) (Nat.le_of_ble_eq_true rfl) (Nat.le_of_ble_eq_true rfl) (Nat.le_of_ble_eq_true rfl) hlocks (Nat.le_of_ble_eq_true rfl) (Nat.le_of_ble_eq_true rfl) (⟨rfl, fun h => vp_out (by grind [Int32.not_le, Int32.not_lt]) (vp_mono h hQ.2.2.2.2)⟩)

theorem wi_X2_money_X1 : ∀ w ∈ wsX10, w ∈ wsX2_money := by decide +kernel
set_option maxHeartbeats 4000000 in
set_option maxRecDepth 100000 in
theorem c_X2_money (l : Launch) (hfl : l.stackTraces = false) (D : va_G) (Y : Nat → ClassId) (σ : sg_W) (sz : Nat) (x aM N : Nat) (aO aL aC : Nat → Nat) (P : PS) (i : Int32) (hQ : PF Y x aM N aO aL aC σ P σ) : vx_Met l yX2_money wsX2_money ({ frames := 7, cells := 1, slots := 6, locals := 112 } : Room) (va_Pc [.ref x, .int i] (sg_U D Y σ sz)) (va_Qi (fun r σ' => r = (kL (pC P (tN i)) 4).toInt32 ∧ vp_in i N ∧ σ = σ') (sg_B D σ sz) (sg_A σ sz)) (sg_T9 D σ sz (fun E => E = "java/lang/IndexOutOfBoundsException" ∧ ¬ vp_in i N)) 1 6 (sg_A σ sz) := by
  refine sg_metX (cc := cX2_money) (maxL := 2) (ret := (some .int)) (by decide) rfl (Nat.le_of_ble_eq_true rfl) ?_
  intro p e s m below meth cd9 ls hx hb hml hex hr hown hts hlocks hnm hP hK hD hN hX hA hS hsz hl
  have hl : lv_has ls 2 [(0, .ref x), (1, .int i)] := hl
  refine lv_aload_n hx hb dX2_money_0 rfl (lv_at hl 0 rfl) ?_
  refine lv_iload_n hx hb dX2_money_1 rfl (lv_at hl 1 rfl) ?_
  refine sg_xcallq hD hS hA (vx_runV (As := [.int i]) (rest := []) ⟨hx, hb, hml, hown, hts⟩ (c_X2_memberOrThrow l hfl D Y _ _ x aM N aO aL aC P i hQ.self) (cwV 1 hts gX2_money_X2_memberOrThrow rfl rfl rfl (by decide +kernel) ⟨Nat.le_of_ble_eq_true rfl, Nat.le_of_ble_eq_true rfl⟩) (sg_preV (q := (RX2, TX2, 5)) (hQ.1) rfl hK hP hD hN hX hS hA) rfl rfl hl.1 rfl (lv_room (Nat.le_of_ble_eq_true rfl)) dX2_money_2 ⟨Nat.le_of_ble_eq_true rfl, Nat.le_of_ble_eq_true rfl⟩) (fun E ce q9 H locs hpx hP hD hS hce hcv hcl => ?_) (fun r2 σ' H locs hw hP hD hS => ?_)
  · exact sg_xout hex hlocks hce hcv hcl hP hS (Nat.le_of_ble_eq_true rfl) (Nat.le_of_ble_eq_true rfl) (⟨hpx.1, hpx.2⟩)
  obtain ⟨rfl, hvi, rfl⟩ := hw
  have hi9 := vp_lt hvi
  refine W.eq (g2 := F0 m 5 ls [.ref (aO (tN i))]) rfl ?_
  refine va_getN (ref := RX1) (host := RX2) (v := .long (kL (pC P (tN i)) 4)) hx hb hts wi_X2_money_X1 hown hK (sg_one hP ((hQ.2.2.1 _ hi9).1)) 0 rfl rfl 4 (by decide) (va_Nw.use rfl (hN.1 (.fieldLinkNest RX2 85 RX1 "money" "J" RX2) (List.mem_of_getElem? (i := 6) rfl))) (fun _ h => h) rfl dX2_money_5 ?_
  refine lv_l2i hx hb dX2_money_8 rfl ?_
  exact vx_ret (sg_iret hx hb hr rfl hlocks hP hD hS (Nat.le_of_ble_eq_true rfl) (Nat.le_of_ble_eq_true rfl) dX2_money_9 (⟨rfl, hvi, rfl⟩))

theorem wi_X2_offerMonth_X1 : ∀ w ∈ wsX10, w ∈ wsX2_offerMonth := by decide +kernel
set_option maxHeartbeats 4000000 in
set_option maxRecDepth 100000 in
theorem c_X2_offerMonth (l : Launch) (hfl : l.stackTraces = false) (D : va_G) (Y : Nat → ClassId) (σ : sg_W) (sz : Nat) (x aM N : Nat) (aO aL aC : Nat → Nat) (P : PS) (i : Int32) (hQ : PF Y x aM N aO aL aC σ P σ) : vx_Met l yX2_offerMonth wsX2_offerMonth ({ frames := 7, cells := 1, slots := 6, locals := 112 } : Room) (va_Pc [.ref x, .int i] (sg_U D Y σ sz)) (va_Qi (fun r σ' => r = kI (pC P (tN i)) 8 ∧ vp_in i N ∧ σ = σ') (sg_B D σ sz) (sg_A σ sz)) (sg_T9 D σ sz (fun E => E = "java/lang/IndexOutOfBoundsException" ∧ ¬ vp_in i N)) 1 6 (sg_A σ sz) := by
  refine sg_metX (cc := cX2_offerMonth) (maxL := 2) (ret := (some .int)) (by decide) rfl (Nat.le_of_ble_eq_true rfl) ?_
  intro p e s m below meth cd9 ls hx hb hml hex hr hown hts hlocks hnm hP hK hD hN hX hA hS hsz hl
  have hl : lv_has ls 2 [(0, .ref x), (1, .int i)] := hl
  refine lv_aload_n hx hb dX2_offerMonth_0 rfl (lv_at hl 0 rfl) ?_
  refine lv_iload_n hx hb dX2_offerMonth_1 rfl (lv_at hl 1 rfl) ?_
  refine sg_xcallq hD hS hA (vx_runV (As := [.int i]) (rest := []) ⟨hx, hb, hml, hown, hts⟩ (c_X2_memberOrThrow l hfl D Y _ _ x aM N aO aL aC P i hQ.self) (cwV 1 hts gX2_offerMonth_X2_memberOrThrow rfl rfl rfl (by decide +kernel) ⟨Nat.le_of_ble_eq_true rfl, Nat.le_of_ble_eq_true rfl⟩) (sg_preV (q := (RX2, TX2, 5)) (hQ.1) rfl hK hP hD hN hX hS hA) rfl rfl hl.1 rfl (lv_room (Nat.le_of_ble_eq_true rfl)) dX2_offerMonth_2 ⟨Nat.le_of_ble_eq_true rfl, Nat.le_of_ble_eq_true rfl⟩) (fun E ce q9 H locs hpx hP hD hS hce hcv hcl => ?_) (fun r2 σ' H locs hw hP hD hS => ?_)
  · exact sg_xout hex hlocks hce hcv hcl hP hS (Nat.le_of_ble_eq_true rfl) (Nat.le_of_ble_eq_true rfl) (⟨hpx.1, hpx.2⟩)
  obtain ⟨rfl, hvi, rfl⟩ := hw
  have hi9 := vp_lt hvi
  refine W.eq (g2 := F0 m 5 ls [.ref (aO (tN i))]) rfl ?_
  refine va_getN (ref := RX1) (host := RX2) (v := .int (kI (pC P (tN i)) 8)) hx hb hts wi_X2_offerMonth_X1 hown hK (sg_one hP ((hQ.2.2.1 _ hi9).1)) 0 rfl rfl 8 (by decide) (va_Nw.use rfl (hN.1 (.fieldLinkNest RX2 89 RX1 "offerMonth" "I" RX2) (List.mem_of_getElem? (i := 10) rfl))) (fun _ h => h) rfl dX2_offerMonth_5 ?_
  exact vx_ret (sg_iret hx hb hr rfl hlocks hP hD hS (Nat.le_of_ble_eq_true rfl) (Nat.le_of_ble_eq_true rfl) dX2_offerMonth_8 (⟨rfl, hvi, rfl⟩))

theorem wi_X2_offerPrice_X1 : ∀ w ∈ wsX10, w ∈ wsX2_offerPrice := by decide +kernel
set_option maxHeartbeats 4000000 in
set_option maxRecDepth 100000 in
theorem c_X2_offerPrice (l : Launch) (hfl : l.stackTraces = false) (D : va_G) (Y : Nat → ClassId) (σ : sg_W) (sz : Nat) (x aM N : Nat) (aO aL aC : Nat → Nat) (P : PS) (i : Int32) (hQ : PF Y x aM N aO aL aC σ P σ) : vx_Met l yX2_offerPrice wsX2_offerPrice ({ frames := 7, cells := 1, slots := 6, locals := 112 } : Room) (va_Pc [.ref x, .int i] (sg_U D Y σ sz)) (va_Qi (fun r σ' => r = kI (pC P (tN i)) 9 ∧ vp_in i N ∧ σ = σ') (sg_B D σ sz) (sg_A σ sz)) (sg_T9 D σ sz (fun E => E = "java/lang/IndexOutOfBoundsException" ∧ ¬ vp_in i N)) 1 6 (sg_A σ sz) := by
  refine sg_metX (cc := cX2_offerPrice) (maxL := 2) (ret := (some .int)) (by decide) rfl (Nat.le_of_ble_eq_true rfl) ?_
  intro p e s m below meth cd9 ls hx hb hml hex hr hown hts hlocks hnm hP hK hD hN hX hA hS hsz hl
  have hl : lv_has ls 2 [(0, .ref x), (1, .int i)] := hl
  refine lv_aload_n hx hb dX2_offerPrice_0 rfl (lv_at hl 0 rfl) ?_
  refine lv_iload_n hx hb dX2_offerPrice_1 rfl (lv_at hl 1 rfl) ?_
  refine sg_xcallq hD hS hA (vx_runV (As := [.int i]) (rest := []) ⟨hx, hb, hml, hown, hts⟩ (c_X2_memberOrThrow l hfl D Y _ _ x aM N aO aL aC P i hQ.self) (cwV 1 hts gX2_offerPrice_X2_memberOrThrow rfl rfl rfl (by decide +kernel) ⟨Nat.le_of_ble_eq_true rfl, Nat.le_of_ble_eq_true rfl⟩) (sg_preV (q := (RX2, TX2, 5)) (hQ.1) rfl hK hP hD hN hX hS hA) rfl rfl hl.1 rfl (lv_room (Nat.le_of_ble_eq_true rfl)) dX2_offerPrice_2 ⟨Nat.le_of_ble_eq_true rfl, Nat.le_of_ble_eq_true rfl⟩) (fun E ce q9 H locs hpx hP hD hS hce hcv hcl => ?_) (fun r2 σ' H locs hw hP hD hS => ?_)
  · exact sg_xout hex hlocks hce hcv hcl hP hS (Nat.le_of_ble_eq_true rfl) (Nat.le_of_ble_eq_true rfl) (⟨hpx.1, hpx.2⟩)
  obtain ⟨rfl, hvi, rfl⟩ := hw
  have hi9 := vp_lt hvi
  refine W.eq (g2 := F0 m 5 ls [.ref (aO (tN i))]) rfl ?_
  refine va_getN (ref := RX1) (host := RX2) (v := .int (kI (pC P (tN i)) 9)) hx hb hts wi_X2_offerPrice_X1 hown hK (sg_one hP ((hQ.2.2.1 _ hi9).1)) 0 rfl rfl 9 (by decide) (va_Nw.use rfl (hN.1 (.fieldLinkNest RX2 92 RX1 "offerPrice" "I" RX2) (List.mem_of_getElem? (i := 11) rfl))) (fun _ h => h) rfl dX2_offerPrice_5 ?_
  exact vx_ret (sg_iret hx hb hr rfl hlocks hP hD hS (Nat.le_of_ble_eq_true rfl) (Nat.le_of_ble_eq_true rfl) dX2_offerPrice_8 (⟨rfl, hvi, rfl⟩))

theorem wi_X2_resets_X1 : ∀ w ∈ wsX10, w ∈ wsX2_resets := by decide +kernel
set_option maxHeartbeats 4000000 in
set_option maxRecDepth 100000 in
theorem c_X2_resets (l : Launch) (hfl : l.stackTraces = false) (D : va_G) (Y : Nat → ClassId) (σ : sg_W) (sz : Nat) (x aM N : Nat) (aO aL aC : Nat → Nat) (P : PS) (i : Int32) (hQ : PF Y x aM N aO aL aC σ P σ) : vx_Met l yX2_resets wsX2_resets ({ frames := 7, cells := 1, slots := 6, locals := 112 } : Room) (va_Pc [.ref x, .int i] (sg_U D Y σ sz)) (va_Qi (fun r σ' => r = kI (pC P (tN i)) 11 ∧ vp_in i N ∧ σ = σ') (sg_B D σ sz) (sg_A σ sz)) (sg_T9 D σ sz (fun E => E = "java/lang/IndexOutOfBoundsException" ∧ ¬ vp_in i N)) 1 6 (sg_A σ sz) := by
  refine sg_metX (cc := cX2_resets) (maxL := 2) (ret := (some .int)) (by decide) rfl (Nat.le_of_ble_eq_true rfl) ?_
  intro p e s m below meth cd9 ls hx hb hml hex hr hown hts hlocks hnm hP hK hD hN hX hA hS hsz hl
  have hl : lv_has ls 2 [(0, .ref x), (1, .int i)] := hl
  refine lv_aload_n hx hb dX2_resets_0 rfl (lv_at hl 0 rfl) ?_
  refine lv_iload_n hx hb dX2_resets_1 rfl (lv_at hl 1 rfl) ?_
  refine sg_xcallq hD hS hA (vx_runV (As := [.int i]) (rest := []) ⟨hx, hb, hml, hown, hts⟩ (c_X2_memberOrThrow l hfl D Y _ _ x aM N aO aL aC P i hQ.self) (cwV 1 hts gX2_resets_X2_memberOrThrow rfl rfl rfl (by decide +kernel) ⟨Nat.le_of_ble_eq_true rfl, Nat.le_of_ble_eq_true rfl⟩) (sg_preV (q := (RX2, TX2, 5)) (hQ.1) rfl hK hP hD hN hX hS hA) rfl rfl hl.1 rfl (lv_room (Nat.le_of_ble_eq_true rfl)) dX2_resets_2 ⟨Nat.le_of_ble_eq_true rfl, Nat.le_of_ble_eq_true rfl⟩) (fun E ce q9 H locs hpx hP hD hS hce hcv hcl => ?_) (fun r2 σ' H locs hw hP hD hS => ?_)
  · exact sg_xout hex hlocks hce hcv hcl hP hS (Nat.le_of_ble_eq_true rfl) (Nat.le_of_ble_eq_true rfl) (⟨hpx.1, hpx.2⟩)
  obtain ⟨rfl, hvi, rfl⟩ := hw
  have hi9 := vp_lt hvi
  refine W.eq (g2 := F0 m 5 ls [.ref (aO (tN i))]) rfl ?_
  refine va_getN (ref := RX1) (host := RX2) (v := .int (kI (pC P (tN i)) 11)) hx hb hts wi_X2_resets_X1 hown hK (sg_one hP ((hQ.2.2.1 _ hi9).1)) 0 rfl rfl 11 (by decide) (va_Nw.use rfl (hN.1 (.fieldLinkNest RX2 95 RX1 "resets" "I" RX2) (List.mem_of_getElem? (i := 12) rfl))) (fun _ h => h) rfl dX2_resets_5 ?_
  exact vx_ret (sg_iret hx hb hr rfl hlocks hP hD hS (Nat.le_of_ble_eq_true rfl) (Nat.le_of_ble_eq_true rfl) dX2_resets_8 (⟨rfl, hvi, rfl⟩))

theorem wi_X2_kept_X1 : ∀ w ∈ wsX10, w ∈ wsX2_kept := by decide +kernel
set_option maxHeartbeats 4000000 in
set_option maxRecDepth 100000 in
theorem c_X2_kept (l : Launch) (hfl : l.stackTraces = false) (D : va_G) (Y : Nat → ClassId) (σ : sg_W) (sz : Nat) (x aM N : Nat) (aO aL aC : Nat → Nat) (P : PS) (i : Int32) (hQ : PF Y x aM N aO aL aC σ P σ) : vx_Met l yX2_kept wsX2_kept ({ frames := 7, cells := 1, slots := 6, locals := 112 } : Room) (va_Pc [.ref x, .int i] (sg_U D Y σ sz)) (va_Ql (fun r σ' => r = kL (pC P (tN i)) 7 ∧ vp_in i N ∧ σ = σ') (sg_B D σ sz) (sg_A σ sz)) (sg_T9 D σ sz (fun E => E = "java/lang/IndexOutOfBoundsException" ∧ ¬ vp_in i N)) 1 6 (sg_A σ sz) := by
  refine sg_metX (cc := cX2_kept) (maxL := 2) (ret := (some .long)) (by decide) rfl (Nat.le_of_ble_eq_true rfl) ?_
  intro p e s m below meth cd9 ls hx hb hml hex hr hown hts hlocks hnm hP hK hD hN hX hA hS hsz hl
  have hl : lv_has ls 2 [(0, .ref x), (1, .int i)] := hl
  refine lv_aload_n hx hb dX2_kept_0 rfl (lv_at hl 0 rfl) ?_
  refine lv_iload_n hx hb dX2_kept_1 rfl (lv_at hl 1 rfl) ?_
  refine sg_xcallq hD hS hA (vx_runV (As := [.int i]) (rest := []) ⟨hx, hb, hml, hown, hts⟩ (c_X2_memberOrThrow l hfl D Y _ _ x aM N aO aL aC P i hQ.self) (cwV 1 hts gX2_kept_X2_memberOrThrow rfl rfl rfl (by decide +kernel) ⟨Nat.le_of_ble_eq_true rfl, Nat.le_of_ble_eq_true rfl⟩) (sg_preV (q := (RX2, TX2, 5)) (hQ.1) rfl hK hP hD hN hX hS hA) rfl rfl hl.1 rfl (lv_room (Nat.le_of_ble_eq_true rfl)) dX2_kept_2 ⟨Nat.le_of_ble_eq_true rfl, Nat.le_of_ble_eq_true rfl⟩) (fun E ce q9 H locs hpx hP hD hS hce hcv hcl => ?_) (fun r2 σ' H locs hw hP hD hS => ?_)
  · exact sg_xout hex hlocks hce hcv hcl hP hS (Nat.le_of_ble_eq_true rfl) (Nat.le_of_ble_eq_true rfl) (⟨hpx.1, hpx.2⟩)
  obtain ⟨rfl, hvi, rfl⟩ := hw
  have hi9 := vp_lt hvi
  refine W.eq (g2 := F0 m 5 ls [.ref (aO (tN i))]) rfl ?_
  refine va_getN (ref := RX1) (host := RX2) (v := .long (kL (pC P (tN i)) 7)) hx hb hts wi_X2_kept_X1 hown hK (sg_one hP ((hQ.2.2.1 _ hi9).1)) 0 rfl rfl 7 (by decide) (va_Nw.use rfl (hN.1 (.fieldLinkNest RX2 132 RX1 "keptOfSlips" "J" RX2) (List.mem_of_getElem? (i := 9) rfl))) (fun _ h => h) rfl dX2_kept_5 ?_
  exact vx_ret (sg_lret hx hb hr hlocks hP hD hS (Nat.le_of_ble_eq_true rfl) (Nat.le_of_ble_eq_true rfl) dX2_kept_8 (⟨rfl, hvi, rfl⟩))

theorem wi_X2_pay_X1 : ∀ w ∈ wsX10, w ∈ wsX2_pay := by decide +kernel
set_option maxHeartbeats 4000000 in
set_option maxRecDepth 100000 in
theorem c_X2_pay (l : Launch) (hfl : l.stackTraces = false) (D : va_G) (Y : Nat → ClassId) (σ : sg_W) (sz : Nat) (x aM N : Nat) (aO aL aC : Nat → Nat) (P : PS) (i : Int32) (hQ : PF Y x aM N aO aL aC σ P σ) : vx_Met l yX2_pay wsX2_pay ({ frames := 7, cells := 1, slots := 6, locals := 112 } : Room) (va_Pc [.ref x, .int i] (sg_U D Y σ sz)) (va_Ql (fun r σ' => r = kL (pC P (tN i)) 12 ∧ vp_in i N ∧ σ = σ') (sg_B D σ sz) (sg_A σ sz)) (sg_T9 D σ sz (fun E => E = "java/lang/IndexOutOfBoundsException" ∧ ¬ vp_in i N)) 1 6 (sg_A σ sz) := by
  refine sg_metX (cc := cX2_pay) (maxL := 2) (ret := (some .long)) (by decide) rfl (Nat.le_of_ble_eq_true rfl) ?_
  intro p e s m below meth cd9 ls hx hb hml hex hr hown hts hlocks hnm hP hK hD hN hX hA hS hsz hl
  have hl : lv_has ls 2 [(0, .ref x), (1, .int i)] := hl
  refine lv_aload_n hx hb dX2_pay_0 rfl (lv_at hl 0 rfl) ?_
  refine lv_iload_n hx hb dX2_pay_1 rfl (lv_at hl 1 rfl) ?_
  refine sg_xcallq hD hS hA (vx_runV (As := [.int i]) (rest := []) ⟨hx, hb, hml, hown, hts⟩ (c_X2_memberOrThrow l hfl D Y _ _ x aM N aO aL aC P i hQ.self) (cwV 1 hts gX2_pay_X2_memberOrThrow rfl rfl rfl (by decide +kernel) ⟨Nat.le_of_ble_eq_true rfl, Nat.le_of_ble_eq_true rfl⟩) (sg_preV (q := (RX2, TX2, 5)) (hQ.1) rfl hK hP hD hN hX hS hA) rfl rfl hl.1 rfl (lv_room (Nat.le_of_ble_eq_true rfl)) dX2_pay_2 ⟨Nat.le_of_ble_eq_true rfl, Nat.le_of_ble_eq_true rfl⟩) (fun E ce q9 H locs hpx hP hD hS hce hcv hcl => ?_) (fun r2 σ' H locs hw hP hD hS => ?_)
  · exact sg_xout hex hlocks hce hcv hcl hP hS (Nat.le_of_ble_eq_true rfl) (Nat.le_of_ble_eq_true rfl) (⟨hpx.1, hpx.2⟩)
  obtain ⟨rfl, hvi, rfl⟩ := hw
  have hi9 := vp_lt hvi
  refine W.eq (g2 := F0 m 5 ls [.ref (aO (tN i))]) rfl ?_
  refine va_getN (ref := RX1) (host := RX2) (v := .long (kL (pC P (tN i)) 12)) hx hb hts wi_X2_pay_X1 hown hK (sg_one hP ((hQ.2.2.1 _ hi9).1)) 0 rfl rfl 12 (by decide) (va_Nw.use rfl (hN.1 (.fieldLinkNest RX2 144 RX1 "payOfSales" "J" RX2) (List.mem_of_getElem? (i := 13) rfl))) (fun _ h => h) rfl dX2_pay_5 ?_
  exact vx_ret (sg_lret hx hb hr hlocks hP hD hS (Nat.le_of_ble_eq_true rfl) (Nat.le_of_ble_eq_true rfl) dX2_pay_8 (⟨rfl, hvi, rfl⟩))

theorem wi_X2_gain_X1 : ∀ w ∈ wsX10, w ∈ wsX2_gain := by decide +kernel
set_option maxHeartbeats 4000000 in
set_option maxRecDepth 100000 in
theorem c_X2_gain (l : Launch) (hfl : l.stackTraces = false) (D : va_G) (Y : Nat → ClassId) (σ : sg_W) (sz : Nat) (x aM N : Nat) (aO aL aC : Nat → Nat) (P : PS) (i : Int32) (hQ : PF Y x aM N aO aL aC σ P σ) : vx_Met l yX2_gain wsX2_gain ({ frames := 7, cells := 1, slots := 6, locals := 112 } : Room) (va_Pc [.ref x, .int i] (sg_U D Y σ sz)) (va_Ql (fun r σ' => r = kL (pC P (tN i)) 13 ∧ vp_in i N ∧ σ = σ') (sg_B D σ sz) (sg_A σ sz)) (sg_T9 D σ sz (fun E => E = "java/lang/IndexOutOfBoundsException" ∧ ¬ vp_in i N)) 1 6 (sg_A σ sz) := by
  refine sg_metX (cc := cX2_gain) (maxL := 2) (ret := (some .long)) (by decide) rfl (Nat.le_of_ble_eq_true rfl) ?_
  intro p e s m below meth cd9 ls hx hb hml hex hr hown hts hlocks hnm hP hK hD hN hX hA hS hsz hl
  have hl : lv_has ls 2 [(0, .ref x), (1, .int i)] := hl
  refine lv_aload_n hx hb dX2_gain_0 rfl (lv_at hl 0 rfl) ?_
  refine lv_iload_n hx hb dX2_gain_1 rfl (lv_at hl 1 rfl) ?_
  refine sg_xcallq hD hS hA (vx_runV (As := [.int i]) (rest := []) ⟨hx, hb, hml, hown, hts⟩ (c_X2_memberOrThrow l hfl D Y _ _ x aM N aO aL aC P i hQ.self) (cwV 1 hts gX2_gain_X2_memberOrThrow rfl rfl rfl (by decide +kernel) ⟨Nat.le_of_ble_eq_true rfl, Nat.le_of_ble_eq_true rfl⟩) (sg_preV (q := (RX2, TX2, 5)) (hQ.1) rfl hK hP hD hN hX hS hA) rfl rfl hl.1 rfl (lv_room (Nat.le_of_ble_eq_true rfl)) dX2_gain_2 ⟨Nat.le_of_ble_eq_true rfl, Nat.le_of_ble_eq_true rfl⟩) (fun E ce q9 H locs hpx hP hD hS hce hcv hcl => ?_) (fun r2 σ' H locs hw hP hD hS => ?_)
  · exact sg_xout hex hlocks hce hcv hcl hP hS (Nat.le_of_ble_eq_true rfl) (Nat.le_of_ble_eq_true rfl) (⟨hpx.1, hpx.2⟩)
  obtain ⟨rfl, hvi, rfl⟩ := hw
  have hi9 := vp_lt hvi
  refine W.eq (g2 := F0 m 5 ls [.ref (aO (tN i))]) rfl ?_
  refine va_getN (ref := RX1) (host := RX2) (v := .long (kL (pC P (tN i)) 13)) hx hb hts wi_X2_gain_X1 hown hK (sg_one hP ((hQ.2.2.1 _ hi9).1)) 0 rfl rfl 13 (by decide) (va_Nw.use rfl (hN.1 (.fieldLinkNest RX2 147 RX1 "gainOfSales" "J" RX2) (List.mem_of_getElem? (i := 14) rfl))) (fun _ h => h) rfl dX2_gain_5 ?_
  exact vx_ret (sg_lret hx hb hr hlocks hP hD hS (Nat.le_of_ble_eq_true rfl) (Nat.le_of_ble_eq_true rfl) dX2_gain_8 (⟨rfl, hvi, rfl⟩))

theorem wi_X2_traced_X1 : ∀ w ∈ wsX10, w ∈ wsX2_traced := by decide +kernel
set_option maxHeartbeats 4000000 in
set_option maxRecDepth 100000 in
theorem c_X2_traced (l : Launch) (hfl : l.stackTraces = false) (D : va_G) (Y : Nat → ClassId) (σ : sg_W) (sz : Nat) (x aM N : Nat) (aO aL aC : Nat → Nat) (P : PS) (i : Int32) (hQ : PF Y x aM N aO aL aC σ P σ) : vx_Met l yX2_traced wsX2_traced ({ frames := 7, cells := 1, slots := 6, locals := 112 } : Room) (va_Pc [.ref x, .int i] (sg_U D Y σ sz)) (va_Ql (fun r σ' => r = kL (pC P (tN i)) 5 + kL (pC P (tN i)) 4 + kL (pC P (tN i)) 6 ∧ vp_in i N ∧ σ = σ') (sg_B D σ sz) (sg_A σ sz)) (sg_T9 D σ sz (fun E => E = "java/lang/IndexOutOfBoundsException" ∧ ¬ vp_in i N)) 1 6 (sg_A σ sz) := by
  refine sg_metX (cc := cX2_traced) (maxL := 3) (ret := (some .long)) (by decide) rfl (Nat.le_of_ble_eq_true rfl) ?_
  intro p e s m below meth cd9 ls hx hb hml hex hr hown hts hlocks hnm hP hK hD hN hX hA hS hsz hl
  have hl : lv_has ls 3 [(0, .ref x), (1, .int i)] := hl
  refine lv_aload_n hx hb dX2_traced_0 rfl (lv_at hl 0 rfl) ?_
  refine lv_iload_n hx hb dX2_traced_1 rfl (lv_at hl 1 rfl) ?_
  refine sg_xcallq hD hS hA (vx_runV (As := [.int i]) (rest := []) ⟨hx, hb, hml, hown, hts⟩ (c_X2_memberOrThrow l hfl D Y _ _ x aM N aO aL aC P i hQ.self) (cwV 1 hts gX2_traced_X2_memberOrThrow rfl rfl rfl (by decide +kernel) ⟨Nat.le_of_ble_eq_true rfl, Nat.le_of_ble_eq_true rfl⟩) (sg_preV (q := (RX2, TX2, 5)) (hQ.1) rfl hK hP hD hN hX hS hA) rfl rfl hl.1 rfl (lv_room (Nat.le_of_ble_eq_true rfl)) dX2_traced_2 ⟨Nat.le_of_ble_eq_true rfl, Nat.le_of_ble_eq_true rfl⟩) (fun E ce q9 H locs hpx hP hD hS hce hcv hcl => ?_) (fun r2 σ' H locs hw hP hD hS => ?_)
  · exact sg_xout hex hlocks hce hcv hcl hP hS (Nat.le_of_ble_eq_true rfl) (Nat.le_of_ble_eq_true rfl) (⟨hpx.1, hpx.2⟩)
  obtain ⟨rfl, hvi, rfl⟩ := hw
  have hi9 := vp_lt hvi
  refine W.eq (g2 := F0 m 5 ls [.ref (aO (tN i))]) rfl ?_
  refine lv_astore_n (lv' := [(2, .ref (aO (tN i))), (0, .ref x), (1, .int i)]) hx hb dX2_traced_5 rfl hl (by decide) rfl (fun ls hl => ?_)
  refine lv_aload_n hx hb dX2_traced_6 rfl (lv_at hl 0 rfl) ?_
  refine va_getN (ref := RX1) (host := RX2) (v := .long (kL (pC P (tN i)) 5)) hx hb hts wi_X2_traced_X1 hown hK (sg_one hP ((hQ.2.2.1 _ hi9).1)) 0 rfl rfl 5 (by decide) (va_Nw.use rfl (hN.1 (.fieldLinkNest RX2 126 RX1 "spent" "J" RX2) (List.mem_of_getElem? (i := 7) rfl))) (fun _ h => h) rfl dX2_traced_7 ?_
  refine lv_aload_n hx hb dX2_traced_10 rfl (lv_at hl 0 rfl) ?_
  refine va_getN (ref := RX1) (host := RX2) (v := .long (kL (pC P (tN i)) 4)) hx hb hts wi_X2_traced_X1 hown hK (sg_one hP ((hQ.2.2.1 _ hi9).1)) 0 rfl rfl 4 (by decide) (va_Nw.use rfl (hN.1 (.fieldLinkNest RX2 85 RX1 "money" "J" RX2) (List.mem_of_getElem? (i := 6) rfl))) (fun _ h => h) rfl dX2_traced_11 ?_
  refine lv_ladd hx hb dX2_traced_14 ?_
  refine lv_aload_n hx hb dX2_traced_15 rfl (lv_at hl 0 rfl) ?_
  refine va_getN (ref := RX1) (host := RX2) (v := .long (kL (pC P (tN i)) 6)) hx hb hts wi_X2_traced_X1 hown hK (sg_one hP ((hQ.2.2.1 _ hi9).1)) 0 rfl rfl 6 (by decide) (va_Nw.use rfl (hN.1 (.fieldLinkNest RX2 129 RX1 "givenBack" "J" RX2) (List.mem_of_getElem? (i := 8) rfl))) (fun _ h => h) rfl dX2_traced_16 ?_
  refine lv_ladd hx hb dX2_traced_19 ?_
  exact vx_ret (sg_lret hx hb hr hlocks hP hD hS (Nat.le_of_ble_eq_true rfl) (Nat.le_of_ble_eq_true rfl) dX2_traced_20 (⟨rfl, hvi, rfl⟩))

set_option maxHeartbeats 4000000 in
set_option maxRecDepth 100000 in
theorem c_X2_shares (l : Launch) (hfl : l.stackTraces = false) (D : va_G) (Y : Nat → ClassId) (σ : sg_W) (sz : Nat) (x aM N : Nat) (aO aL aC : Nat → Nat) (P : PS) (i : Int32) (hQ : PF Y x aM N aO aL aC σ P σ) : vx_Met l yX2_shares wsX2_shares ({ frames := 7, cells := 1, slots := 6, locals := 112 } : Room) (va_Pc [.ref x, .int i] (sg_U D Y σ sz)) (va_Qi (fun r σ' => r = kSum (pC P (tN i)) 10 ∧ vp_in i N ∧ σ = σ') (sg_B D σ sz) (sg_A σ sz)) (sg_T9 D σ sz (fun E => E = "java/lang/IndexOutOfBoundsException" ∧ ¬ vp_in i N)) 1 6 (sg_A σ sz) := by
  refine sg_metX (cc := cX2_shares) (maxL := 2) (ret := (some .int)) (by decide) rfl (Nat.le_of_ble_eq_true rfl) ?_
  intro p e s m below meth cd9 ls hx hb hml hex hr hown hts hlocks hnm hP hK hD hN hX hA hS hsz hl
  have hl : lv_has ls 2 [(0, .ref x), (1, .int i)] := hl
  refine lv_aload_n hx hb dX2_shares_0 rfl (lv_at hl 0 rfl) ?_
  refine lv_iload_n hx hb dX2_shares_1 rfl (lv_at hl 1 rfl) ?_
  refine sg_xcallq hD hS hA (vx_runV (As := [.int i]) (rest := []) ⟨hx, hb, hml, hown, hts⟩ (c_X2_memberOrThrow l hfl D Y _ _ x aM N aO aL aC P i hQ.self) (cwV 1 hts gX2_shares_X2_memberOrThrow rfl rfl rfl (by decide +kernel) ⟨Nat.le_of_ble_eq_true rfl, Nat.le_of_ble_eq_true rfl⟩) (sg_preV (q := (RX2, TX2, 5)) (hQ.1) rfl hK hP hD hN hX hS hA) rfl rfl hl.1 rfl (lv_room (Nat.le_of_ble_eq_true rfl)) dX2_shares_2 ⟨Nat.le_of_ble_eq_true rfl, Nat.le_of_ble_eq_true rfl⟩) (fun E ce q9 H locs hpx hP hD hS hce hcv hcl => ?_) (fun r2 σ' H locs hw hP hD hS => ?_)
  · exact sg_xout hex hlocks hce hcv hcl hP hS (Nat.le_of_ble_eq_true rfl) (Nat.le_of_ble_eq_true rfl) (⟨hpx.1, hpx.2⟩)
  obtain ⟨rfl, hvi, rfl⟩ := hw
  have hi9 := vp_lt hvi
  refine W.eq (g2 := F0 m 5 ls [.ref (aO (tN i))]) rfl ?_
  refine sg_calli hD hS hA (va_runVN (As := []) (rest := []) ⟨hx, hb, hml, hown, hts⟩ (c_X1_sharesHeld l D Y _ _ (1000 + 20 * tN i) (aO (tN i)) (aL (tN i)) (aC (tN i)) (pC P (tN i)) (hQ.2.2.1 _ hi9)) ⟨(va_cnB 0 hts gX2_shares_X1_sharesHeld_n98 rfl rfl rfl (hN.2.1 (.methodLinkNest RX2 98 yX1_sharesHeld RX2) (List.mem_of_getElem? (i := 8) rfl)) (hts (.initialized RX1) (by decide +kernel)) (by decide +kernel) ⟨Nat.le_of_ble_eq_true rfl, Nat.le_of_ble_eq_true rfl⟩), (hts (.instanceMethod yX1_sharesHeld) (by decide +kernel)), (hts (.selects RX1 yX1_sharesHeld yX1_sharesHeld) (by decide +kernel))⟩ (sg_preV (q := (RX1, TX1, 14)) ((hQ.2.2.1 _ hi9).1) rfl hK hP hD hN hX hS hA) rfl rfl hl.1 rfl (lv_room (Nat.le_of_ble_eq_true rfl)) dX2_shares_5 ⟨Nat.le_of_ble_eq_true rfl, Nat.le_of_ble_eq_true rfl⟩) (fun r5 σ' H locs hw hP hD hS => ?_)
  obtain ⟨rfl, rfl⟩ := hw
  exact vx_ret (sg_iret hx hb hr rfl hlocks hP hD hS (Nat.le_of_ble_eq_true rfl) (Nat.le_of_ble_eq_true rfl) dX2_shares_8 (⟨rfl, hvi, rfl⟩))

theorem wi_X2_gainNow_X2 : ∀ w ∈ wsX20, w ∈ wsX2_gainNow := by decide +kernel
set_option maxHeartbeats 4000000 in
set_option maxRecDepth 100000 in
theorem c_X2_gainNow (l : Launch) (hfl : l.stackTraces = false) (D : va_G) (Y : Nat → ClassId) (σ : sg_W) (sz : Nat) (x aM N : Nat) (aO aL aC : Nat → Nat) (P : PS) (i : Int32) (hQ : PF Y x aM N aO aL aC σ P σ) : vx_Met l yX2_gainNow wsX2_gainNow ({ frames := 7, cells := 1, slots := 6, locals := 112 } : Room) (va_Pc [.ref x, .int i] (sg_U D Y σ sz)) (va_Ql (fun r σ' => r = kGN (pC P (tN i)) (pS P 2) (pS P 3) 10 ∧ vp_in i N ∧ σ = σ') (sg_B D σ sz) (sg_A σ sz)) (sg_T9 D σ sz (fun E => E = "java/lang/IndexOutOfBoundsException" ∧ ¬ vp_in i N)) 1 6 (sg_A σ sz) := by
  refine sg_metX (cc := cX2_gainNow) (maxL := 2) (ret := (some .long)) (by decide) rfl (Nat.le_of_ble_eq_true rfl) ?_
  intro p e s m below meth cd9 ls hx hb hml hex hr hown hts hlocks hnm hP hK hD hN hX hA hS hsz hl
  have hl : lv_has ls 2 [(0, .ref x), (1, .int i)] := hl
  refine lv_aload_n hx hb dX2_gainNow_0 rfl (lv_at hl 0 rfl) ?_
  refine lv_iload_n hx hb dX2_gainNow_1 rfl (lv_at hl 1 rfl) ?_
  refine sg_xcallq hD hS hA (vx_runV (As := [.int i]) (rest := []) ⟨hx, hb, hml, hown, hts⟩ (c_X2_memberOrThrow l hfl D Y _ _ x aM N aO aL aC P i hQ.self) (cwV 1 hts gX2_gainNow_X2_memberOrThrow rfl rfl rfl (by decide +kernel) ⟨Nat.le_of_ble_eq_true rfl, Nat.le_of_ble_eq_true rfl⟩) (sg_preV (q := (RX2, TX2, 5)) (hQ.1) rfl hK hP hD hN hX hS hA) rfl rfl hl.1 rfl (lv_room (Nat.le_of_ble_eq_true rfl)) dX2_gainNow_2 ⟨Nat.le_of_ble_eq_true rfl, Nat.le_of_ble_eq_true rfl⟩) (fun E ce q9 H locs hpx hP hD hS hce hcv hcl => ?_) (fun r2 σ' H locs hw hP hD hS => ?_)
  · exact sg_xout hex hlocks hce hcv hcl hP hS (Nat.le_of_ble_eq_true rfl) (Nat.le_of_ble_eq_true rfl) (⟨hpx.1, hpx.2⟩)
  obtain ⟨rfl, hvi, rfl⟩ := hw
  have hi9 := vp_lt hvi
  refine W.eq (g2 := F0 m 5 ls [.ref (aO (tN i))]) rfl ?_
  refine lv_aload_n hx hb dX2_gainNow_5 rfl (lv_at hl 0 rfl) ?_
  refine va_get (ref := RX2) (v := .int (pS P 2)) hx hb hts wi_X2_gainNow_X2 hown hK (sg_one hP (hQ.1)) 0 rfl rfl 2 (by decide) (hts (.fieldLink RX2 19 RX2 "month" "I") (by decide +kernel)) (fun _ h => h) rfl dX2_gainNow_6 ?_
  refine lv_aload_n hx hb dX2_gainNow_9 rfl (lv_at hl 0 rfl) ?_
  refine va_get (ref := RX2) (v := .int (pS P 3)) hx hb hts wi_X2_gainNow_X2 hown hK (sg_one hP (hQ.1)) 0 rfl rfl 3 (by decide) (hts (.fieldLink RX2 22 RX2 "priceNow" "I") (by decide +kernel)) (fun _ h => h) rfl dX2_gainNow_10 ?_
  refine sg_calll hD hS hA (va_runVN (As := [.int (pS P 2), .int (pS P 3)]) (rest := []) ⟨hx, hb, hml, hown, hts⟩ (c_X1_gainIfAllSold l D Y _ _ (1000 + 20 * tN i) (aO (tN i)) (aL (tN i)) (aC (tN i)) (pC P (tN i)) (pS P 2) (pS P 3) (hQ.2.2.1 _ hi9)) ⟨(va_cnB 2 hts gX2_gainNow_X1_gainIfAllSold_n150 rfl rfl rfl (hN.2.1 (.methodLinkNest RX2 150 yX1_gainIfAllSold RX2) (List.mem_of_getElem? (i := 3) rfl)) (hts (.initialized RX1) (by decide +kernel)) (by decide +kernel) ⟨Nat.le_of_ble_eq_true rfl, Nat.le_of_ble_eq_true rfl⟩), (hts (.instanceMethod yX1_gainIfAllSold) (by decide +kernel)), (hts (.selects RX1 yX1_gainIfAllSold yX1_gainIfAllSold) (by decide +kernel))⟩ (sg_preV (q := (RX1, TX1, 14)) ((hQ.2.2.1 _ hi9).1) rfl hK hP hD hN hX hS hA) rfl rfl hl.1 rfl (lv_room (Nat.le_of_ble_eq_true rfl)) dX2_gainNow_13 ⟨Nat.le_of_ble_eq_true rfl, Nat.le_of_ble_eq_true rfl⟩) (fun r13 σ' H locs hw hP hD hS => ?_)
  obtain ⟨rfl, rfl⟩ := hw
  exact vx_ret (sg_lret hx hb hr hlocks hP hD hS (Nat.le_of_ble_eq_true rfl) (Nat.le_of_ble_eq_true rfl) dX2_gainNow_16 (⟨rfl, hvi, rfl⟩))
