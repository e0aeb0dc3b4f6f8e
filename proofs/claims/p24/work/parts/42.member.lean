theorem vp_5 {y : Int32} (h : ¬ y < 0) (h2 : y < 5) : vp_in y 5 := by
  obtain ⟨j, hj, rfl⟩ := nI_of h
  rw [show (5 : Int32) = nI 5 from rfl, nI_ltI hj (by omega)] at h2
  exact vp_in_nI h2 (by decide)
theorem wi_X1_takeSlip_X1 : ∀ w ∈ wsX10, w ∈ wsX1_takeSlip := by decide +kernel
set_option maxHeartbeats 4000000 in
set_option maxRecDepth 100000 in
theorem c_X1_takeSlip (l : Launch) (D : va_G) (Y : Nat → ClassId) (σ : sg_W) (sz : Nat) (n aO aL aC : Nat) (c : CS) (x : Int32) (hC : KF Y n aO aL aC σ c σ) : Met l yX1_takeSlip wsX1_takeSlip ({ frames := 0, cells := 0, slots := 0, locals := 0 } : Room) (va_Pc [.ref aO, .int x] (sg_U D Y σ sz)) (va_Qi (fun r σ' => r = x * kI c 2 / 100 ∧ KF Y n aO aL aC σ (uKL (uKL c 4 (kL c 4 + (x * kI c 2 / 100).toInt64)) 7 (kL c 7 + (x * kI c 2 / 100).toInt64)) σ') (sg_B D σ sz) (sg_A σ sz)) 0 0 (sg_A σ sz) := by
  refine sg_met (cc := cX1_takeSlip) (maxL := 3) (ret := (some .int)) (by decide) rfl (Nat.le_of_ble_eq_true rfl) ?_
  intro p e s m below meth cd9 ls hx hb hml hr hown hts hlocks hnm hP hK hD hN hX hA hS hsz hl
  have hl : lv_has ls 3 [(0, .ref aO), (1, .int x)] := hl
  refine lv_iload_n hx hb dX1_takeSlip_0 rfl (lv_at hl 1 rfl) ?_
  refine lv_aload_n hx hb dX1_takeSlip_1 rfl (lv_at hl 0 rfl) ?_
  refine va_get (ref := RX1) (v := .int (kI c 2)) hx hb hts wi_X1_takeSlip_X1 hown hK (sg_one hP (hC.1)) 0 rfl rfl 2 (by decide) (hts (.fieldLink RX1 21 RX1 "rate" "I") (by decide +kernel)) (fun _ h => h) rfl dX1_takeSlip_2 ?_
  refine lv_imul hx hb dX1_takeSlip_5 ?_
  refine lv_bipush (v := 100) hx hb dX1_takeSlip_6 (by decide) ?_
  refine lv_idiv hx hb dX1_takeSlip_8 (by decide) ?_
  refine lv_topi (fun v9 ev9 => ?_)
  refine lv_istore_n (lv' := [(2, .int v9), (0, .ref aO), (1, .int x)]) hx hb dX1_takeSlip_9 rfl hl (by decide) rfl (fun ls hl => ?_)
  refine lv_aload_n hx hb dX1_takeSlip_10 rfl (lv_at hl 1 rfl) ?_
  refine lv_dup hx hb dX1_takeSlip_11 rfl ?_
  refine va_get (ref := RX1) (v := .long (kL c 4)) hx hb hts wi_X1_takeSlip_X1 hown hK (sg_one hP (hC.1)) 0 rfl rfl 4 (by decide) (hts (.fieldLink RX1 31 RX1 "money" "J") (by decide +kernel)) (fun _ h => h) rfl dX1_takeSlip_12 ?_
  refine lv_iload_n hx hb dX1_takeSlip_15 rfl (lv_at hl 0 rfl) ?_
  refine lv_i2l hx hb dX1_takeSlip_16 rfl ?_
  refine lv_ladd hx hb dX1_takeSlip_17 ?_
  refine sg_put (ref := RX1) (ty := .long) (v := .long ((kL c 4) + v9.toInt64)) hx hb hts wi_X1_takeSlip_X1 tyX1 tyX1_ok nmX1 hown hK hP hD hS (hC.1) rfl 4 (by decide) (hts (.fieldLink RX1 31 RX1 "money" "J") (by decide +kernel)) (fun _ h => h) rfl (by decide +kernel) rfl rfl (Nat.le_of_ble_eq_true rfl) dX1_takeSlip_18 (fun H locs hP hD hS => ?_)
  have hC := hC.l4 (v := ((kL c 4) + v9.toInt64))
  refine lv_aload_n hx hb dX1_takeSlip_21 rfl (lv_at hl 1 rfl) ?_
  refine lv_dup hx hb dX1_takeSlip_22 rfl ?_
  refine va_get (ref := RX1) (v := .long (kL (uKL c 4 (((kL c 4) + v9.toInt64))) 7)) hx hb hts wi_X1_takeSlip_X1 hown hK (sg_one hP (hC.1)) 0 rfl rfl 7 (by decide) (hts (.fieldLink RX1 35 RX1 "keptOfSlips" "J") (by decide +kernel)) (fun _ h => h) rfl dX1_takeSlip_23 ?_
  refine lv_iload_n hx hb dX1_takeSlip_26 rfl (lv_at hl 0 rfl) ?_
  refine lv_i2l hx hb dX1_takeSlip_27 rfl ?_
  refine lv_ladd hx hb dX1_takeSlip_28 ?_
  refine sg_put (ref := RX1) (ty := .long) (v := .long ((kL (uKL c 4 (((kL c 4) + v9.toInt64))) 7) + v9.toInt64)) hx hb hts wi_X1_takeSlip_X1 tyX1 tyX1_ok nmX1 hown hK hP hD hS (hC.1) rfl 7 (by decide) (hts (.fieldLink RX1 35 RX1 "keptOfSlips" "J") (by decide +kernel)) (fun _ h => h) rfl (by decide +kernel) rfl rfl (Nat.le_of_ble_eq_true rfl) dX1_takeSlip_29 (fun H locs hP hD hS => ?_)
  have hC := hC.l7 (v := ((kL (uKL c 4 (((kL c 4) + v9.toInt64))) 7) + v9.toInt64))
  refine lv_iload_n hx hb dX1_takeSlip_32 rfl (lv_at hl 0 rfl) ?_
  exact sg_iret hx hb hr rfl hlocks hP hD hS (Nat.le_of_ble_eq_true rfl) (Nat.le_of_ble_eq_true rfl) dX1_takeSlip_33 (by subst ev9; exact ⟨rfl, hC⟩)

theorem wi_X1_giveBack_X1 : ∀ w ∈ wsX10, w ∈ wsX1_giveBack := by decide +kernel
set_option maxHeartbeats 4000000 in
set_option maxRecDepth 100000 in
theorem c_X1_giveBack (l : Launch) (D : va_G) (Y : Nat → ClassId) (σ : sg_W) (sz : Nat) (n aO aL aC : Nat) (c : CS) (hC : KF Y n aO aL aC σ c σ) : Met l yX1_giveBack wsX1_giveBack ({ frames := 0, cells := 0, slots := 0, locals := 0 } : Room) (va_Pc [.ref aO] (sg_U D Y σ sz)) (va_Ql (fun r σ' => r = kL c 4 ∧ KF Y n aO aL aC σ (uKI (uKL (uKL c 6 (kL c 6 + kL c 4)) 4 0) 3 1) σ') (sg_B D σ sz) (sg_A σ sz)) 0 0 (sg_A σ sz) := by
  refine sg_met (cc := cX1_giveBack) (maxL := 3) (ret := (some .long)) (by decide) rfl (Nat.le_of_ble_eq_true rfl) ?_
  intro p e s m below meth cd9 ls hx hb hml hr hown hts hlocks hnm hP hK hD hN hX hA hS hsz hl
  have hl : lv_has ls 3 [(0, .ref aO)] := hl
  refine lv_aload_n hx hb dX1_giveBack_0 rfl (lv_at hl 0 rfl) ?_
  refine va_get (ref := RX1) (v := .long (kL c 4)) hx hb hts wi_X1_giveBack_X1 hown hK (sg_one hP (hC.1)) 0 rfl rfl 4 (by decide) (hts (.fieldLink RX1 31 RX1 "money" "J") (by decide +kernel)) (fun _ h => h) rfl dX1_giveBack_1 ?_
  refine lv_topl (fun v4 ev4 => ?_)
  refine lv_lstore_n (lv' := [(1, .long v4), (0, .ref aO)]) hx hb dX1_giveBack_4 rfl hl (by decide) rfl (fun ls hl => ?_)
  refine lv_aload_n hx hb dX1_giveBack_5 rfl (lv_at hl 1 rfl) ?_
  refine lv_dup hx hb dX1_giveBack_6 rfl ?_
  refine va_get (ref := RX1) (v := .long (kL c 6)) hx hb hts wi_X1_giveBack_X1 hown hK (sg_one hP (hC.1)) 0 rfl rfl 6 (by decide) (hts (.fieldLink RX1 38 RX1 "givenBack" "J") (by decide +kernel)) (fun _ h => h) rfl dX1_giveBack_7 ?_
  refine lv_lload_n hx hb dX1_giveBack_10 rfl (lv_at hl 0 rfl) ?_
  refine lv_ladd hx hb dX1_giveBack_11 ?_
  refine sg_put (ref := RX1) (ty := .long) (v := .long ((kL c 6) + v4)) hx hb hts wi_X1_giveBack_X1 tyX1 tyX1_ok nmX1 hown hK hP hD hS (hC.1) rfl 6 (by decide) (hts (.fieldLink RX1 38 RX1 "givenBack" "J") (by decide +kernel)) (fun _ h => h) rfl (by decide +kernel) rfl rfl (Nat.le_of_ble_eq_true rfl) dX1_giveBack_12 (fun H locs hP hD hS => ?_)
  have hC := hC.l6 (v := ((kL c 6) + v4))
  refine lv_aload_n hx hb dX1_giveBack_15 rfl (lv_at hl 1 rfl) ?_
  refine lv_lconst (v := 0) hx hb dX1_giveBack_16 (by decide) ?_
  refine sg_put (ref := RX1) (ty := .long) (v := .long 0) hx hb hts wi_X1_giveBack_X1 tyX1 tyX1_ok nmX1 hown hK hP hD hS (hC.1) rfl 4 (by decide) (hts (.fieldLink RX1 31 RX1 "money" "J") (by decide +kernel)) (fun _ h => h) rfl (by decide +kernel) rfl rfl (Nat.le_of_ble_eq_true rfl) dX1_giveBack_17 (fun H locs hP hD hS => ?_)
  have hC := hC.l4 (v := 0)
  refine lv_aload_n hx hb dX1_giveBack_20 rfl (lv_at hl 1 rfl) ?_
  refine lv_iconst (v := 1) hx hb dX1_giveBack_21 (by decide) ?_
  refine sg_put (ref := RX1) (ty := .boolean) (v := .int 1) hx hb hts wi_X1_giveBack_X1 tyX1 tyX1_ok nmX1 hown hK hP hD hS (hC.1) rfl 3 (by decide) (hts (.fieldLink RX1 41 RX1 "hasLeft" "Z") (by decide +kernel)) (fun _ h => h) rfl (by decide +kernel) (rfl) rfl (Nat.le_of_ble_eq_true rfl) dX1_giveBack_22 (fun H locs hP hD hS => ?_)
  have hC := hC.i3 (v := 1)
  refine lv_lload_n hx hb dX1_giveBack_25 rfl (lv_at hl 0 rfl) ?_
  exact sg_lret hx hb hr hlocks hP hD hS (Nat.le_of_ble_eq_true rfl) (Nat.le_of_ble_eq_true rfl) dX1_giveBack_26 (by subst ev4; exact ⟨rfl, hC⟩)

theorem wi_X1_renewOffer_X1 : ∀ w ∈ wsX10, w ∈ wsX1_renewOffer := by decide +kernel
set_option maxHeartbeats 4000000 in
set_option maxRecDepth 100000 in
theorem c_X1_renewOffer (l : Launch) (D : va_G) (Y : Nat → ClassId) (σ : sg_W) (sz : Nat) (n aO aL aC : Nat) (c : CS) (mo price : Int32) (hC : KF Y n aO aL aC σ c σ) : Met l yX1_renewOffer wsX1_renewOffer ({ frames := 0, cells := 0, slots := 0, locals := 0 } : Room) (va_Pc [.ref aO, .int mo, .int price] (sg_U D Y σ sz)) (va_Qv (fun σ' => KF Y n aO aL aC σ (kRenew c mo price) σ') (sg_B D σ sz) (sg_A σ sz)) 0 0 (sg_A σ sz) := by
  refine sg_met (cc := cX1_renewOffer) (maxL := 4) (ret := none) (by decide) rfl (Nat.le_of_ble_eq_true rfl) ?_
  intro p e s m below meth cd9 ls hx hb hml hr hown hts hlocks hnm hP hK hD hN hX hA hS hsz hl
  have hl : lv_has ls 4 [(0, .ref aO), (1, .int mo), (2, .int price)] := hl
  refine sg_cutwi (D := D) hS (j := 13) (ls := ls) (rest := []) 0 0 (fun x9 σ' => x9 = (bI (price < kI c 9)) ∧ KF Y n aO aL aC σ c σ') (fun x9 σ' H locs hj9 hP hD hS => ?_) (fun k13 => ?_)
  · obtain ⟨rfl, hC⟩ := hj9
    refine lv_topi (fun v13 ev13 => ?_)
    refine lv_istore_n (lv' := [(3, .int v13), (0, .ref aO), (1, .int mo), (2, .int price)]) hx hb dX1_renewOffer_13 rfl hl (by decide) rfl (fun ls hl => ?_)
    refine lv_iload_n hx hb dX1_renewOffer_14 rfl (lv_at hl 0 rfl) ?_
    refine lv_if_eq (tgt := 28) hx hb dX1_renewOffer_15 (by decide) (fun c15 => ?_) (fun c15 => ?_)
    · skip
      refine lv_iload_n hx hb dX1_renewOffer_28 rfl (lv_at hl 0 rfl) ?_
      refine lv_if_ne (tgt := 40) hx hb dX1_renewOffer_29 (by decide) (fun c29 => ?_) (fun c29 => ?_)
      · skip
        refine lv_aload_n hx hb dX1_renewOffer_40 rfl (lv_at hl 1 rfl) ?_
        refine lv_iload_n hx hb dX1_renewOffer_41 rfl (lv_at hl 2 rfl) ?_
        refine sg_put (ref := RX1) (ty := .int) (v := .int mo) hx hb hts wi_X1_renewOffer_X1 tyX1 tyX1_ok nmX1 hown hK hP hD hS (hC.1) rfl 8 (by decide) (hts (.fieldLink RX1 25 RX1 "offerMonth" "I") (by decide +kernel)) (fun _ h => h) rfl (by decide +kernel) rfl rfl (Nat.le_of_ble_eq_true rfl) dX1_renewOffer_42 (fun H locs hP hD hS => ?_)
        have hC := hC.i8 (v := mo)
        refine lv_aload_n hx hb dX1_renewOffer_45 rfl (lv_at hl 1 rfl) ?_
        refine lv_iload_n hx hb dX1_renewOffer_46 rfl (lv_at hl 3 rfl) ?_
        refine sg_put (ref := RX1) (ty := .int) (v := .int price) hx hb hts wi_X1_renewOffer_X1 tyX1 tyX1_ok nmX1 hown hK hP hD hS (hC.1) rfl 9 (by decide) (hts (.fieldLink RX1 28 RX1 "offerPrice" "I") (by decide +kernel)) (fun _ h => h) rfl (by decide +kernel) rfl rfl (Nat.le_of_ble_eq_true rfl) dX1_renewOffer_47 (fun H locs hP hD hS => ?_)
        have hC := hC.i9 (v := price)
        refine lv_aload_n hx hb dX1_renewOffer_50 rfl (lv_at hl 1 rfl) ?_
        refine lv_iconst (v := 0) hx hb dX1_renewOffer_51 (by decide) ?_
        refine sg_put (ref := RX1) (ty := .int) (v := .int 0) hx hb hts wi_X1_renewOffer_X1 tyX1 tyX1_ok nmX1 hown hK hP hD hS (hC.1) rfl 10 (by decide) (hts (.fieldLink RX1 79 RX1 "offerPurchases" "I") (by decide +kernel)) (fun _ h => h) rfl (by decide +kernel) rfl rfl (Nat.le_of_ble_eq_true rfl) dX1_renewOffer_52 (fun H locs hP hD hS => ?_)
        have hC := hC.i10 (v := 0)
        exact sg_vret hx hb hr hlocks hP hD hS (Nat.le_of_ble_eq_true rfl) (Nat.le_of_ble_eq_true rfl) dX1_renewOffer_55 (hC.to (by grind [kRenew, bI, Int32.not_le, Int32.not_lt, kI_uKI]))
      · skip
        refine lv_aload_n hx hb dX1_renewOffer_32 rfl (lv_at hl 1 rfl) ?_
        refine va_get (ref := RX1) (v := .int (kI c 10)) hx hb hts wi_X1_renewOffer_X1 hown hK (sg_one hP (hC.1)) 0 rfl rfl 10 (by decide) (hts (.fieldLink RX1 79 RX1 "offerPurchases" "I") (by decide +kernel)) (fun _ h => h) rfl dX1_renewOffer_33 ?_
        refine lv_iconst (v := 4) hx hb dX1_renewOffer_36 (by decide) ?_
        refine lv_icmp_lt (tgt := 55) hx hb dX1_renewOffer_37 (by decide) (fun c37 => ?_) (fun c37 => ?_)
        · skip
          exact sg_vret hx hb hr hlocks hP hD hS (Nat.le_of_ble_eq_true rfl) (Nat.le_of_ble_eq_true rfl) dX1_renewOffer_55 (hC.to (by grind [kRenew, bI, Int32.not_le, Int32.not_lt, kI_uKI]))
        · skip
          refine lv_aload_n hx hb dX1_renewOffer_40 rfl (lv_at hl 1 rfl) ?_
          refine lv_iload_n hx hb dX1_renewOffer_41 rfl (lv_at hl 2 rfl) ?_
          refine sg_put (ref := RX1) (ty := .int) (v := .int mo) hx hb hts wi_X1_renewOffer_X1 tyX1 tyX1_ok nmX1 hown hK hP hD hS (hC.1) rfl 8 (by decide) (hts (.fieldLink RX1 25 RX1 "offerMonth" "I") (by decide +kernel)) (fun _ h => h) rfl (by decide +kernel) rfl rfl (Nat.le_of_ble_eq_true rfl) dX1_renewOffer_42 (fun H locs hP hD hS => ?_)
          have hC := hC.i8 (v := mo)
          refine lv_aload_n hx hb dX1_renewOffer_45 rfl (lv_at hl 1 rfl) ?_
          refine lv_iload_n hx hb dX1_renewOffer_46 rfl (lv_at hl 3 rfl) ?_
          refine sg_put (ref := RX1) (ty := .int) (v := .int price) hx hb hts wi_X1_renewOffer_X1 tyX1 tyX1_ok nmX1 hown hK hP hD hS (hC.1) rfl 9 (by decide) (hts (.fieldLink RX1 28 RX1 "offerPrice" "I") (by decide +kernel)) (fun _ h => h) rfl (by decide +kernel) rfl rfl (Nat.le_of_ble_eq_true rfl) dX1_renewOffer_47 (fun H locs hP hD hS => ?_)
          have hC := hC.i9 (v := price)
          refine lv_aload_n hx hb dX1_renewOffer_50 rfl (lv_at hl 1 rfl) ?_
          refine lv_iconst (v := 0) hx hb dX1_renewOffer_51 (by decide) ?_
          refine sg_put (ref := RX1) (ty := .int) (v := .int 0) hx hb hts wi_X1_renewOffer_X1 tyX1 tyX1_ok nmX1 hown hK hP hD hS (hC.1) rfl 10 (by decide) (hts (.fieldLink RX1 79 RX1 "offerPurchases" "I") (by decide +kernel)) (fun _ h => h) rfl (by decide +kernel) rfl rfl (Nat.le_of_ble_eq_true rfl) dX1_renewOffer_52 (fun H locs hP hD hS => ?_)
          have hC := hC.i10 (v := 0)
          exact sg_vret hx hb hr hlocks hP hD hS (Nat.le_of_ble_eq_true rfl) (Nat.le_of_ble_eq_true rfl) dX1_renewOffer_55 (hC.to (by grind [kRenew, bI, Int32.not_le, Int32.not_lt, kI_uKI]))
    · skip
      refine lv_aload_n hx hb dX1_renewOffer_18 rfl (lv_at hl 1 rfl) ?_
      refine lv_dup hx hb dX1_renewOffer_19 rfl ?_
      refine va_get (ref := RX1) (v := .int (kI c 11)) hx hb hts wi_X1_renewOffer_X1 hown hK (sg_one hP (hC.1)) 0 rfl rfl 11 (by decide) (hts (.fieldLink RX1 86 RX1 "resets" "I") (by decide +kernel)) (fun _ h => h) rfl dX1_renewOffer_20 ?_
      refine lv_iconst (v := 1) hx hb dX1_renewOffer_23 (by decide) ?_
      refine lv_iadd hx hb dX1_renewOffer_24 ?_
      refine sg_put (ref := RX1) (ty := .int) (v := .int ((kI c 11) + 1)) hx hb hts wi_X1_renewOffer_X1 tyX1 tyX1_ok nmX1 hown hK hP hD hS (hC.1) rfl 11 (by decide) (hts (.fieldLink RX1 86 RX1 "resets" "I") (by decide +kernel)) (fun _ h => h) rfl (by decide +kernel) rfl rfl (Nat.le_of_ble_eq_true rfl) dX1_renewOffer_25 (fun H locs hP hD hS => ?_)
      have hC := hC.i11 (v := ((kI c 11) + 1))
      refine lv_iload_n hx hb dX1_renewOffer_28 rfl (lv_at hl 0 rfl) ?_
      refine lv_if_ne (tgt := 40) hx hb dX1_renewOffer_29 (by decide) (fun c29 => ?_) (fun c29 => ?_)
      · skip
        refine lv_aload_n hx hb dX1_renewOffer_40 rfl (lv_at hl 1 rfl) ?_
        refine lv_iload_n hx hb dX1_renewOffer_41 rfl (lv_at hl 2 rfl) ?_
        refine sg_put (ref := RX1) (ty := .int) (v := .int mo) hx hb hts wi_X1_renewOffer_X1 tyX1 tyX1_ok nmX1 hown hK hP hD hS (hC.1) rfl 8 (by decide) (hts (.fieldLink RX1 25 RX1 "offerMonth" "I") (by decide +kernel)) (fun _ h => h) rfl (by decide +kernel) rfl rfl (Nat.le_of_ble_eq_true rfl) dX1_renewOffer_42 (fun H locs hP hD hS => ?_)
        have hC := hC.i8 (v := mo)
        refine lv_aload_n hx hb dX1_renewOffer_45 rfl (lv_at hl 1 rfl) ?_
        refine lv_iload_n hx hb dX1_renewOffer_46 rfl (lv_at hl 3 rfl) ?_
        refine sg_put (ref := RX1) (ty := .int) (v := .int price) hx hb hts wi_X1_renewOffer_X1 tyX1 tyX1_ok nmX1 hown hK hP hD hS (hC.1) rfl 9 (by decide) (hts (.fieldLink RX1 28 RX1 "offerPrice" "I") (by decide +kernel)) (fun _ h => h) rfl (by decide +kernel) rfl rfl (Nat.le_of_ble_eq_true rfl) dX1_renewOffer_47 (fun H locs hP hD hS => ?_)
        have hC := hC.i9 (v := price)
        refine lv_aload_n hx hb dX1_renewOffer_50 rfl (lv_at hl 1 rfl) ?_
        refine lv_iconst (v := 0) hx hb dX1_renewOffer_51 (by decide) ?_
        refine sg_put (ref := RX1) (ty := .int) (v := .int 0) hx hb hts wi_X1_renewOffer_X1 tyX1 tyX1_ok nmX1 hown hK hP hD hS (hC.1) rfl 10 (by decide) (hts (.fieldLink RX1 79 RX1 "offerPurchases" "I") (by decide +kernel)) (fun _ h => h) rfl (by decide +kernel) rfl rfl (Nat.le_of_ble_eq_true rfl) dX1_renewOffer_52 (fun H locs hP hD hS => ?_)
        have hC := hC.i10 (v := 0)
        exact sg_vret hx hb hr hlocks hP hD hS (Nat.le_of_ble_eq_true rfl) (Nat.le_of_ble_eq_true rfl) dX1_renewOffer_55 (hC.to (by grind [kRenew, bI, Int32.not_le, Int32.not_lt, kI_uKI]))
      · skip
        refine lv_aload_n hx hb dX1_renewOffer_32 rfl (lv_at hl 1 rfl) ?_
        refine va_get (ref := RX1) (v := .int (kI (uKI c 11 (((kI c 11) + 1))) 10)) hx hb hts wi_X1_renewOffer_X1 hown hK (sg_one hP (hC.1)) 0 rfl rfl 10 (by decide) (hts (.fieldLink RX1 79 RX1 "offerPurchases" "I") (by decide +kernel)) (fun _ h => h) rfl dX1_renewOffer_33 ?_
        refine lv_iconst (v := 4) hx hb dX1_renewOffer_36 (by decide) ?_
        refine lv_icmp_lt (tgt := 55) hx hb dX1_renewOffer_37 (by decide) (fun c37 => ?_) (fun c37 => ?_)
        · skip
          exact sg_vret hx hb hr hlocks hP hD hS (Nat.le_of_ble_eq_true rfl) (Nat.le_of_ble_eq_true rfl) dX1_renewOffer_55 (hC.to (by grind [kRenew, bI, Int32.not_le, Int32.not_lt, kI_uKI]))
        · skip
          refine lv_aload_n hx hb dX1_renewOffer_40 rfl (lv_at hl 1 rfl) ?_
          refine lv_iload_n hx hb dX1_renewOffer_41 rfl (lv_at hl 2 rfl) ?_
          refine sg_put (ref := RX1) (ty := .int) (v := .int mo) hx hb hts wi_X1_renewOffer_X1 tyX1 tyX1_ok nmX1 hown hK hP hD hS (hC.1) rfl 8 (by decide) (hts (.fieldLink RX1 25 RX1 "offerMonth" "I") (by decide +kernel)) (fun _ h => h) rfl (by decide +kernel) rfl rfl (Nat.le_of_ble_eq_true rfl) dX1_renewOffer_42 (fun H locs hP hD hS => ?_)
          have hC := hC.i8 (v := mo)
          refine lv_aload_n hx hb dX1_renewOffer_45 rfl (lv_at hl 1 rfl) ?_
          refine lv_iload_n hx hb dX1_renewOffer_46 rfl (lv_at hl 3 rfl) ?_
          refine sg_put (ref := RX1) (ty := .int) (v := .int price) hx hb hts wi_X1_renewOffer_X1 tyX1 tyX1_ok nmX1 hown hK hP hD hS (hC.1) rfl 9 (by decide) (hts (.fieldLink RX1 28 RX1 "offerPrice" "I") (by decide +kernel)) (fun _ h => h) rfl (by decide +kernel) rfl rfl (Nat.le_of_ble_eq_true rfl) dX1_renewOffer_47 (fun H locs hP hD hS => ?_)
          have hC := hC.i9 (v := price)
          refine lv_aload_n hx hb dX1_renewOffer_50 rfl (lv_at hl 1 rfl) ?_
          refine lv_iconst (v := 0) hx hb dX1_renewOffer_51 (by decide) ?_
          refine sg_put (ref := RX1) (ty := .int) (v := .int 0) hx hb hts wi_X1_renewOffer_X1 tyX1 tyX1_ok nmX1 hown hK hP hD hS (hC.1) rfl 10 (by decide) (hts (.fieldLink RX1 79 RX1 "offerPurchases" "I") (by decide +kernel)) (fun _ h => h) rfl (by decide +kernel) rfl rfl (Nat.le_of_ble_eq_true rfl) dX1_renewOffer_52 (fun H locs hP hD hS => ?_)
          have hC := hC.i10 (v := 0)
          exact sg_vret hx hb hr hlocks hP hD hS (Nat.le_of_ble_eq_true rfl) (Nat.le_of_ble_eq_true rfl) dX1_renewOffer_55 (hC.to (by grind [kRenew, bI, Int32.not_le, Int32.not_lt, kI_uKI]))
  · skip
    refine lv_iload_n hx hb dX1_renewOffer_0 rfl (lv_at hl 2 rfl) ?_
    refine lv_aload_n hx hb dX1_renewOffer_1 rfl (lv_at hl 0 rfl) ?_
    refine va_get (ref := RX1) (v := .int (kI c 9)) hx hb hts wi_X1_renewOffer_X1 hown hK (sg_one hP (hC.1)) 0 rfl rfl 9 (by decide) (hts (.fieldLink RX1 28 RX1 "offerPrice" "I") (by decide +kernel)) (fun _ h => h) rfl dX1_renewOffer_2 ?_
    refine lv_icmp_ge (tgt := 12) hx hb dX1_renewOffer_5 (by decide) (fun c5 => ?_) (fun c5 => ?_)
    · skip
      refine lv_iconst (v := 0) hx hb dX1_renewOffer_12 (by decide) ?_
      exact k13 _ _ _ _ (⟨by grind [bI, Int32.not_le, Int32.not_lt], hC⟩) hP hD hS
    · skip
      refine lv_iconst (v := 1) hx hb dX1_renewOffer_8 (by decide) ?_
      refine lv_goto (tgt := 13) hx hb dX1_renewOffer_9 (by decide) ?_
      exact k13 _ _ _ _ (⟨by grind [bI, Int32.not_le, Int32.not_lt], hC⟩) hP hD hS

set_option maxHeartbeats 4000000 in
set_option maxRecDepth 100000 in
theorem c_X1_purchasePrice (l : Launch) (D : va_G) (Y : Nat → ClassId) (σ : sg_W) (sz : Nat) (x : Int32) : Met l yX1_purchasePrice wsX1_purchasePrice ({ frames := 0, cells := 0, slots := 0, locals := 0 } : Room) (va_Pc [.int x] (sg_U D Y σ sz)) (va_Qi (fun r σ' => r = (x * 85 + 100 - 1) / 100 ∧ σ = σ') (sg_B D σ sz) (sg_A σ sz)) 0 0 (sg_A σ sz) := by
  refine sg_met (cc := cX1_purchasePrice) (maxL := 1) (ret := (some .int)) (by decide) rfl (Nat.le_of_ble_eq_true rfl) ?_
  intro p e s m below meth cd9 ls hx hb hml hr hown hts hlocks hnm hP hK hD hN hX hA hS hsz hl
  have hl : lv_has ls 1 [(0, .int x)] := hl
  refine lv_iload_n hx hb dX1_purchasePrice_0 rfl (lv_at hl 0 rfl) ?_
  refine lv_bipush (v := 85) hx hb dX1_purchasePrice_1 (by decide) ?_
  refine lv_imul hx hb dX1_purchasePrice_3 ?_
  refine lv_bipush (v := 100) hx hb dX1_purchasePrice_4 (by decide) ?_
  refine lv_iadd hx hb dX1_purchasePrice_6 ?_
  refine lv_iconst (v := 1) hx hb dX1_purchasePrice_7 (by decide) ?_
  refine lv_isub hx hb dX1_purchasePrice_8 ?_
  refine lv_bipush (v := 100) hx hb dX1_purchasePrice_9 (by decide) ?_
  refine lv_idiv hx hb dX1_purchasePrice_11 (by decide) ?_
  exact sg_iret hx hb hr rfl hlocks hP hD hS (Nat.le_of_ble_eq_true rfl) (Nat.le_of_ble_eq_true rfl) dX1_purchasePrice_12 (⟨rfl, rfl⟩)

set_option maxHeartbeats 4000000 in
set_option maxRecDepth 100000 in
theorem c_X1_wholeTimes (l : Launch) (D : va_G) (Y : Nat → ClassId) (σ : sg_W) (sz : Nat) (x y : Int64) : Met l yX1_wholeTimes wsX1_wholeTimes ({ frames := 0, cells := 0, slots := 0, locals := 0 } : Room) (va_Pc [.long x, .long y] (sg_U D Y σ sz)) (va_Ql (fun r σ' => r = kWhole x y ∧ σ = σ') (sg_B D σ sz) (sg_A σ sz)) 0 0 (sg_A σ sz) := by
  refine sg_met (cc := cX1_wholeTimes) (maxL := 4) (ret := (some .long)) (by decide) rfl (Nat.le_of_ble_eq_true rfl) ?_
  intro p e s m below meth cd9 ls hx hb hml hr hown hts hlocks hnm hP hK hD hN hX hA hS hsz hl
  have hl : lv_has ls 4 [(0, .long x), (2, .long y)] := hl
  refine lv_lload_n hx hb dX1_wholeTimes_0 rfl (lv_at hl 0 rfl) ?_
  refine lv_lconst (v := 0) hx hb dX1_wholeTimes_1 (by decide) ?_
  refine W.lcmp hx hb dX1_wholeTimes_2 ?_
  refine lv_if_le (tgt := 12) hx hb dX1_wholeTimes_3 (by decide) (fun c3 => ?_) (fun c3 => ?_)
  · skip
    refine lv_lconst (v := 0) hx hb dX1_wholeTimes_12 (by decide) ?_
    refine lv_goto (tgt := 19) hx hb dX1_wholeTimes_13 (by decide) ?_
    exact sg_lret hx hb hr hlocks hP hD hS (Nat.le_of_ble_eq_true rfl) (Nat.le_of_ble_eq_true rfl) dX1_wholeTimes_19 (⟨by simp only [lg_cmp_le, lg_cmp_gt] at *; grind [kWhole, Int64.not_le, Int64.not_lt], rfl⟩)
  · skip
    refine lv_lload_n hx hb dX1_wholeTimes_6 rfl (lv_at hl 1 rfl) ?_
    refine lv_lconst (v := 0) hx hb dX1_wholeTimes_7 (by decide) ?_
    refine W.lcmp hx hb dX1_wholeTimes_8 ?_
    refine lv_if_gt (tgt := 16) hx hb dX1_wholeTimes_9 (by decide) (fun c9 => ?_) (fun c9 => ?_)
    · skip
      refine lv_lload_n hx hb dX1_wholeTimes_16 rfl (lv_at hl 0 rfl) ?_
      refine lv_lload_n hx hb dX1_wholeTimes_17 rfl (lv_at hl 1 rfl) ?_
      have c9 : ¬ y ≤ 0 := by simp only [lg_cmp_le, lg_cmp_gt] at *; grind [Int64.not_le, Int64.not_lt]
      refine lv_ldiv hx hb dX1_wholeTimes_18 (fun h9 => c9 (by rw [h9]; decide)) ?_
      exact sg_lret hx hb hr hlocks hP hD hS (Nat.le_of_ble_eq_true rfl) (Nat.le_of_ble_eq_true rfl) dX1_wholeTimes_19 (⟨by simp only [lg_cmp_le, lg_cmp_gt] at *; grind [kWhole, Int64.not_le, Int64.not_lt], rfl⟩)
    · skip
      refine lv_lconst (v := 0) hx hb dX1_wholeTimes_12 (by decide) ?_
      refine lv_goto (tgt := 19) hx hb dX1_wholeTimes_13 (by decide) ?_
      exact sg_lret hx hb hr hlocks hP hD hS (Nat.le_of_ble_eq_true rfl) (Nat.le_of_ble_eq_true rfl) dX1_wholeTimes_19 (⟨by simp only [lg_cmp_le, lg_cmp_gt] at *; grind [kWhole, Int64.not_le, Int64.not_lt], rfl⟩)

theorem wi_X1_countedIn_X1 : ∀ w ∈ wsX10, w ∈ wsX1_countedIn := by decide +kernel
set_option maxHeartbeats 4000000 in
set_option maxRecDepth 100000 in
theorem c_X1_countedIn (l : Launch) (D : va_G) (Y : Nat → ClassId) (σ : sg_W) (sz : Nat) (n aO aL aC : Nat) (c : CS) (y : Int32) (hC : KF Y n aO aL aC σ c σ) : Met l yX1_countedIn wsX1_countedIn ({ frames := 0, cells := 0, slots := 0, locals := 0 } : Room) (va_Pc [.ref aO, .int y] (sg_U D Y σ sz)) (va_Ql (fun r σ' => r = kCnt c y ∧ σ = σ') (sg_B D σ sz) (sg_A σ sz)) 0 0 (sg_A σ sz) := by
  refine sg_met (cc := cX1_countedIn) (maxL := 2) (ret := (some .long)) (by decide) rfl (Nat.le_of_ble_eq_true rfl) ?_
  intro p e s m below meth cd9 ls hx hb hml hr hown hts hlocks hnm hP hK hD hN hX hA hS hsz hl
  have hl : lv_has ls 2 [(0, .ref aO), (1, .int y)] := hl
  refine lv_iload_n hx hb dX1_countedIn_0 rfl (lv_at hl 1 rfl) ?_
  refine lv_if_lt (tgt := 13) hx hb dX1_countedIn_1 (by decide) (fun c1 => ?_) (fun c1 => ?_)
  · skip
    refine lv_lconst (v := 0) hx hb dX1_countedIn_13 (by decide) ?_
    refine lv_goto (tgt := 23) hx hb dX1_countedIn_14 (by decide) ?_
    exact sg_lret hx hb hr hlocks hP hD hS (Nat.le_of_ble_eq_true rfl) (Nat.le_of_ble_eq_true rfl) dX1_countedIn_23 (⟨by grind [kCnt, Int32.not_le, Int32.not_lt], rfl⟩)
  · skip
    refine lv_iload_n hx hb dX1_countedIn_4 rfl (lv_at hl 1 rfl) ?_
    refine lv_aload_n hx hb dX1_countedIn_5 rfl (lv_at hl 0 rfl) ?_
    refine va_get (ref := RX1) (v := .ref aC) hx hb hts wi_X1_countedIn_X1 hown hK (sg_one hP (hC.1)) 0 rfl rfl 1 (by decide) (hts (.fieldLink RX1 17 RX1 "countedByYear" "[J") (by decide +kernel)) (fun _ h => h) rfl dX1_countedIn_6 ?_
    refine va_alen (v := 5) hx hb hK (sg_one hP (hC.2.2.1)) 0 1 rfl rfl rfl dX1_countedIn_9 ?_
    refine lv_icmp_lt (tgt := 17) hx hb dX1_countedIn_10 (by decide) (fun c10 => ?_) (fun c10 => ?_)
    · skip
      refine lv_aload_n hx hb dX1_countedIn_17 rfl (lv_at hl 0 rfl) ?_
      refine va_get (ref := RX1) (v := .ref aC) hx hb hts wi_X1_countedIn_X1 hown hK (sg_one hP (hC.1)) 0 rfl rfl 1 (by decide) (hts (.fieldLink RX1 17 RX1 "countedByYear" "[J") (by decide +kernel)) (fun _ h => h) rfl dX1_countedIn_18 ?_
      refine lv_iload_n hx hb dX1_countedIn_21 rfl (lv_at hl 1 rfl) ?_
      refine va_lald hx hb hK (sg_one hP (hC.2.2.1)) 0 1 rfl rfl (vp_5 c1 c10) dX1_countedIn_22 ?_
      exact sg_lret hx hb hr hlocks hP hD hS (Nat.le_of_ble_eq_true rfl) (Nat.le_of_ble_eq_true rfl) dX1_countedIn_23 (⟨by grind [kCnt, Int32.not_le, Int32.not_lt], rfl⟩)
    · skip
      refine lv_lconst (v := 0) hx hb dX1_countedIn_13 (by decide) ?_
      refine lv_goto (tgt := 23) hx hb dX1_countedIn_14 (by decide) ?_
      exact sg_lret hx hb hr hlocks hP hD hS (Nat.le_of_ble_eq_true rfl) (Nat.le_of_ble_eq_true rfl) dX1_countedIn_23 (⟨by grind [kCnt, Int32.not_le, Int32.not_lt], rfl⟩)

theorem wi_X1_addCounted_X1 : ∀ w ∈ wsX10, w ∈ wsX1_addCounted := by decide +kernel
set_option maxHeartbeats 4000000 in
set_option maxRecDepth 100000 in
theorem c_X1_addCounted (l : Launch) (D : va_G) (Y : Nat → ClassId) (σ : sg_W) (sz : Nat) (n aO aL aC : Nat) (c : CS) (y : Int32) (x : Int64) (hC : KF Y n aO aL aC σ c σ) : Met l yX1_addCounted wsX1_addCounted ({ frames := 0, cells := 0, slots := 0, locals := 0 } : Room) (va_Pc [.ref aO, .int y, .long x] (sg_U D Y σ sz)) (va_Qv (fun σ' => KF Y n aO aL aC σ (kAdd c y x) σ') (sg_B D σ sz) (sg_A σ sz)) 0 0 (sg_A σ sz) := by
  refine sg_met (cc := cX1_addCounted) (maxL := 4) (ret := none) (by decide) rfl (Nat.le_of_ble_eq_true rfl) ?_
  intro p e s m below meth cd9 ls hx hb hml hr hown hts hlocks hnm hP hK hD hN hX hA hS hsz hl
  have hl : lv_has ls 4 [(0, .ref aO), (1, .int y), (2, .long x)] := hl
  refine lv_iload_n hx hb dX1_addCounted_0 rfl (lv_at hl 1 rfl) ?_
  refine lv_if_lt (tgt := 23) hx hb dX1_addCounted_1 (by decide) (fun c1 => ?_) (fun c1 => ?_)
  · skip
    exact sg_vret hx hb hr hlocks hP hD hS (Nat.le_of_ble_eq_true rfl) (Nat.le_of_ble_eq_true rfl) dX1_addCounted_23 (hC.to (by grind [kAdd, Int32.not_le, Int32.not_lt]))
  · skip
    refine lv_iload_n hx hb dX1_addCounted_4 rfl (lv_at hl 1 rfl) ?_
    refine lv_aload_n hx hb dX1_addCounted_5 rfl (lv_at hl 0 rfl) ?_
    refine va_get (ref := RX1) (v := .ref aC) hx hb hts wi_X1_addCounted_X1 hown hK (sg_one hP (hC.1)) 0 rfl rfl 1 (by decide) (hts (.fieldLink RX1 17 RX1 "countedByYear" "[J") (by decide +kernel)) (fun _ h => h) rfl dX1_addCounted_6 ?_
    refine va_alen (v := 5) hx hb hK (sg_one hP (hC.2.2.1)) 0 1 rfl rfl rfl dX1_addCounted_9 ?_
    refine lv_icmp_ge (tgt := 23) hx hb dX1_addCounted_10 (by decide) (fun c10 => ?_) (fun c10 => ?_)
    · skip
      exact sg_vret hx hb hr hlocks hP hD hS (Nat.le_of_ble_eq_true rfl) (Nat.le_of_ble_eq_true rfl) dX1_addCounted_23 (hC.to (by grind [kAdd, Int32.not_le, Int32.not_lt]))
    · skip
      refine lv_aload_n hx hb dX1_addCounted_13 rfl (lv_at hl 0 rfl) ?_
      refine va_get (ref := RX1) (v := .ref aC) hx hb hts wi_X1_addCounted_X1 hown hK (sg_one hP (hC.1)) 0 rfl rfl 1 (by decide) (hts (.fieldLink RX1 17 RX1 "countedByYear" "[J") (by decide +kernel)) (fun _ h => h) rfl dX1_addCounted_14 ?_
      refine lv_iload_n hx hb dX1_addCounted_17 rfl (lv_at hl 1 rfl) ?_
      refine lv_dup2_11 hx hb dX1_addCounted_18 rfl rfl ?_
      refine va_lald hx hb hK (sg_one hP (hC.2.2.1)) 0 1 rfl rfl (vp_5 c1 (Int32.not_le.mp c10)) dX1_addCounted_19 ?_
      refine lv_lload_n hx hb dX1_addCounted_20 rfl (lv_at hl 2 rfl) ?_
      refine lv_ladd hx hb dX1_addCounted_21 ?_
      refine sg_last hx hb hK hP hD hS (hC.2.2.1) (vp_5 c1 (Int32.not_le.mp c10)) dX1_addCounted_22 (fun H locs hP hD hS => ?_)
      have hC := hC.cnt (y := (y).toNatClampNeg) (v := ((kC c (y).toNatClampNeg) + x))
      exact sg_vret hx hb hr hlocks hP hD hS (Nat.le_of_ble_eq_true rfl) (Nat.le_of_ble_eq_true rfl) dX1_addCounted_23 (hC.to (by grind [kAdd, Int32.not_le, Int32.not_lt]))
