theorem wi_X0_isEarly_X0 : ∀ w ∈ wsX00, w ∈ wsX0_isEarly := by decide +kernel
set_option maxHeartbeats 4000000 in
set_option maxRecDepth 100000 in
theorem c_X0_isEarly (l : Launch) (D : va_G) (Y : Nat → ClassId) (σ : sg_W) (sz : Nat) (n a : Nat) (v : Nat → Int32) (now : Int32) (h0 : σ n = some (a, .inr (0, lotF v))) : Met l yX0_isEarly wsX0_isEarly ({ frames := 0, cells := 0, slots := 0, locals := 0 } : Room) (va_Pc [.ref a, .int now] (sg_U D Y σ sz)) (va_Qi (fun r σ' => r = lE v now ∧ σ = σ') (sg_B D σ sz) (sg_A σ sz)) 0 0 (sg_A σ sz) := by
  refine sg_met (cc := cX0_isEarly) (maxL := 2) (ret := (some .boolean)) (by decide) rfl (Nat.le_of_ble_eq_true rfl) ?_
  intro p e s m below meth cd9 ls hx hb hml hr hown hts hlocks hnm hP hK hD hN hX hA hS hsz hl
  have hl : lv_has ls 2 [(0, .ref a), (1, .int now)] := hl
  refine lv_iload_n hx hb dX0_isEarly_0 rfl (lv_at hl 1 rfl) ?_
  refine lv_aload_n hx hb dX0_isEarly_1 rfl (lv_at hl 0 rfl) ?_
  refine va_get (ref := RX0) (v := .int (v 3)) hx hb hts wi_X0_isEarly_X0 hown hK (sg_one hP (h0)) 0 rfl rfl 3 (by decide) (hts (.fieldLink RX0 21 RX0 "offerMonth" "I") (by decide +kernel)) (fun _ h => h) rfl dX0_isEarly_2 ?_
  refine lv_isub hx hb dX0_isEarly_5 ?_
  refine lv_bipush (v := 24) hx hb dX0_isEarly_6 (by decide) ?_
  refine lv_icmp_lt (tgt := 22) hx hb dX0_isEarly_8 (by decide) (fun c8 => ?_) (fun c8 => ?_)
  · skip
    refine lv_iconst (v := 1) hx hb dX0_isEarly_22 (by decide) ?_
    refine lv_goto (tgt := 27) hx hb dX0_isEarly_23 (by decide) ?_
    exact sg_iret hx hb hr rfl hlocks hP hD hS (Nat.le_of_ble_eq_true rfl) (Nat.le_of_ble_eq_true rfl) dX0_isEarly_27 (⟨by grind [lE, bI], rfl⟩)
  · skip
    refine lv_iload_n hx hb dX0_isEarly_11 rfl (lv_at hl 1 rfl) ?_
    refine lv_aload_n hx hb dX0_isEarly_12 rfl (lv_at hl 0 rfl) ?_
    refine va_get (ref := RX0) (v := .int (v 0)) hx hb hts wi_X0_isEarly_X0 hown hK (sg_one hP (h0)) 0 rfl rfl 0 (by decide) (hts (.fieldLink RX0 9 RX0 "month" "I") (by decide +kernel)) (fun _ h => h) rfl dX0_isEarly_13 ?_
    refine lv_isub hx hb dX0_isEarly_16 ?_
    refine lv_bipush (v := 12) hx hb dX0_isEarly_17 (by decide) ?_
    refine lv_icmp_ge (tgt := 26) hx hb dX0_isEarly_19 (by decide) (fun c19 => ?_) (fun c19 => ?_)
    · skip
      refine lv_iconst (v := 0) hx hb dX0_isEarly_26 (by decide) ?_
      exact sg_iret hx hb hr rfl hlocks hP hD hS (Nat.le_of_ble_eq_true rfl) (Nat.le_of_ble_eq_true rfl) dX0_isEarly_27 (⟨by grind [lE, bI], rfl⟩)
    · skip
      refine lv_iconst (v := 1) hx hb dX0_isEarly_22 (by decide) ?_
      refine lv_goto (tgt := 27) hx hb dX0_isEarly_23 (by decide) ?_
      exact sg_iret hx hb hr rfl hlocks hP hD hS (Nat.le_of_ble_eq_true rfl) (Nat.le_of_ble_eq_true rfl) dX0_isEarly_27 (⟨by grind [lE, bI], rfl⟩)

theorem wi_X0_payEach_X0 : ∀ w ∈ wsX00, w ∈ wsX0_payEach := by decide +kernel
set_option maxHeartbeats 4000000 in
set_option maxRecDepth 100000 in
theorem c_X0_payEach (l : Launch) (D : va_G) (Y : Nat → ClassId) (σ : sg_W) (sz : Nat) (n a : Nat) (v : Nat → Int32) (now price : Int32) (h0 : σ n = some (a, .inr (0, lotF v))) : Met l yX0_payEach wsX0_payEach ({ frames := 1, cells := 0, slots := 0, locals := 21 } : Room) (va_Pc [.ref a, .int now, .int price] (sg_U D Y σ sz)) (va_Ql (fun r σ' => r = lP v now price ∧ σ = σ') (sg_B D σ sz) (sg_A σ sz)) 0 0 (sg_A σ sz) := by
  refine sg_met (cc := cX0_payEach) (maxL := 4) (ret := (some .long)) (by decide) rfl (Nat.le_of_ble_eq_true rfl) ?_
  intro p e s m below meth cd9 ls hx hb hml hr hown hts hlocks hnm hP hK hD hN hX hA hS hsz hl
  have hl : lv_has ls 4 [(0, .ref a), (1, .int now), (2, .int price)] := hl
  refine lv_aload_n hx hb dX0_payEach_0 rfl (lv_at hl 0 rfl) ?_
  refine lv_iload_n hx hb dX0_payEach_1 rfl (lv_at hl 1 rfl) ?_
  refine sg_calli hD hS hA (va_runV (As := [.int now]) (rest := []) ⟨hx, hb, hml, hown, hts⟩ (c_X0_isEarly l D Y _ _ n a v now h0) (cwV 1 hts gX0_payEach_X0_isEarly rfl rfl rfl (by decide +kernel) ⟨Nat.le_of_ble_eq_true rfl, Nat.le_of_ble_eq_true rfl⟩) (sg_preV (q := (RX0, TX0, 7)) (h0) rfl hK hP hD hN hX hS hA) rfl rfl hl.1 rfl (lv_room (Nat.le_of_ble_eq_true rfl)) dX0_payEach_2 ⟨Nat.le_of_ble_eq_true rfl, Nat.le_of_ble_eq_true rfl⟩) (fun r2 σ' H locs hw hP hD hS => ?_)
  obtain ⟨rfl, rfl⟩ := hw
  refine lv_if_eq (tgt := 19) hx hb dX0_payEach_5 (by decide) (fun c5 => ?_) (fun c5 => ?_)
  · skip
    refine lv_aload_n hx hb dX0_payEach_19 rfl (lv_at hl 0 rfl) ?_
    refine va_get (ref := RX0) (v := .int (v 4)) hx hb hts wi_X0_payEach_X0 hown hK (sg_one hP (h0)) 0 rfl rfl 4 (by decide) (hts (.fieldLink RX0 24 RX0 "offerPrice" "I") (by decide +kernel)) (fun _ h => h) rfl dX0_payEach_20 ?_
    refine lv_bipush (v := 15) hx hb dX0_payEach_23 (by decide) ?_
    refine lv_imul hx hb dX0_payEach_25 ?_
    refine lv_bipush (v := 100) hx hb dX0_payEach_26 (by decide) ?_
    refine lv_idiv hx hb dX0_payEach_28 (by decide) ?_
    refine lv_topi (fun v29 ev29 => ?_)
    refine lv_istore_n (lv' := [(3, .int v29), (0, .ref a), (1, .int now), (2, .int price)]) hx hb dX0_payEach_29 rfl hl (by decide) rfl (fun ls hl => ?_)
    refine lv_iconst (v := 0) hx hb dX0_payEach_30 (by decide) ?_
    refine lv_iload_n hx hb dX0_payEach_31 rfl (lv_at hl 0 rfl) ?_
    refine lv_iload_n hx hb dX0_payEach_32 rfl (lv_at hl 3 rfl) ?_
    refine lv_aload_n hx hb dX0_payEach_33 rfl (lv_at hl 1 rfl) ?_
    refine va_get (ref := RX0) (v := .int (v 2)) hx hb hts wi_X0_payEach_X0 hown hK (sg_one hP (h0)) 0 rfl rfl 2 (by decide) (hts (.fieldLink RX0 18 RX0 "paidEach" "I") (by decide +kernel)) (fun _ h => h) rfl dX0_payEach_34 ?_
    refine lv_isub hx hb dX0_payEach_37 ?_
    refine va_mmin hx hb (hml.trans hl.1.symm) hown (hts (.methodLink RX0 37 Lib.Math.min.name) (by decide +kernel)) (hts (.static Lib.Math.min.name) (by decide +kernel)) (hts (.initialized "java/lang/Math") (by decide +kernel)) (hts (.code Lib.Math.min.name Lib.Math.min.code 2 (some .int)) (by decide +kernel)) (Nat.le_of_ble_eq_true rfl) (Nat.le_of_ble_eq_true rfl) (Nat.le_of_ble_eq_true rfl) (Nat.le_of_ble_eq_true rfl) dX0_payEach_38 ?_
    refine va_mmax hx hb (hml.trans hl.1.symm) hown (hts (.methodLink RX0 43 Lib.Math.max.name) (by decide +kernel)) (hts (.static Lib.Math.max.name) (by decide +kernel)) (hts (.initialized "java/lang/Math") (by decide +kernel)) (hts (.code Lib.Math.max.name Lib.Math.max.code 2 (some .int)) (by decide +kernel)) (Nat.le_of_ble_eq_true rfl) (Nat.le_of_ble_eq_true rfl) (Nat.le_of_ble_eq_true rfl) (Nat.le_of_ble_eq_true rfl) dX0_payEach_41 ?_
    refine lv_i2l hx hb dX0_payEach_44 rfl ?_
    exact sg_lret hx hb hr hlocks hP hD hS (Nat.le_of_ble_eq_true rfl) (Nat.le_of_ble_eq_true rfl) dX0_payEach_45 (⟨by first | (rw [lP, if_pos c5, ev29]; rfl) | (rw [lP, if_neg c5]), rfl⟩)
  · skip
    refine lv_aload_n hx hb dX0_payEach_8 rfl (lv_at hl 0 rfl) ?_
    refine va_get (ref := RX0) (v := .int (v 1)) hx hb hts wi_X0_payEach_X0 hown hK (sg_one hP (h0)) 0 rfl rfl 1 (by decide) (hts (.fieldLink RX0 15 RX0 "monthPrice" "I") (by decide +kernel)) (fun _ h => h) rfl dX0_payEach_9 ?_
    refine lv_aload_n hx hb dX0_payEach_12 rfl (lv_at hl 0 rfl) ?_
    refine va_get (ref := RX0) (v := .int (v 2)) hx hb hts wi_X0_payEach_X0 hown hK (sg_one hP (h0)) 0 rfl rfl 2 (by decide) (hts (.fieldLink RX0 18 RX0 "paidEach" "I") (by decide +kernel)) (fun _ h => h) rfl dX0_payEach_13 ?_
    refine lv_isub hx hb dX0_payEach_16 ?_
    refine lv_i2l hx hb dX0_payEach_17 rfl ?_
    exact sg_lret hx hb hr hlocks hP hD hS (Nat.le_of_ble_eq_true rfl) (Nat.le_of_ble_eq_true rfl) dX0_payEach_18 (⟨by first | (rw [lP, if_pos c5, ev29]; rfl) | (rw [lP, if_neg c5]), rfl⟩)

theorem wi_X0_gainEach_X0 : ∀ w ∈ wsX00, w ∈ wsX0_gainEach := by decide +kernel
set_option maxHeartbeats 4000000 in
set_option maxRecDepth 100000 in
theorem c_X0_gainEach (l : Launch) (D : va_G) (Y : Nat → ClassId) (σ : sg_W) (sz : Nat) (n a : Nat) (v : Nat → Int32) (now price : Int32) (h0 : σ n = some (a, .inr (0, lotF v))) : Met l yX0_gainEach wsX0_gainEach ({ frames := 2, cells := 0, slots := 0, locals := 44 } : Room) (va_Pc [.ref a, .int now, .int price] (sg_U D Y σ sz)) (va_Ql (fun r σ' => r = lG v now price ∧ σ = σ') (sg_B D σ sz) (sg_A σ sz)) 0 0 (sg_A σ sz) := by
  refine sg_met (cc := cX0_gainEach) (maxL := 3) (ret := (some .long)) (by decide) rfl (Nat.le_of_ble_eq_true rfl) ?_
  intro p e s m below meth cd9 ls hx hb hml hr hown hts hlocks hnm hP hK hD hN hX hA hS hsz hl
  have hl : lv_has ls 3 [(0, .ref a), (1, .int now), (2, .int price)] := hl
  refine lv_iload_n hx hb dX0_gainEach_0 rfl (lv_at hl 2 rfl) ?_
  refine lv_aload_n hx hb dX0_gainEach_1 rfl (lv_at hl 0 rfl) ?_
  refine va_get (ref := RX0) (v := .int (v 2)) hx hb hts wi_X0_gainEach_X0 hown hK (sg_one hP (h0)) 0 rfl rfl 2 (by decide) (hts (.fieldLink RX0 18 RX0 "paidEach" "I") (by decide +kernel)) (fun _ h => h) rfl dX0_gainEach_2 ?_
  refine lv_isub hx hb dX0_gainEach_5 ?_
  refine lv_i2l hx hb dX0_gainEach_6 rfl ?_
  refine lv_aload_n hx hb dX0_gainEach_7 rfl (lv_at hl 0 rfl) ?_
  refine lv_iload_n hx hb dX0_gainEach_8 rfl (lv_at hl 1 rfl) ?_
  refine lv_iload_n hx hb dX0_gainEach_9 rfl (lv_at hl 2 rfl) ?_
  refine sg_calll hD hS hA (va_runV (As := [.int now, .int price]) (rest := [.long ((price - (v 2))).toInt64]) ⟨hx, hb, hml, hown, hts⟩ (c_X0_payEach l D Y _ _ n a v now price h0) (cwV 2 hts gX0_gainEach_X0_payEach rfl rfl rfl (by decide +kernel) ⟨Nat.le_of_ble_eq_true rfl, Nat.le_of_ble_eq_true rfl⟩) (sg_preV (q := (RX0, TX0, 7)) (h0) rfl hK hP hD hN hX hS hA) rfl rfl hl.1 rfl (lv_room (Nat.le_of_ble_eq_true rfl)) dX0_gainEach_10 ⟨Nat.le_of_ble_eq_true rfl, Nat.le_of_ble_eq_true rfl⟩) (fun r10 σ' H locs hw hP hD hS => ?_)
  obtain ⟨rfl, rfl⟩ := hw
  refine lv_lsub hx hb dX0_gainEach_13 ?_
  exact sg_lret hx hb hr hlocks hP hD hS (Nat.le_of_ble_eq_true rfl) (Nat.le_of_ble_eq_true rfl) dX0_gainEach_14 (⟨rfl, rfl⟩)

theorem wi_X0_init_X0 : ∀ w ∈ wsX00, w ∈ wsX0_init := by decide +kernel
set_option maxHeartbeats 4000000 in
set_option maxRecDepth 100000 in
theorem c_X0_init (l : Launch) (D : va_G) (Y : Nat → ClassId) (σ : sg_W) (sz : Nat) (n a : Nat) (a1 a2 a3 a4 a5 a6 : Int32) (h0 : σ n = some (a, .inr (0, lotF (fun _ => 0)))) : Met l yX0_init wsX0_init ({ frames := 1, cells := 0, slots := 0, locals := 12 } : Room) (va_Pc [.ref a, .int a1, .int a2, .int a3, .int a4, .int a5, .int a6] (sg_U D Y σ sz)) (va_Qv (fun σ' => σ' n = some (a, .inr (0, [.int a1, .int a2, .int a3, .int a4, .int a5, .int a6, .int a6])) ∧ ∀ j, j ≠ n → σ' j = σ j) (sg_B D σ sz) (sg_A σ sz)) 0 0 (sg_A σ sz) := by
  refine sg_met (cc := cX0_init) (maxL := 7) (ret := none) (by decide) rfl (Nat.le_of_ble_eq_true rfl) ?_
  intro p e s m below meth cd9 ls hx hb hml hr hown hts hlocks hnm hP hK hD hN hX hA hS hsz hl
  have hl : lv_has ls 7 [(0, .ref a), (1, .int a1), (2, .int a2), (3, .int a3), (4, .int a4), (5, .int a5), (6, .int a6)] := hl
  refine lv_aload_n hx hb dX0_init_0 rfl (lv_at hl 0 rfl) ?_
  refine W.objInit hx hb hown (hts (.methodLink RX0 3 objectInit) (by decide +kernel)) (hts (.instanceMethod objectInit) (by decide +kernel)) (hts (.code objectInit ⟨#[0xb1]⟩ 1 none) (by decide +kernel)) rfl (by rw [hml]; exact hl.1) rfl dX0_init_1 (Nat.le_of_ble_eq_true rfl) (Nat.le_of_ble_eq_true rfl) ?_
  refine W.eq (g2 := F0 m 4 ls []) rfl ?_
  refine lv_aload_n hx hb dX0_init_4 rfl (lv_at hl 0 rfl) ?_
  refine lv_iload_n hx hb dX0_init_5 rfl (lv_at hl 1 rfl) ?_
  refine sg_putF (ref := RX0) (ty := .int) (v := .int a1) hx hb hts wi_X0_init_X0 tyX0 tyX0_ok nmX0 hown hK hP hD hS (h0) rfl 0 (by decide) (hts (.fieldLink RX0 9 RX0 "month" "I") (by decide +kernel)) (fun _ h => h) rfl hnm rfl (by decide +kernel) rfl rfl (Nat.le_of_ble_eq_true rfl) dX0_init_6 (fun H locs hP hD hS => ?_)
  refine lv_aload_n hx hb dX0_init_9 rfl (lv_at hl 0 rfl) ?_
  refine lv_iload_n hx hb dX0_init_10 rfl (lv_at hl 2 rfl) ?_
  refine sg_putF (ref := RX0) (ty := .int) (v := .int a2) hx hb hts wi_X0_init_X0 tyX0 tyX0_ok nmX0 hown hK hP hD hS (sg_ue) rfl 1 (by decide) (hts (.fieldLink RX0 15 RX0 "monthPrice" "I") (by decide +kernel)) (fun _ h => h) rfl hnm rfl (by decide +kernel) rfl rfl (Nat.le_of_ble_eq_true rfl) dX0_init_11 (fun H locs hP hD hS => ?_)
  refine lv_aload_n hx hb dX0_init_14 rfl (lv_at hl 0 rfl) ?_
  refine lv_iload_n hx hb dX0_init_15 rfl (lv_at hl 3 rfl) ?_
  refine sg_putF (ref := RX0) (ty := .int) (v := .int a3) hx hb hts wi_X0_init_X0 tyX0 tyX0_ok nmX0 hown hK hP hD hS (sg_ue) rfl 2 (by decide) (hts (.fieldLink RX0 18 RX0 "paidEach" "I") (by decide +kernel)) (fun _ h => h) rfl hnm rfl (by decide +kernel) rfl rfl (Nat.le_of_ble_eq_true rfl) dX0_init_16 (fun H locs hP hD hS => ?_)
  refine lv_aload_n hx hb dX0_init_19 rfl (lv_at hl 0 rfl) ?_
  refine lv_iload hx hb dX0_init_20 (lv_at hl 4 rfl) ?_
  refine sg_putF (ref := RX0) (ty := .int) (v := .int a4) hx hb hts wi_X0_init_X0 tyX0 tyX0_ok nmX0 hown hK hP hD hS (sg_ue) rfl 3 (by decide) (hts (.fieldLink RX0 21 RX0 "offerMonth" "I") (by decide +kernel)) (fun _ h => h) rfl hnm rfl (by decide +kernel) rfl rfl (Nat.le_of_ble_eq_true rfl) dX0_init_22 (fun H locs hP hD hS => ?_)
  refine lv_aload_n hx hb dX0_init_25 rfl (lv_at hl 0 rfl) ?_
  refine lv_iload hx hb dX0_init_26 (lv_at hl 5 rfl) ?_
  refine sg_putF (ref := RX0) (ty := .int) (v := .int a5) hx hb hts wi_X0_init_X0 tyX0 tyX0_ok nmX0 hown hK hP hD hS (sg_ue) rfl 4 (by decide) (hts (.fieldLink RX0 24 RX0 "offerPrice" "I") (by decide +kernel)) (fun _ h => h) rfl hnm rfl (by decide +kernel) rfl rfl (Nat.le_of_ble_eq_true rfl) dX0_init_28 (fun H locs hP hD hS => ?_)
  refine lv_aload_n hx hb dX0_init_31 rfl (lv_at hl 0 rfl) ?_
  refine lv_iload hx hb dX0_init_32 (lv_at hl 6 rfl) ?_
  refine sg_putF (ref := RX0) (ty := .int) (v := .int a6) hx hb hts wi_X0_init_X0 tyX0 tyX0_ok nmX0 hown hK hP hD hS (sg_ue) rfl 5 (by decide) (hts (.fieldLink RX0 27 RX0 "bought" "I") (by decide +kernel)) (fun _ h => h) rfl hnm rfl (by decide +kernel) rfl rfl (Nat.le_of_ble_eq_true rfl) dX0_init_34 (fun H locs hP hD hS => ?_)
  refine lv_aload_n hx hb dX0_init_37 rfl (lv_at hl 0 rfl) ?_
  refine lv_iload hx hb dX0_init_38 (lv_at hl 6 rfl) ?_
  refine sg_put (ref := RX0) (ty := .int) (v := .int a6) hx hb hts wi_X0_init_X0 tyX0 tyX0_ok nmX0 hown hK hP hD hS (sg_ue) rfl 6 (by decide) (hts (.fieldLink RX0 30 RX0 "left" "I") (by decide +kernel)) (fun _ h => h) rfl (by decide +kernel) rfl rfl (Nat.le_of_ble_eq_true rfl) dX0_init_40 (fun H locs hP hD hS => ?_)
  exact sg_vret hx hb hr hlocks hP hD hS (Nat.le_of_ble_eq_true rfl) (Nat.le_of_ble_eq_true rfl) dX0_init_43 (⟨by rw [sg_ue]; rfl, fun j hj => by simp only [sg_un hj]⟩)
