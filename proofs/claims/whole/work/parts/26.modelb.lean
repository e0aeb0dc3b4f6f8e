theorem wi_X3_isEarly : ∀ w ∈ wsX30, w ∈ wsX3_isEarly := by decide +kernel
set_option maxHeartbeats 4000000 in
set_option maxRecDepth 100000 in
theorem c_X3_isEarly (l : Launch) (D : va_G) (Y : Nat → ClassId) (σ : sg_W) (sz : Nat) (ad : Nat → Nat) (M : MS) (q : Nat) (hq : q < 60) (hM : MW Y ad M σ) : Met l yX3_isEarly wsX3_isEarly ({ frames := 0, cells := 0, slots := 0, locals := 0 } : Room) (va_Pc [.ref (ad 0), .int (nI q)] (sg_U D Y σ sz)) (va_Qi (fun r σ' => r = eQ M q ∧ σ = σ') (sg_B D σ sz) (sg_A σ sz)) 0 0 (sg_A σ sz) := by
  refine sg_met (cc := cX3_isEarly) (maxL := 2) (ret := (some .boolean)) (by decide) rfl (Nat.le_of_ble_eq_true rfl) ?_
  intro p e s m below meth c ls hx hb hml hr hown hts hlocks hnm hP hK hD hN hX hA hS hsz hl
  have hl : lv_has ls 2 [(0, .ref (ad 0)), (1, .int (nI q))] := hl
  have hcq : (nI q).toNatClampNeg = q := nI_clamp (by omega)
  have hdq := nI_day hq
  have hdc : (nI (6 * (q % 10) + 5)).toNatClampNeg = 6 * (q % 10) + 5 := nI_clamp (by omega)
  refine lv_aload_n hx hb dX3_isEarly_0 rfl (lv_at hl 0 rfl) ?_
  refine va_get (ref := RX3) (v := .int (sS M 0)) hx hb hts wi_X3_isEarly hown hK (sg_one hP (hM.1 0 rfl)) 0 rfl rfl 0 (by decide) (hts (.fieldLink RX3 9 RX3 "month" "I") (by decide +kernel)) (fun _ h => h) rfl dX3_isEarly_1 ?_
  refine lv_aload_n hx hb dX3_isEarly_4 rfl (lv_at hl 0 rfl) ?_
  refine va_get (ref := RX3) (v := .ref (ad 18)) hx hb hts wi_X3_isEarly hown hK (sg_one hP (hM.1 0 rfl)) 0 rfl rfl 18 (by decide) (hts (.fieldLink RX3 65 RX3 "offer" "[I") (by decide +kernel)) (fun _ h => h) rfl dX3_isEarly_5 ?_
  refine lv_iload_n hx hb dX3_isEarly_8 rfl (lv_at hl 1 rfl) ?_
  refine va_iald hx hb hK (sg_one hP (hM.1 18 rfl)) 0 0 rfl rfl (vp_in_nI hq (by decide)) dX3_isEarly_9 ?_
  refine lv_isub hx hb dX3_isEarly_10 ?_
  refine lv_bipush (v := 24) hx hb dX3_isEarly_11 (by decide) ?_
  refine lv_icmp_lt (tgt := 35) hx hb dX3_isEarly_13 (by decide) (fun c13 => ?_) (fun c13 => ?_)
  · skip
    refine lv_iconst (v := 1) hx hb dX3_isEarly_35 (by decide) ?_
    refine lv_goto (tgt := 40) hx hb dX3_isEarly_36 (by decide) ?_
    exact sg_iret hx hb hr rfl hlocks hP hD hS (Nat.le_of_ble_eq_true rfl) (Nat.le_of_ble_eq_true rfl) dX3_isEarly_40 (⟨by grind [eQ, bI], rfl⟩)
  · skip
    refine lv_aload_n hx hb dX3_isEarly_16 rfl (lv_at hl 0 rfl) ?_
    refine va_get (ref := RX3) (v := .int (sS M 0)) hx hb hts wi_X3_isEarly hown hK (sg_one hP (hM.1 0 rfl)) 0 rfl rfl 0 (by decide) (hts (.fieldLink RX3 9 RX3 "month" "I") (by decide +kernel)) (fun _ h => h) rfl dX3_isEarly_17 ?_
    refine lv_bipush (v := 6) hx hb dX3_isEarly_20 (by decide) ?_
    refine lv_iload_n hx hb dX3_isEarly_22 rfl (lv_at hl 1 rfl) ?_
    refine lv_bipush (v := 10) hx hb dX3_isEarly_23 (by decide) ?_
    refine lv_irem hx hb dX3_isEarly_25 (by decide) ?_
    refine lv_imul hx hb dX3_isEarly_26 ?_
    refine lv_iconst (v := 5) hx hb dX3_isEarly_27 (by decide) ?_
    refine lv_iadd hx hb dX3_isEarly_28 ?_
    refine lv_isub hx hb dX3_isEarly_29 ?_
    refine lv_bipush (v := 12) hx hb dX3_isEarly_30 (by decide) ?_
    refine lv_icmp_ge (tgt := 39) hx hb dX3_isEarly_32 (by decide) (fun c32 => ?_) (fun c32 => ?_)
    · skip
      refine lv_iconst (v := 0) hx hb dX3_isEarly_39 (by decide) ?_
      exact sg_iret hx hb hr rfl hlocks hP hD hS (Nat.le_of_ble_eq_true rfl) (Nat.le_of_ble_eq_true rfl) dX3_isEarly_40 (⟨by grind [eQ, bI], rfl⟩)
    · skip
      refine lv_iconst (v := 1) hx hb dX3_isEarly_35 (by decide) ?_
      refine lv_goto (tgt := 40) hx hb dX3_isEarly_36 (by decide) ?_
      exact sg_iret hx hb hr rfl hlocks hP hD hS (Nat.le_of_ble_eq_true rfl) (Nat.le_of_ble_eq_true rfl) dX3_isEarly_40 (⟨by grind [eQ, bI], rfl⟩)

theorem wi_X3_payOf : ∀ w ∈ wsX30, w ∈ wsX3_payOf := by decide +kernel
set_option maxHeartbeats 4000000 in
set_option maxRecDepth 100000 in
theorem c_X3_payOf (l : Launch) (D : va_G) (Y : Nat → ClassId) (σ : sg_W) (sz : Nat) (ad : Nat → Nat) (M : MS) (q : Nat) (hq : q < 60) (ho : vp_in (sI M 18 q) 60) (hm : vp_in (sS M 0) 60) (hM : MW Y ad M σ) : Met l yX3_payOf wsX3_payOf ({ frames := 1, cells := 0, slots := 0, locals := 21 } : Room) (va_Pc [.ref (ad 0), .int (nI q)] (sg_U D Y σ sz)) (va_Qi (fun r σ' => r = pq M q ∧ σ = σ') (sg_B D σ sz) (sg_A σ sz)) 0 0 (sg_A σ sz) := by
  refine sg_met (cc := cX3_payOf) (maxL := 5) (ret := (some .int)) (by decide) rfl (Nat.le_of_ble_eq_true rfl) ?_
  intro p e s m below meth c ls hx hb hml hr hown hts hlocks hnm hP hK hD hN hX hA hS hsz hl
  have hl : lv_has ls 5 [(0, .ref (ad 0)), (1, .int (nI q))] := hl
  have hcq : (nI q).toNatClampNeg = q := nI_clamp (by omega)
  have hdq := nI_day hq
  have hdc : (nI (6 * (q % 10) + 5)).toNatClampNeg = 6 * (q % 10) + 5 := nI_clamp (by omega)
  refine lv_aload_n hx hb dX3_payOf_0 rfl (lv_at hl 0 rfl) ?_
  refine lv_iload_n hx hb dX3_payOf_1 rfl (lv_at hl 1 rfl) ?_
  refine sg_calli hD hS hA (va_runV (As := [.int (nI q)]) (rest := []) ⟨hx, hb, hml, hown, hts⟩ (c_X3_isEarly l D Y _ _ ad M q hq hM.self) (cwV 1 hts gX3_payOf_X3_isEarly rfl rfl rfl (by decide +kernel) ⟨Nat.le_of_ble_eq_true rfl, Nat.le_of_ble_eq_true rfl⟩) (sg_preV (q := (RX3, TX3, 20)) (hM.1 0 rfl) rfl hK hP hD hN hX hS hA) rfl rfl hl.1 rfl (lv_room (Nat.le_of_ble_eq_true rfl)) dX3_payOf_2 ⟨Nat.le_of_ble_eq_true rfl, Nat.le_of_ble_eq_true rfl⟩) (fun r2 σ' H locs hw hP hD hS => ?_)
  obtain ⟨er2, rfl⟩ := hw
  refine lv_if_eq (tgt := 30) hx hb dX3_payOf_5 (by decide) (fun c5 => ?_) (fun c5 => ?_)
  · skip
    refine lv_aload_n hx hb dX3_payOf_30 rfl (lv_at hl 0 rfl) ?_
    refine va_get (ref := RX3) (v := .ref (ad 1)) hx hb hts wi_X3_payOf hown hK (sg_one hP (hM.1 0 rfl)) 0 rfl rfl 1 (by decide) (hts (.fieldLink RX3 13 RX3 "price" "[I") (by decide +kernel)) (fun _ h => h) rfl dX3_payOf_31 ?_
    refine lv_aload_n hx hb dX3_payOf_34 rfl (lv_at hl 0 rfl) ?_
    refine va_get (ref := RX3) (v := .int (sS M 0)) hx hb hts wi_X3_payOf hown hK (sg_one hP (hM.1 0 rfl)) 0 rfl rfl 0 (by decide) (hts (.fieldLink RX3 9 RX3 "month" "I") (by decide +kernel)) (fun _ h => h) rfl dX3_payOf_35 ?_
    refine va_iald hx hb hK (sg_one hP (hM.1 1 rfl)) 0 0 rfl rfl (hm) dX3_payOf_38 ?_
    refine lv_aload_n hx hb dX3_payOf_39 rfl (lv_at hl 0 rfl) ?_
    refine va_get (ref := RX3) (v := .ref (ad 17)) hx hb hts wi_X3_payOf hown hK (sg_one hP (hM.1 0 rfl)) 0 rfl rfl 17 (by decide) (hts (.fieldLink RX3 62 RX3 "paid" "[I") (by decide +kernel)) (fun _ h => h) rfl dX3_payOf_40 ?_
    refine lv_iload_n hx hb dX3_payOf_43 rfl (lv_at hl 1 rfl) ?_
    refine va_iald hx hb hK (sg_one hP (hM.1 17 rfl)) 0 0 rfl rfl (vp_in_nI hq (by decide)) dX3_payOf_44 ?_
    refine lv_isub hx hb dX3_payOf_45 ?_
    refine lv_topi (fun v46 ev46 => ?_)
    refine lv_istore_n (lv' := [(2, .int v46), (0, .ref (ad 0)), (1, .int (nI q))]) hx hb dX3_payOf_46 rfl hl (by decide) rfl (fun ls hl => ?_)
    refine lv_bipush (v := 15) hx hb dX3_payOf_47 (by decide) ?_
    refine lv_aload_n hx hb dX3_payOf_49 rfl (lv_at hl 1 rfl) ?_
    refine va_get (ref := RX3) (v := .ref (ad 1)) hx hb hts wi_X3_payOf hown hK (sg_one hP (hM.1 0 rfl)) 0 rfl rfl 1 (by decide) (hts (.fieldLink RX3 13 RX3 "price" "[I") (by decide +kernel)) (fun _ h => h) rfl dX3_payOf_50 ?_
    refine lv_aload_n hx hb dX3_payOf_53 rfl (lv_at hl 1 rfl) ?_
    refine va_get (ref := RX3) (v := .ref (ad 18)) hx hb hts wi_X3_payOf hown hK (sg_one hP (hM.1 0 rfl)) 0 rfl rfl 18 (by decide) (hts (.fieldLink RX3 65 RX3 "offer" "[I") (by decide +kernel)) (fun _ h => h) rfl dX3_payOf_54 ?_
    refine lv_iload_n hx hb dX3_payOf_57 rfl (lv_at hl 2 rfl) ?_
    refine va_iald hx hb hK (sg_one hP (hM.1 18 rfl)) 0 0 rfl rfl (vp_in_nI hq (by decide)) dX3_payOf_58 ?_
    refine va_iald hx hb hK (sg_one hP (hM.1 1 rfl)) 0 0 rfl rfl (by rw [nI_clamp (by omega)]; exact ho) dX3_payOf_59 ?_
    refine lv_imul hx hb dX3_payOf_60 ?_
    refine lv_bipush (v := 100) hx hb dX3_payOf_61 (by decide) ?_
    refine lv_idiv hx hb dX3_payOf_63 (by decide) ?_
    refine lv_topi (fun v64 ev64 => ?_)
    refine lv_istore_n (lv' := [(3, .int v64), (2, .int v46), (0, .ref (ad 0)), (1, .int (nI q))]) hx hb dX3_payOf_64 rfl hl (by decide) rfl (fun ls hl => ?_)
    refine lv_iload_n hx hb dX3_payOf_65 rfl (lv_at hl 0 rfl) ?_
    refine lv_iload_n hx hb dX3_payOf_66 rfl (lv_at hl 1 rfl) ?_
    refine lv_icmp_ge (tgt := 74) hx hb dX3_payOf_67 (by decide) (fun c67 => ?_) (fun c67 => ?_)
    · skip
      refine lv_iload_n hx hb dX3_payOf_74 rfl (lv_at hl 1 rfl) ?_
      refine lv_istore (lv' := [(4, .int v46), (3, .int v64), (2, .int v46), (0, .ref (ad 0)), (1, .int (nI q))]) hx hb dX3_payOf_75 hl (by decide) rfl (fun ls hl => ?_)
      refine lv_iload hx hb dX3_payOf_77 (lv_at hl 0 rfl) ?_
      refine lv_if_ge (tgt := 86) hx hb dX3_payOf_79 (by decide) (fun c79 => ?_) (fun c79 => ?_)
      · skip
        refine lv_iload hx hb dX3_payOf_86 (lv_at hl 0 rfl) ?_
        exact sg_iret hx hb hr rfl hlocks hP hD hS (Nat.le_of_ble_eq_true rfl) (Nat.le_of_ble_eq_true rfl) dX3_payOf_88 (⟨by grind [pq, eQ_01, Int32.not_le, Int32.not_lt], rfl⟩)
      · skip
        refine lv_iconst (v := 0) hx hb dX3_payOf_82 (by decide) ?_
        refine lv_goto (tgt := 88) hx hb dX3_payOf_83 (by decide) ?_
        exact sg_iret hx hb hr rfl hlocks hP hD hS (Nat.le_of_ble_eq_true rfl) (Nat.le_of_ble_eq_true rfl) dX3_payOf_88 (⟨by grind [pq, eQ_01, Int32.not_le, Int32.not_lt], rfl⟩)
    · skip
      refine lv_iload_n hx hb dX3_payOf_70 rfl (lv_at hl 0 rfl) ?_
      refine lv_goto (tgt := 75) hx hb dX3_payOf_71 (by decide) ?_
      refine lv_istore (lv' := [(4, .int v64), (3, .int v64), (2, .int v46), (0, .ref (ad 0)), (1, .int (nI q))]) hx hb dX3_payOf_75 hl (by decide) rfl (fun ls hl => ?_)
      refine lv_iload hx hb dX3_payOf_77 (lv_at hl 0 rfl) ?_
      refine lv_if_ge (tgt := 86) hx hb dX3_payOf_79 (by decide) (fun c79 => ?_) (fun c79 => ?_)
      · skip
        refine lv_iload hx hb dX3_payOf_86 (lv_at hl 0 rfl) ?_
        exact sg_iret hx hb hr rfl hlocks hP hD hS (Nat.le_of_ble_eq_true rfl) (Nat.le_of_ble_eq_true rfl) dX3_payOf_88 (⟨by grind [pq, eQ_01, Int32.not_le, Int32.not_lt], rfl⟩)
      · skip
        refine lv_iconst (v := 0) hx hb dX3_payOf_82 (by decide) ?_
        refine lv_goto (tgt := 88) hx hb dX3_payOf_83 (by decide) ?_
        exact sg_iret hx hb hr rfl hlocks hP hD hS (Nat.le_of_ble_eq_true rfl) (Nat.le_of_ble_eq_true rfl) dX3_payOf_88 (⟨by grind [pq, eQ_01, Int32.not_le, Int32.not_lt], rfl⟩)
  · skip
    refine lv_aload_n hx hb dX3_payOf_8 rfl (lv_at hl 0 rfl) ?_
    refine va_get (ref := RX3) (v := .ref (ad 1)) hx hb hts wi_X3_payOf hown hK (sg_one hP (hM.1 0 rfl)) 0 rfl rfl 1 (by decide) (hts (.fieldLink RX3 13 RX3 "price" "[I") (by decide +kernel)) (fun _ h => h) rfl dX3_payOf_9 ?_
    refine lv_bipush (v := 6) hx hb dX3_payOf_12 (by decide) ?_
    refine lv_iload_n hx hb dX3_payOf_14 rfl (lv_at hl 1 rfl) ?_
    refine lv_bipush (v := 10) hx hb dX3_payOf_15 (by decide) ?_
    refine lv_irem hx hb dX3_payOf_17 (by decide) ?_
    refine lv_imul hx hb dX3_payOf_18 ?_
    refine lv_iconst (v := 5) hx hb dX3_payOf_19 (by decide) ?_
    refine lv_iadd hx hb dX3_payOf_20 ?_
    refine va_iald hx hb hK (sg_one hP (hM.1 1 rfl)) 0 0 rfl rfl (by rw [nI_day hq]; exact vp_in_nI (by omega) (by decide)) dX3_payOf_21 ?_
    refine lv_aload_n hx hb dX3_payOf_22 rfl (lv_at hl 0 rfl) ?_
    refine va_get (ref := RX3) (v := .ref (ad 17)) hx hb hts wi_X3_payOf hown hK (sg_one hP (hM.1 0 rfl)) 0 rfl rfl 17 (by decide) (hts (.fieldLink RX3 62 RX3 "paid" "[I") (by decide +kernel)) (fun _ h => h) rfl dX3_payOf_23 ?_
    refine lv_iload_n hx hb dX3_payOf_26 rfl (lv_at hl 1 rfl) ?_
    refine va_iald hx hb hK (sg_one hP (hM.1 17 rfl)) 0 0 rfl rfl (vp_in_nI hq (by decide)) dX3_payOf_27 ?_
    refine lv_isub hx hb dX3_payOf_28 ?_
    exact sg_iret hx hb hr rfl hlocks hP hD hS (Nat.le_of_ble_eq_true rfl) (Nat.le_of_ble_eq_true rfl) dX3_payOf_29 (⟨by grind [pq, eQ_01, Int32.not_le, Int32.not_lt], rfl⟩)

theorem wi_X3_gainOf : ∀ w ∈ wsX30, w ∈ wsX3_gainOf := by decide +kernel
set_option maxHeartbeats 4000000 in
set_option maxRecDepth 100000 in
theorem c_X3_gainOf (l : Launch) (D : va_G) (Y : Nat → ClassId) (σ : sg_W) (sz : Nat) (ad : Nat → Nat) (M : MS) (q : Nat) (x : Int32) (hq : q < 60) (ho : vp_in (sI M 18 q) 60) (hm : vp_in (sS M 0) 60) (hM : MW Y ad M σ) : Met l yX3_gainOf wsX3_gainOf ({ frames := 2, cells := 0, slots := 0, locals := 45 } : Room) (va_Pc [.ref (ad 0), .int (nI q), .int x] (sg_U D Y σ sz)) (va_Ql (fun r σ' => r = gq M q x ∧ σ = σ') (sg_B D σ sz) (sg_A σ sz)) 0 0 (sg_A σ sz) := by
  refine sg_met (cc := cX3_gainOf) (maxL := 3) (ret := (some .long)) (by decide) rfl (Nat.le_of_ble_eq_true rfl) ?_
  intro p e s m below meth c ls hx hb hml hr hown hts hlocks hnm hP hK hD hN hX hA hS hsz hl
  have hl : lv_has ls 3 [(0, .ref (ad 0)), (1, .int (nI q)), (2, .int x)] := hl
  have hcq : (nI q).toNatClampNeg = q := nI_clamp (by omega)
  have hdq := nI_day hq
  have hdc : (nI (6 * (q % 10) + 5)).toNatClampNeg = 6 * (q % 10) + 5 := nI_clamp (by omega)
  refine lv_iload_n hx hb dX3_gainOf_0 rfl (lv_at hl 2 rfl) ?_
  refine lv_i2l hx hb dX3_gainOf_1 rfl ?_
  refine lv_aload_n hx hb dX3_gainOf_2 rfl (lv_at hl 0 rfl) ?_
  refine va_get (ref := RX3) (v := .ref (ad 1)) hx hb hts wi_X3_gainOf hown hK (sg_one hP (hM.1 0 rfl)) 0 rfl rfl 1 (by decide) (hts (.fieldLink RX3 13 RX3 "price" "[I") (by decide +kernel)) (fun _ h => h) rfl dX3_gainOf_3 ?_
  refine lv_aload_n hx hb dX3_gainOf_6 rfl (lv_at hl 0 rfl) ?_
  refine va_get (ref := RX3) (v := .int (sS M 0)) hx hb hts wi_X3_gainOf hown hK (sg_one hP (hM.1 0 rfl)) 0 rfl rfl 0 (by decide) (hts (.fieldLink RX3 9 RX3 "month" "I") (by decide +kernel)) (fun _ h => h) rfl dX3_gainOf_7 ?_
  refine va_iald hx hb hK (sg_one hP (hM.1 1 rfl)) 0 0 rfl rfl (hm) dX3_gainOf_10 ?_
  refine lv_aload_n hx hb dX3_gainOf_11 rfl (lv_at hl 0 rfl) ?_
  refine va_get (ref := RX3) (v := .ref (ad 17)) hx hb hts wi_X3_gainOf hown hK (sg_one hP (hM.1 0 rfl)) 0 rfl rfl 17 (by decide) (hts (.fieldLink RX3 62 RX3 "paid" "[I") (by decide +kernel)) (fun _ h => h) rfl dX3_gainOf_12 ?_
  refine lv_iload_n hx hb dX3_gainOf_15 rfl (lv_at hl 1 rfl) ?_
  refine va_iald hx hb hK (sg_one hP (hM.1 17 rfl)) 0 0 rfl rfl (vp_in_nI hq (by decide)) dX3_gainOf_16 ?_
  refine lv_isub hx hb dX3_gainOf_17 ?_
  refine lv_aload_n hx hb dX3_gainOf_18 rfl (lv_at hl 0 rfl) ?_
  refine lv_iload_n hx hb dX3_gainOf_19 rfl (lv_at hl 1 rfl) ?_
  refine sg_calli hD hS hA (va_runV (As := [.int (nI q)]) (rest := [.int ((sI M 1 ((sS M 0)).toNatClampNeg) - (sI M 17 ((nI q)).toNatClampNeg)), .long x.toInt64]) ⟨hx, hb, hml, hown, hts⟩ (c_X3_payOf l D Y _ _ ad M q hq ho hm hM.self) (cwV 1 hts gX3_gainOf_X3_payOf rfl rfl rfl (by decide +kernel) ⟨Nat.le_of_ble_eq_true rfl, Nat.le_of_ble_eq_true rfl⟩) (sg_preV (q := (RX3, TX3, 20)) (hM.1 0 rfl) rfl hK hP hD hN hX hS hA) rfl rfl hl.1 rfl (lv_room (Nat.le_of_ble_eq_true rfl)) dX3_gainOf_20 ⟨Nat.le_of_ble_eq_true rfl, Nat.le_of_ble_eq_true rfl⟩) (fun r20 σ' H locs hw hP hD hS => ?_)
  obtain ⟨er20, rfl⟩ := hw
  refine lv_isub hx hb dX3_gainOf_23 ?_
  refine lv_i2l hx hb dX3_gainOf_24 rfl ?_
  refine lv_lmul hx hb dX3_gainOf_25 ?_
  exact sg_lret hx hb hr hlocks hP hD hS (Nat.le_of_ble_eq_true rfl) (Nat.le_of_ble_eq_true rfl) dX3_gainOf_26 (⟨by grind [gq], rfl⟩)

theorem wi_X3_countedIn : ∀ w ∈ wsX30, w ∈ wsX3_countedIn := by decide +kernel
set_option maxHeartbeats 4000000 in
set_option maxRecDepth 100000 in
theorem c_X3_countedIn (l : Launch) (D : va_G) (Y : Nat → ClassId) (σ : sg_W) (sz : Nat) (ad : Nat → Nat) (M : MS) (j y : Nat) (hj : j < 6) (hy : y < 5) (ho : ∀ k, k < 60 → vp_in (sI M 18 k) 60) (hM : MW Y ad M σ) : Met l yX3_countedIn wsX3_countedIn ({ frames := 0, cells := 0, slots := 0, locals := 0 } : Room) (va_Pc [.ref (ad 0), .int (nI j), .int (nI y)] (sg_U D Y σ sz)) (va_Ql (fun r σ' => r = cN M j y ∧ σ = σ') (sg_B D σ sz) (sg_A σ sz)) 0 0 (sg_A σ sz) := by
  refine sg_met (cc := cX3_countedIn) (maxL := 6) (ret := (some .long)) (by decide) rfl (Nat.le_of_ble_eq_true rfl) ?_
  intro p e s m below meth c ls hx hb hml hr hown hts hlocks hnm hP hK hD hN hX hA hS hsz hl
  have hl : lv_has ls 6 [(0, .ref (ad 0)), (1, .int (nI j)), (2, .int (nI y))] := hl
  have h10 : 10 * nI j = nI (10 * j) := pk_mul 10 j
  have h1010 : nI (10 * j) + 10 = nI (10 * j + 10) := nI_add _ 10
  have h2 : 2 * nI y = nI (2 * y) := pk_mul 2 y
  have h22 : nI (2 * y) + 2 = nI (2 * y + 2) := nI_add _ 2
  have g1 : (nI (10 * j + 2 * y)).toNatClampNeg = 10 * j + 2 * y := nI_clamp (by omega)
  have g2 : (nI (10 * j + (2 * y + 1))).toNatClampNeg = 10 * j + (2 * y + 1) := nI_clamp (by omega)
  have g3 : nI (10 * j) + nI (2 * y) = nI (10 * j + 2 * y) := nI_add _ _
  have g4 : nI (10 * j) + nI (2 * y + 1) = nI (10 * j + (2 * y + 1)) := nI_add _ _
  refine lv_lconst (v := 0) hx hb dX3_countedIn_0 (by decide) ?_
  refine lv_lstore_n (lv' := [(3, .long 0), (0, .ref (ad 0)), (1, .int (nI j)), (2, .int (nI y))]) hx hb dX3_countedIn_1 rfl hl (by decide) rfl (fun ls hl => ?_)
  refine lv_iconst (v := 2) hx hb dX3_countedIn_2 (by decide) ?_
  refine lv_iload_n hx hb dX3_countedIn_3 rfl (lv_at hl 3 rfl) ?_
  refine lv_imul hx hb dX3_countedIn_4 ?_
  refine lv_topi (fun v5 ev5 => ?_)
  obtain rfl : v5 = nI (2 * y) := by rw [ev5, h2]
  refine lv_istore (lv' := [(5, .int (nI (2 * y))), (3, .long 0), (0, .ref (ad 0)), (1, .int (nI j)), (2, .int (nI y))]) hx hb dX3_countedIn_5 hl (by decide) rfl (fun ls hl => ?_)
  refine lv_iload hx hb dX3_countedIn_7 (lv_at hl 0 rfl) ?_
  refine lv_iconst (v := 2) hx hb dX3_countedIn_9 (by decide) ?_
  refine lv_iload_n hx hb dX3_countedIn_10 rfl (lv_at hl 4 rfl) ?_
  refine lv_imul hx hb dX3_countedIn_11 ?_
  refine lv_iconst (v := 2) hx hb dX3_countedIn_12 (by decide) ?_
  refine lv_iadd hx hb dX3_countedIn_13 ?_
  refine lv_icmp_ge (tgt := 58) hx hb dX3_countedIn_14 (by decide) (fun c14 => ?_) (fun c14 => ?_)
  · exact absurd c14 (by rw [h2, h22]; exact nI_ge (by omega) (by omega))
  · skip
    refine lv_lload_n hx hb dX3_countedIn_17 rfl (lv_at hl 1 rfl) ?_
    refine lv_aload_n hx hb dX3_countedIn_18 rfl (lv_at hl 2 rfl) ?_
    refine va_get (ref := RX3) (v := .ref (ad 15)) hx hb hts wi_X3_countedIn hown hK (sg_one hP (hM.1 0 rfl)) 0 rfl rfl 15 (by decide) (hts (.fieldLink RX3 56 RX3 "bought" "[I") (by decide +kernel)) (fun _ h => h) rfl dX3_countedIn_19 ?_
    refine lv_bipush (v := 10) hx hb dX3_countedIn_22 (by decide) ?_
    refine lv_iload_n hx hb dX3_countedIn_24 rfl (lv_at hl 3 rfl) ?_
    refine lv_imul hx hb dX3_countedIn_25 ?_
    refine lv_iload hx hb dX3_countedIn_26 (lv_at hl 0 rfl) ?_
    refine lv_iadd hx hb dX3_countedIn_28 ?_
    refine va_iald hx hb hK (sg_one hP (hM.1 15 rfl)) 0 0 rfl rfl (by rw [h10, nI_add]; exact vp_in_nI (by omega) (by decide)) dX3_countedIn_29 ?_
    refine lv_i2l hx hb dX3_countedIn_30 rfl ?_
    refine lv_aload_n hx hb dX3_countedIn_31 rfl (lv_at hl 2 rfl) ?_
    refine va_get (ref := RX3) (v := .ref (ad 1)) hx hb hts wi_X3_countedIn hown hK (sg_one hP (hM.1 0 rfl)) 0 rfl rfl 1 (by decide) (hts (.fieldLink RX3 13 RX3 "price" "[I") (by decide +kernel)) (fun _ h => h) rfl dX3_countedIn_32 ?_
    refine lv_aload_n hx hb dX3_countedIn_35 rfl (lv_at hl 2 rfl) ?_
    refine va_get (ref := RX3) (v := .ref (ad 18)) hx hb hts wi_X3_countedIn hown hK (sg_one hP (hM.1 0 rfl)) 0 rfl rfl 18 (by decide) (hts (.fieldLink RX3 65 RX3 "offer" "[I") (by decide +kernel)) (fun _ h => h) rfl dX3_countedIn_36 ?_
    refine lv_bipush (v := 10) hx hb dX3_countedIn_39 (by decide) ?_
    refine lv_iload_n hx hb dX3_countedIn_41 rfl (lv_at hl 3 rfl) ?_
    refine lv_imul hx hb dX3_countedIn_42 ?_
    refine lv_iload hx hb dX3_countedIn_43 (lv_at hl 0 rfl) ?_
    refine lv_iadd hx hb dX3_countedIn_45 ?_
    refine va_iald hx hb hK (sg_one hP (hM.1 18 rfl)) 0 0 rfl rfl (by rw [h10, nI_add]; exact vp_in_nI (by omega) (by decide)) dX3_countedIn_46 ?_
    refine va_iald hx hb hK (sg_one hP (hM.1 1 rfl)) 0 0 rfl rfl (by rw [h10, nI_add, nI_clamp (by omega)]; exact ho _ (by omega)) dX3_countedIn_47 ?_
    refine lv_i2l hx hb dX3_countedIn_48 rfl ?_
    refine lv_lmul hx hb dX3_countedIn_49 ?_
    refine lv_ladd hx hb dX3_countedIn_50 ?_
    refine lv_topl (fun v51 ev51 => ?_)
    refine lv_lstore_n (lv' := [(3, .long v51), (5, .int (nI (2 * y))), (0, .ref (ad 0)), (1, .int (nI j)), (2, .int (nI y))]) hx hb dX3_countedIn_51 rfl hl (by decide) rfl (fun ls hl => ?_)
    obtain ⟨v52, ev52⟩ : ∃ zz9 : Int32, zz9 = (nI (2 * y)) + 1 := ⟨_, rfl⟩
    obtain rfl : v52 = nI (2 * y + 1) := by rw [ev52]; exact nI_1 _
    refine lv_iinc (v := (nI (2 * y + 1))) (lv' := [(5, .int (nI (2 * y + 1))), (3, .long v51), (0, .ref (ad 0)), (1, .int (nI j)), (2, .int (nI y))]) hx hb dX3_countedIn_52 hl (k := 1) rfl (nI_1 _) (by decide) rfl (fun ls hl => ?_)
    refine lv_goto (tgt := 7) hx hb dX3_countedIn_55 (by decide) ?_
    refine lv_iload hx hb dX3_countedIn_7 (lv_at hl 0 rfl) ?_
    refine lv_iconst (v := 2) hx hb dX3_countedIn_9 (by decide) ?_
    refine lv_iload_n hx hb dX3_countedIn_10 rfl (lv_at hl 4 rfl) ?_
    refine lv_imul hx hb dX3_countedIn_11 ?_
    refine lv_iconst (v := 2) hx hb dX3_countedIn_12 (by decide) ?_
    refine lv_iadd hx hb dX3_countedIn_13 ?_
    refine lv_icmp_ge (tgt := 58) hx hb dX3_countedIn_14 (by decide) (fun c14 => ?_) (fun c14 => ?_)
    · exact absurd c14 (by rw [h2, h22]; exact nI_ge (by omega) (by omega))
    · skip
      refine lv_lload_n hx hb dX3_countedIn_17 rfl (lv_at hl 1 rfl) ?_
      refine lv_aload_n hx hb dX3_countedIn_18 rfl (lv_at hl 2 rfl) ?_
      refine va_get (ref := RX3) (v := .ref (ad 15)) hx hb hts wi_X3_countedIn hown hK (sg_one hP (hM.1 0 rfl)) 0 rfl rfl 15 (by decide) (hts (.fieldLink RX3 56 RX3 "bought" "[I") (by decide +kernel)) (fun _ h => h) rfl dX3_countedIn_19 ?_
      refine lv_bipush (v := 10) hx hb dX3_countedIn_22 (by decide) ?_
      refine lv_iload_n hx hb dX3_countedIn_24 rfl (lv_at hl 3 rfl) ?_
      refine lv_imul hx hb dX3_countedIn_25 ?_
      refine lv_iload hx hb dX3_countedIn_26 (lv_at hl 0 rfl) ?_
      refine lv_iadd hx hb dX3_countedIn_28 ?_
      refine va_iald hx hb hK (sg_one hP (hM.1 15 rfl)) 0 0 rfl rfl (by rw [h10, nI_add]; exact vp_in_nI (by omega) (by decide)) dX3_countedIn_29 ?_
      refine lv_i2l hx hb dX3_countedIn_30 rfl ?_
      refine lv_aload_n hx hb dX3_countedIn_31 rfl (lv_at hl 2 rfl) ?_
      refine va_get (ref := RX3) (v := .ref (ad 1)) hx hb hts wi_X3_countedIn hown hK (sg_one hP (hM.1 0 rfl)) 0 rfl rfl 1 (by decide) (hts (.fieldLink RX3 13 RX3 "price" "[I") (by decide +kernel)) (fun _ h => h) rfl dX3_countedIn_32 ?_
      refine lv_aload_n hx hb dX3_countedIn_35 rfl (lv_at hl 2 rfl) ?_
      refine va_get (ref := RX3) (v := .ref (ad 18)) hx hb hts wi_X3_countedIn hown hK (sg_one hP (hM.1 0 rfl)) 0 rfl rfl 18 (by decide) (hts (.fieldLink RX3 65 RX3 "offer" "[I") (by decide +kernel)) (fun _ h => h) rfl dX3_countedIn_36 ?_
      refine lv_bipush (v := 10) hx hb dX3_countedIn_39 (by decide) ?_
      refine lv_iload_n hx hb dX3_countedIn_41 rfl (lv_at hl 3 rfl) ?_
      refine lv_imul hx hb dX3_countedIn_42 ?_
      refine lv_iload hx hb dX3_countedIn_43 (lv_at hl 0 rfl) ?_
      refine lv_iadd hx hb dX3_countedIn_45 ?_
      refine va_iald hx hb hK (sg_one hP (hM.1 18 rfl)) 0 0 rfl rfl (by rw [h10, nI_add]; exact vp_in_nI (by omega) (by decide)) dX3_countedIn_46 ?_
      refine va_iald hx hb hK (sg_one hP (hM.1 1 rfl)) 0 0 rfl rfl (by rw [h10, nI_add, nI_clamp (by omega)]; exact ho _ (by omega)) dX3_countedIn_47 ?_
      refine lv_i2l hx hb dX3_countedIn_48 rfl ?_
      refine lv_lmul hx hb dX3_countedIn_49 ?_
      refine lv_ladd hx hb dX3_countedIn_50 ?_
      refine lv_topl (fun v51 ev51 => ?_)
      refine lv_lstore_n (lv' := [(3, .long v51), (5, .int (nI (2 * y + 1))), (0, .ref (ad 0)), (1, .int (nI j)), (2, .int (nI y))]) hx hb dX3_countedIn_51 rfl hl (by decide) rfl (fun ls hl => ?_)
      obtain ⟨v52, ev52⟩ : ∃ zz9 : Int32, zz9 = (nI (2 * y + 1)) + 1 := ⟨_, rfl⟩
      obtain rfl : v52 = nI (2 * y + 2) := by rw [ev52]; exact nI_1 _
      refine lv_iinc (v := (nI (2 * y + 2))) (lv' := [(5, .int (nI (2 * y + 2))), (3, .long v51), (0, .ref (ad 0)), (1, .int (nI j)), (2, .int (nI y))]) hx hb dX3_countedIn_52 hl (k := 1) rfl (nI_1 _) (by decide) rfl (fun ls hl => ?_)
      refine lv_goto (tgt := 7) hx hb dX3_countedIn_55 (by decide) ?_
      refine lv_iload hx hb dX3_countedIn_7 (lv_at hl 0 rfl) ?_
      refine lv_iconst (v := 2) hx hb dX3_countedIn_9 (by decide) ?_
      refine lv_iload_n hx hb dX3_countedIn_10 rfl (lv_at hl 4 rfl) ?_
      refine lv_imul hx hb dX3_countedIn_11 ?_
      refine lv_iconst (v := 2) hx hb dX3_countedIn_12 (by decide) ?_
      refine lv_iadd hx hb dX3_countedIn_13 ?_
      refine lv_icmp_ge (tgt := 58) hx hb dX3_countedIn_14 (by decide) (fun c14 => ?_) (fun c14 => ?_)
      · skip
        refine lv_lload_n hx hb dX3_countedIn_58 rfl (lv_at hl 1 rfl) ?_
        exact sg_lret hx hb hr hlocks hP hD hS (Nat.le_of_ble_eq_true rfl) (Nat.le_of_ble_eq_true rfl) dX3_countedIn_59 (⟨by grind -ring [cN, tm], rfl⟩)
      · exact absurd (by rw [h2, h22]; exact nI_le (by omega) (by omega)) c14

theorem wi_X3_sharesOf : ∀ w ∈ wsX30, w ∈ wsX3_sharesOf := by decide +kernel
set_option maxHeartbeats 4000000 in
set_option maxRecDepth 100000 in
theorem c_X3_sharesOf (l : Launch) (D : va_G) (Y : Nat → ClassId) (σ : sg_W) (sz : Nat) (ad : Nat → Nat) (M : MS) (j : Nat) (hj : j < 6) (hM : MW Y ad M σ) : Met l yX3_sharesOf wsX3_sharesOf ({ frames := 0, cells := 0, slots := 0, locals := 0 } : Room) (va_Pc [.ref (ad 0), .int (nI j)] (sg_U D Y σ sz)) (va_Qi (fun r σ' => r = sH M j 10 ∧ σ = σ') (sg_B D σ sz) (sg_A σ sz)) 0 0 (sg_A σ sz) := by
  refine sg_met (cc := cX3_sharesOf) (maxL := 4) (ret := (some .int)) (by decide) rfl (Nat.le_of_ble_eq_true rfl) ?_
  intro p e s m below meth c ls hx hb hml hr hown hts hlocks hnm hP hK hD hN hX hA hS hsz hl
  have hl : lv_has ls 4 [(0, .ref (ad 0)), (1, .int (nI j))] := hl
  have h10 : 10 * nI j = nI (10 * j) := pk_mul 10 j
  have h1010 : nI (10 * j) + 10 = nI (10 * j + 10) := nI_add _ 10
  refine lv_iconst (v := 0) hx hb dX3_sharesOf_0 (by decide) ?_
  refine lv_istore_n (lv' := [(2, .int 0), (0, .ref (ad 0)), (1, .int (nI j))]) hx hb dX3_sharesOf_1 rfl hl (by decide) rfl (fun ls hl => ?_)
  refine lv_bipush (v := 10) hx hb dX3_sharesOf_2 (by decide) ?_
  refine lv_iload_n hx hb dX3_sharesOf_4 rfl (lv_at hl 2 rfl) ?_
  refine lv_imul hx hb dX3_sharesOf_5 ?_
  refine lv_topi (fun v6 ev6 => ?_)
  obtain rfl : v6 = nI (10 * j + 0) := by rw [ev6, h10]; rfl
  refine lv_istore_n (lv' := [(3, .int (nI (10 * j + 0))), (2, .int 0), (0, .ref (ad 0)), (1, .int (nI j))]) hx hb dX3_sharesOf_6 rfl hl (by decide) rfl (fun ls hl => ?_)
  refine sg_loop (D := D) (H0 := s.heap) (T := Nat) 7 4 (fun n t σ' c' s' => n + t = 10 ∧ σ = σ' ∧ c' = 0 ∧ s' = 0) (fun t => [(3, .int (nI (10 * j + t))), (2, .int (sH M j t)), (0, .ref (ad 0)), (1, .int (nI j))]) ?_ (10) (0) _ _ _ _ _ _ ?_ hP hD hS (lv_sub hl [0, 1, 2, 3] rfl)
  · intro n t σ' cells slots H locs ls ih hI hP hD hS hl
    obtain ⟨q, rfl⟩ : ∃ q, q = t := ⟨_, rfl⟩
    obtain ⟨hn, rfl, rfl, rfl⟩ := hI
    have hl : lv_has ls 4 [(3, .int (nI (10 * j + q))), (2, .int (sH M j q)), (0, .ref (ad 0)), (1, .int (nI j))] := hl
    refine lv_iload_n hx hb dX3_sharesOf_7 rfl (lv_at hl 0 rfl) ?_
    refine lv_bipush (v := 10) hx hb dX3_sharesOf_8 (by decide) ?_
    refine lv_iload_n hx hb dX3_sharesOf_10 rfl (lv_at hl 3 rfl) ?_
    refine lv_imul hx hb dX3_sharesOf_11 ?_
    refine lv_bipush (v := 10) hx hb dX3_sharesOf_12 (by decide) ?_
    refine lv_iadd hx hb dX3_sharesOf_14 ?_
    refine lv_icmp_ge (tgt := 33) hx hb dX3_sharesOf_15 (by decide) (fun c15 => ?_) (fun c15 => ?_)
    · skip
      rw [h10, h1010, nI_leI (by omega) (by omega)] at c15
      obtain rfl : q = 10 := by omega
      refine lv_iload_n hx hb dX3_sharesOf_33 rfl (lv_at hl 1 rfl) ?_
      exact sg_iret hx hb hr rfl hlocks hP hD hS (Nat.le_of_ble_eq_true rfl) (Nat.le_of_ble_eq_true rfl) dX3_sharesOf_34 (⟨rfl, rfl⟩)
    · skip
      rw [h10, h1010, nI_leI (by omega) (by omega)] at c15
      refine lv_iload_n hx hb dX3_sharesOf_18 rfl (lv_at hl 1 rfl) ?_
      refine lv_aload_n hx hb dX3_sharesOf_19 rfl (lv_at hl 2 rfl) ?_
      refine va_get (ref := RX3) (v := .ref (ad 16)) hx hb hts wi_X3_sharesOf hown hK (sg_one hP (hM.1 0 rfl)) 0 rfl rfl 16 (by decide) (hts (.fieldLink RX3 59 RX3 "had" "[I") (by decide +kernel)) (fun _ h => h) rfl dX3_sharesOf_20 ?_
      refine lv_iload_n hx hb dX3_sharesOf_23 rfl (lv_at hl 0 rfl) ?_
      refine va_iald hx hb hK (sg_one hP (hM.1 16 rfl)) 0 0 rfl rfl (vp_in_nI (by omega) (by decide)) dX3_sharesOf_24 ?_
      refine lv_iadd hx hb dX3_sharesOf_25 ?_
      refine lv_topi (fun v26 ev26 => ?_)
      obtain rfl : v26 = sH M j (q + 1) := by rw [ev26, nI_clamp (by omega)]; rfl
      refine lv_istore_n (lv' := [(2, .int (sH M j (q + 1))), (3, .int (nI (10 * j + q))), (0, .ref (ad 0)), (1, .int (nI j))]) hx hb dX3_sharesOf_26 rfl hl (by decide) rfl (fun ls hl => ?_)
      obtain ⟨v27, ev27⟩ : ∃ zz9 : Int32, zz9 = (nI (10 * j + q)) + 1 := ⟨_, rfl⟩
      obtain rfl : v27 = nI (10 * j + (q + 1)) := by rw [ev27]; exact nI_1 _
      refine lv_iinc (v := (nI (10 * j + (q + 1)))) (lv' := [(3, .int (nI (10 * j + (q + 1)))), (2, .int (sH M j (q + 1))), (0, .ref (ad 0)), (1, .int (nI j))]) hx hb dX3_sharesOf_27 hl (k := 1) rfl (nI_1 _) (by decide) rfl (fun ls hl => ?_)
      refine lv_goto (tgt := 7) hx hb dX3_sharesOf_30 (by decide) ?_
      exact ih (n - 1) (q + 1) _ _ _ _ _ _ (by omega) ⟨by omega, rfl, rfl, rfl⟩ hP hD hS (lv_sub hl [0, 1, 2, 3] rfl)
  · exact ⟨rfl, rfl, rfl, rfl⟩
