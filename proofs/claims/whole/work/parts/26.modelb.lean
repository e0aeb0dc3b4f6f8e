theorem wi_X3_isEarly : ∀ w ∈ wsX30, w ∈ wsX3_isEarly := by decide +kernel
set_option maxHeartbeats 4000000 in
set_option maxRecDepth 100000 in
theorem c_X3_isEarly (l : Launch) (D : va_G) (Y : Nat → ClassId) (σ : sg_W) (sz : Nat) (ad : Nat → Nat) (M : MS) (q : Nat) (hq : q < 60) (hM : MW Y ad M σ) : Met l yX3_isEarly wsX3_isEarly ({ frames := 0, cells := 0, slots := 0, locals := 0 } : Room) (va_Pc [.ref (ad 0), .int (nI q)] (sg_U D Y σ sz)) (va_Qi (fun r σ' => r = eQ M q ∧ σ = σ') (sg_B D σ sz) (sg_A σ sz)) 0 0 (sg_A σ sz) := by
  refine sg_met (cc := cX3_isEarly) (maxL := 2) (ret := (some .boolean)) (by decide) rfl (Nat.le_of_ble_eq_true rfl) ?_
  intro p e s m below meth c ls hx hb hml hr hown hts hlocks hnm hP hK hD hN hX hA hS hsz hl
  have hl : lv_has ls 2 [(0, .ref (ad 0)), (1, .int (nI q))] := hl
  have hcq : (nI q).toNatClampNeg = q := nI_clamp (by omega)
  have hdq := nI_day hq
  have hdc : (nI (6 * (q % 10) + 5)).toNatClampNeg = 6 * (q % 10) + 5 := nI_clamp (by omega)
  refine lv_aload_n hx hb dX3_isEarly_0 rfl (lv_at hl 0 rfl) ?_
  refine va_get (ref := RX3) (v := .int (sS M 0)) hx hb hts wi_X3_isEarly hown hK (sg_one hP (hM.1 0 rfl)) 0 rfl rfl 0 (by decide) (hts (.fieldLink RX3 9 RX3 "month" "I") (by decide +kernel)) (fun _ h => h) rfl dX3_isEarly_1 ?_
  refine lv_aload_n hx hb dX3_isEarly_4 rfl (lv_at hl 0 rfl) ?_
  refine va_get (ref := RX3) (v := .ref (ad 18)) hx hb hts wi_X3_isEarly hown hK (sg_one hP (hM.1 0 rfl)) 0 rfl rfl 18 (by decide) (hts (.fieldLink RX3 65 RX3 "offer" "[I") (by decide +kernel)) (fun _ h => h) rfl dX3_isEarly_5 ?_
  refine lv_iload_n hx hb dX3_isEarly_8 rfl (lv_at hl 1 rfl) ?_
  refine va_iald hx hb hK (sg_one hP (hM.1 18 rfl)) 0 0 rfl rfl (vp_in_nI hq (by decide)) dX3_isEarly_9 ?_
  refine lv_isub hx hb dX3_isEarly_10 ?_
  refine lv_bipush (v := 24) hx hb dX3_isEarly_11 (by decide) ?_
  refine lv_icmp_lt (tgt := 35) hx hb dX3_isEarly_13 (by decide) (fun c13_0 => ?_) (fun c13_0 => ?_)
  · skip
    refine lv_iconst (v := 1) hx hb dX3_isEarly_35 (by decide) ?_
    refine lv_goto (tgt := 40) hx hb dX3_isEarly_36 (by decide) ?_
    exact sg_iret hx hb hr rfl hlocks hP hD hS (Nat.le_of_ble_eq_true rfl) (Nat.le_of_ble_eq_true rfl) dX3_isEarly_40 (⟨by grind [eQ, bI], rfl⟩)
  · skip
    refine lv_aload_n hx hb dX3_isEarly_16 rfl (lv_at hl 0 rfl) ?_
    refine va_get (ref := RX3) (v := .int (sS M 0)) hx hb hts wi_X3_isEarly hown hK (sg_one hP (hM.1 0 rfl)) 0 rfl rfl 0 (by decide) (hts (.fieldLink RX3 9 RX3 "month" "I") (by decide +kernel)) (fun _ h => h) rfl dX3_isEarly_17 ?_
    refine lv_bipush (v := 6) hx hb dX3_isEarly_20 (by decide) ?_
    refine lv_iload_n hx hb dX3_isEarly_22 rfl (lv_at hl 1 rfl) ?_
    refine lv_bipush (v := 10) hx hb dX3_isEarly_23 (by decide) ?_
    refine lv_irem hx hb dX3_isEarly_25 (by decide) ?_
    refine lv_imul hx hb dX3_isEarly_26 ?_
    refine lv_iconst (v := 5) hx hb dX3_isEarly_27 (by decide) ?_
    refine lv_iadd hx hb dX3_isEarly_28 ?_
    refine lv_isub hx hb dX3_isEarly_29 ?_
    refine lv_bipush (v := 12) hx hb dX3_isEarly_30 (by decide) ?_
    refine lv_icmp_ge (tgt := 39) hx hb dX3_isEarly_32 (by decide) (fun c32_1 => ?_) (fun c32_1 => ?_)
    · skip
      refine lv_iconst (v := 0) hx hb dX3_isEarly_39 (by decide) ?_
      exact sg_iret hx hb hr rfl hlocks hP hD hS (Nat.le_of_ble_eq_true rfl) (Nat.le_of_ble_eq_true rfl) dX3_isEarly_40 (⟨by grind [eQ, bI], rfl⟩)
    · skip
      refine lv_iconst (v := 1) hx hb dX3_isEarly_35 (by decide) ?_
      refine lv_goto (tgt := 40) hx hb dX3_isEarly_36 (by decide) ?_
      exact sg_iret hx hb hr rfl hlocks hP hD hS (Nat.le_of_ble_eq_true rfl) (Nat.le_of_ble_eq_true rfl) dX3_isEarly_40 (⟨by grind [eQ, bI], rfl⟩)

theorem wi_X3_payOf : ∀ w ∈ wsX30, w ∈ wsX3_payOf := by decide +kernel
set_option maxHeartbeats 4000000 in
set_option maxRecDepth 100000 in
theorem c_X3_payOf (l : Launch) (D : va_G) (Y : Nat → ClassId) (σ : sg_W) (sz : Nat) (ad : Nat → Nat) (M : MS) (q : Nat) (hq : q < 60) (ho : vp_in (sI M 18 q) 60) (hm : vp_in (sS M 0) 60) (hM : MW Y ad M σ) : Met l yX3_payOf wsX3_payOf ({ frames := 1, cells := 0, slots := 0, locals := 21 } : Room) (va_Pc [.ref (ad 0), .int (nI q)] (sg_U D Y σ sz)) (va_Qi (fun r σ' => r = pq M q ∧ σ = σ') (sg_B D σ sz) (sg_A σ sz)) 0 0 (sg_A σ sz) := by
  refine sg_met (cc := cX3_payOf) (maxL := 5) (ret := (some .int)) (by decide) rfl (Nat.le_of_ble_eq_true rfl) ?_
  intro p e s m below meth c ls hx hb hml hr hown hts hlocks hnm hP hK hD hN hX hA hS hsz hl
  have hl : lv_has ls 5 [(0, .ref (ad 0)), (1, .int (nI q))] := hl
  have hcq : (nI q).toNatClampNeg = q := nI_clamp (by omega)
  have hdq := nI_day hq
  have hdc : (nI (6 * (q % 10) + 5)).toNatClampNeg = 6 * (q % 10) + 5 := nI_clamp (by omega)
  refine lv_aload_n hx hb dX3_payOf_0 rfl (lv_at hl 0 rfl) ?_
  refine lv_iload_n hx hb dX3_payOf_1 rfl (lv_at hl 1 rfl) ?_
  refine sg_calli hD hS hA (va_runV (As := [.int (nI q)]) (rest := []) ⟨hx, hb, hml, hown, hts⟩ (c_X3_isEarly l D Y _ _ ad M q hq hM.self) (cwV 1 hts gX3_payOf_X3_isEarly rfl rfl rfl (by decide +kernel) ⟨Nat.le_of_ble_eq_true rfl, Nat.le_of_ble_eq_true rfl⟩) (sg_preV (q := (RX3, TX3, 20)) (hM.1 0 rfl) rfl hK hP hD hN hX hS hA) rfl rfl hl.1 rfl (lv_room (Nat.le_of_ble_eq_true rfl)) dX3_payOf_2 ⟨Nat.le_of_ble_eq_true rfl, Nat.le_of_ble_eq_true rfl⟩) (fun r2_0 σ' H locs hw hP hD hS => ?_)
  obtain ⟨er2_0, rfl⟩ := hw
  refine lv_if_eq (tgt := 30) hx hb dX3_payOf_5 (by decide) (fun c5_1 => ?_) (fun c5_1 => ?_)
  · skip
    refine lv_aload_n hx hb dX3_payOf_30 rfl (lv_at hl 0 rfl) ?_
    refine va_get (ref := RX3) (v := .ref (ad 1)) hx hb hts wi_X3_payOf hown hK (sg_one hP (hM.1 0 rfl)) 0 rfl rfl 1 (by decide) (hts (.fieldLink RX3 13 RX3 "price" "[I") (by decide +kernel)) (fun _ h => h) rfl dX3_payOf_31 ?_
    refine lv_aload_n hx hb dX3_payOf_34 rfl (lv_at hl 0 rfl) ?_
    refine va_get (ref := RX3) (v := .int (sS M 0)) hx hb hts wi_X3_payOf hown hK (sg_one hP (hM.1 0 rfl)) 0 rfl rfl 0 (by decide) (hts (.fieldLink RX3 9 RX3 "month" "I") (by decide +kernel)) (fun _ h => h) rfl dX3_payOf_35 ?_
    refine va_iald hx hb hK (sg_one hP (hM.1 1 rfl)) 0 0 rfl rfl (hm) dX3_payOf_38 ?_
    refine lv_aload_n hx hb dX3_payOf_39 rfl (lv_at hl 0 rfl) ?_
    refine va_get (ref := RX3) (v := .ref (ad 17)) hx hb hts wi_X3_payOf hown hK (sg_one hP (hM.1 0 rfl)) 0 rfl rfl 17 (by decide) (hts (.fieldLink RX3 62 RX3 "paid" "[I") (by decide +kernel)) (fun _ h => h) rfl dX3_payOf_40 ?_
    refine lv_iload_n hx hb dX3_payOf_43 rfl (lv_at hl 1 rfl) ?_
    refine va_iald hx hb hK (sg_one hP (hM.1 17 rfl)) 0 0 rfl rfl (vp_in_nI hq (by decide)) dX3_payOf_44 ?_
    refine lv_isub hx hb dX3_payOf_45 ?_
    refine lv_topi (fun v46_2 ev46_2 => ?_)
    refine lv_istore_n (lv' := [(2, .int v46_2), (0, .ref (ad 0)), (1, .int (nI q))]) hx hb dX3_payOf_46 rfl hl (by decide) rfl (fun ls hl => ?_)
    refine lv_bipush (v := 15) hx hb dX3_payOf_47 (by decide) ?_
    refine lv_aload_n hx hb dX3_payOf_49 rfl (lv_at hl 1 rfl) ?_
    refine va_get (ref := RX3) (v := .ref (ad 1)) hx hb hts wi_X3_payOf hown hK (sg_one hP (hM.1 0 rfl)) 0 rfl rfl 1 (by decide) (hts (.fieldLink RX3 13 RX3 "price" "[I") (by decide +kernel)) (fun _ h => h) rfl dX3_payOf_50 ?_
    refine lv_aload_n hx hb dX3_payOf_53 rfl (lv_at hl 1 rfl) ?_
    refine va_get (ref := RX3) (v := .ref (ad 18)) hx hb hts wi_X3_payOf hown hK (sg_one hP (hM.1 0 rfl)) 0 rfl rfl 18 (by decide) (hts (.fieldLink RX3 65 RX3 "offer" "[I") (by decide +kernel)) (fun _ h => h) rfl dX3_payOf_54 ?_
    refine lv_iload_n hx hb dX3_payOf_57 rfl (lv_at hl 2 rfl) ?_
    refine va_iald hx hb hK (sg_one hP (hM.1 18 rfl)) 0 0 rfl rfl (vp_in_nI hq (by decide)) dX3_payOf_58 ?_
    refine va_iald hx hb hK (sg_one hP (hM.1 1 rfl)) 0 0 rfl rfl (by rw [nI_clamp (by omega)]; exact ho) dX3_payOf_59 ?_
    refine lv_imul hx hb dX3_payOf_60 ?_
    refine lv_bipush (v := 100) hx hb dX3_payOf_61 (by decide) ?_
    refine lv_idiv hx hb dX3_payOf_63 (by decide) ?_
    refine lv_topi (fun v64_3 ev64_3 => ?_)
    refine lv_istore_n (lv' := [(3, .int v64_3), (2, .int v46_2), (0, .ref (ad 0)), (1, .int (nI q))]) hx hb dX3_payOf_64 rfl hl (by decide) rfl (fun ls hl => ?_)
    refine lv_iload_n hx hb dX3_payOf_65 rfl (lv_at hl 0 rfl) ?_
    refine lv_iload_n hx hb dX3_payOf_66 rfl (lv_at hl 1 rfl) ?_
    refine lv_icmp_ge (tgt := 74) hx hb dX3_payOf_67 (by decide) (fun c67_4 => ?_) (fun c67_4 => ?_)
    · skip
      refine lv_iload_n hx hb dX3_payOf_74 rfl (lv_at hl 1 rfl) ?_
      refine lv_istore (lv' := [(4, .int v46_2), (3, .int v64_3), (2, .int v46_2), (0, .ref (ad 0)), (1, .int (nI q))]) hx hb dX3_payOf_75 hl (by decide) rfl (fun ls hl => ?_)
      refine lv_iload hx hb dX3_payOf_77 (lv_at hl 0 rfl) ?_
      refine lv_if_ge (tgt := 86) hx hb dX3_payOf_79 (by decide) (fun c79_5 => ?_) (fun c79_5 => ?_)
      · skip
        refine lv_iload hx hb dX3_payOf_86 (lv_at hl 0 rfl) ?_
        exact sg_iret hx hb hr rfl hlocks hP hD hS (Nat.le_of_ble_eq_true rfl) (Nat.le_of_ble_eq_true rfl) dX3_payOf_88 (⟨by grind [pq, eQ_01, Int32.not_le, Int32.not_lt], rfl⟩)
      · skip
        refine lv_iconst (v := 0) hx hb dX3_payOf_82 (by decide) ?_
        refine lv_goto (tgt := 88) hx hb dX3_payOf_83 (by decide) ?_
        exact sg_iret hx hb hr rfl hlocks hP hD hS (Nat.le_of_ble_eq_true rfl) (Nat.le_of_ble_eq_true rfl) dX3_payOf_88 (⟨by grind [pq, eQ_01, Int32.not_le, Int32.not_lt], rfl⟩)
    · skip
      refine lv_iload_n hx hb dX3_payOf_70 rfl (lv_at hl 0 rfl) ?_
      refine lv_goto (tgt := 75) hx hb dX3_payOf_71 (by decide) ?_
      refine lv_istore (lv' := [(4, .int v64_3), (3, .int v64_3), (2, .int v46_2), (0, .ref (ad 0)), (1, .int (nI q))]) hx hb dX3_payOf_75 hl (by decide) rfl (fun ls hl => ?_)
      refine lv_iload hx hb dX3_payOf_77 (lv_at hl 0 rfl) ?_
      refine lv_if_ge (tgt := 86) hx hb dX3_payOf_79 (by decide) (fun c79_6 => ?_) (fun c79_6 => ?_)
      · skip
        refine lv_iload hx hb dX3_payOf_86 (lv_at hl 0 rfl) ?_
        exact sg_iret hx hb hr rfl hlocks hP hD hS (Nat.le_of_ble_eq_true rfl) (Nat.le_of_ble_eq_true rfl) dX3_payOf_88 (⟨by grind [pq, eQ_01, Int32.not_le, Int32.not_lt], rfl⟩)
      · skip
        refine lv_iconst (v := 0) hx hb dX3_payOf_82 (by decide) ?_
        refine lv_goto (tgt := 88) hx hb dX3_payOf_83 (by decide) ?_
        exact sg_iret hx hb hr rfl hlocks hP hD hS (Nat.le_of_ble_eq_true rfl) (Nat.le_of_ble_eq_true rfl) dX3_payOf_88 (⟨by grind [pq, eQ_01, Int32.not_le, Int32.not_lt], rfl⟩)
  · skip
    refine lv_aload_n hx hb dX3_payOf_8 rfl (lv_at hl 0 rfl) ?_
    refine va_get (ref := RX3) (v := .ref (ad 1)) hx hb hts wi_X3_payOf hown hK (sg_one hP (hM.1 0 rfl)) 0 rfl rfl 1 (by decide) (hts (.fieldLink RX3 13 RX3 "price" "[I") (by decide +kernel)) (fun _ h => h) rfl dX3_payOf_9 ?_
    refine lv_bipush (v := 6) hx hb dX3_payOf_12 (by decide) ?_
    refine lv_iload_n hx hb dX3_payOf_14 rfl (lv_at hl 1 rfl) ?_
    refine lv_bipush (v := 10) hx hb dX3_payOf_15 (by decide) ?_
    refine lv_irem hx hb dX3_payOf_17 (by decide) ?_
    refine lv_imul hx hb dX3_payOf_18 ?_
    refine lv_iconst (v := 5) hx hb dX3_payOf_19 (by decide) ?_
    refine lv_iadd hx hb dX3_payOf_20 ?_
    refine va_iald hx hb hK (sg_one hP (hM.1 1 rfl)) 0 0 rfl rfl (by rw [nI_day hq]; exact vp_in_nI (by omega) (by decide)) dX3_payOf_21 ?_
    refine lv_aload_n hx hb dX3_payOf_22 rfl (lv_at hl 0 rfl) ?_
    refine va_get (ref := RX3) (v := .ref (ad 17)) hx hb hts wi_X3_payOf hown hK (sg_one hP (hM.1 0 rfl)) 0 rfl rfl 17 (by decide) (hts (.fieldLink RX3 62 RX3 "paid" "[I") (by decide +kernel)) (fun _ h => h) rfl dX3_payOf_23 ?_
    refine lv_iload_n hx hb dX3_payOf_26 rfl (lv_at hl 1 rfl) ?_
    refine va_iald hx hb hK (sg_one hP (hM.1 17 rfl)) 0 0 rfl rfl (vp_in_nI hq (by decide)) dX3_payOf_27 ?_
    refine lv_isub hx hb dX3_payOf_28 ?_
    exact sg_iret hx hb hr rfl hlocks hP hD hS (Nat.le_of_ble_eq_true rfl) (Nat.le_of_ble_eq_true rfl) dX3_payOf_29 (⟨by grind [pq, eQ_01, Int32.not_le, Int32.not_lt], rfl⟩)
