theorem vp_q {i d : Int32} (hi : vp_in i 6) (hd : qIn d 0 59) : vp_in (10 * i + d / 6) 60 := by
  obtain ⟨j, hj, rfl⟩ := vp_in_of hi (by decide)
  obtain ⟨t, ht, rfl⟩ := nI_of2 (M := 59) (n := 59) rfl (x := d) (by have := hd.1; exact Int32.not_lt.mpr this) hd.2
  rw [show (6 : Int32) = nI 6 from rfl, pk_div (by omega) (by omega) (by omega), nI_10]
  exact vp_in_nI (by omega) (by decide)
theorem vp_y {d : Int32} (hd : qIn d 0 4) : vp_in d 5 := by
  obtain ⟨t, ht, rfl⟩ := nI_of2 (M := 4) (n := 4) rfl (x := d) (by have := hd.1; exact Int32.not_lt.mpr this) hd.2
  exact vp_in_nI (by omega) (by decide)
theorem mem_in {M : MS} (h6 : mem6 M) (h : 0 ≤ sS M 0 ∧ sS M 3 < 6) : vp_in (sS M 3) 6 := by
  obtain ⟨n, hn, e⟩ := h6
  rw [e] at h ⊢
  have h2 := (nI_ltI (a := n) (b := 6) (by omega) (by omega)).mp h.2
  exact vp_in_nI h2 (by decide)
theorem i_cancel (x : Int32) : x + 1 - 1 = x := by rw [Int32.add_sub_cancel]
theorem cN_uS {M : MS} {n j y : Nat} {v : Int32} : cN (uS M n v) j y = cN M j y := rfl
theorem wi_X3_bought : ∀ w ∈ wsX30, w ∈ wsX3_bought := by decide +kernel
set_option maxHeartbeats 4000000 in
set_option maxRecDepth 100000 in
theorem c_X3_bought (l : Launch) (D : va_G) (Y : Nat → ClassId) (σ : sg_W) (sz : Nat) (ad : Nat → Nat) (M : MS) (i d : Int32) (h6 : mem6 M) (hM : MW Y ad M σ) : Met l yX3_bought wsX3_bought ({ frames := 2, cells := 0, slots := 0, locals := 43 } : Room) (va_Pc [.ref (ad 0), .int i, .int d] (sg_U D Y σ sz)) (va_Qi (fun r σ' => (tMonth M i d = 0 → r = rBought M i d) ∧ MF Y ad σ (uS M 19 (tMonth M i d)) σ') (sg_B D σ sz) (sg_A σ sz)) 0 0 (sg_A σ sz) := by
  refine sg_met (cc := cX3_bought) (maxL := 3) (ret := (some .int)) (by decide) rfl (Nat.le_of_ble_eq_true rfl) ?_
  intro p e s m below meth c ls hx hb hml hr hown hts hlocks hnm hP hK hD hN hX hA hS hsz hl
  have hl : lv_has ls 3 [(0, .ref (ad 0)), (1, .int i), (2, .int d)] := hl
  refine lv_aload_n hx hb dX3_bought_0 rfl (lv_at hl 0 rfl) ?_
  refine sg_cutwi (D := D) hS (j := 24) (ls := ls) (rest := [.ref (ad 0)]) 0 0 (fun x9 σ' => x9 = (bI (qM M i ∧ qIn d 0 59)) ∧ MF Y ad σ M σ') (fun x9 σ' H locs hj9 hP hD hS => ?_) (fun k24 => ?_)
  · obtain ⟨rfl, hM⟩ := hj9
    refine sg_calli hD hS hA (va_runV (As := [.int (bI (qM M i ∧ qIn d 0 59))]) (rest := []) ⟨hx, hb, hml, hown, hts⟩ (c_X3_may l D Y _ _ ad M ((bI (qM M i ∧ qIn d 0 59))) (bI_01) hM.self) (cwV 1 hts gX3_bought_X3_may rfl rfl rfl (by decide +kernel) ⟨Nat.le_of_ble_eq_true rfl, Nat.le_of_ble_eq_true rfl⟩) (sg_preV (q := (RX3, TX3, 20)) (hM.1 0 rfl) rfl hK hP hD hN hX hS hA) rfl rfl hl.1 rfl (lv_room (Nat.le_of_ble_eq_true rfl)) dX3_bought_24 ⟨Nat.le_of_ble_eq_true rfl, Nat.le_of_ble_eq_true rfl⟩) (fun r24 σ' H locs hw hP hD hS => ?_)
    obtain ⟨rfl, hw⟩ := hw
    have hM := hM.trans hw
    refine lv_if_ne (tgt := 32) hx hb dX3_bought_27 (by decide) (fun c27 => ?_) (fun c27 => ?_)
    · skip
      have h0 : t1 (bI (qM M i ∧ qIn d 0 59)) = 0 := by rw [t1, if_neg c27]
      rw [h0] at hM
      refine lv_iload_n hx hb dX3_bought_32 rfl (lv_at hl 2 rfl) ?_
      have hi : vp_in i 6 := qM_in h6 (by grind [bI, t1])
      have hd : qIn d 0 59 := by grind [bI, t1]
      have hq : vp_in (10 * i + d / 6) 60 := vp_q hi hd
      refine lv_bipush (v := 6) hx hb dX3_bought_33 (by decide) ?_
      refine lv_irem hx hb dX3_bought_35 (by decide) ?_
      refine lv_iconst (v := 5) hx hb dX3_bought_36 (by decide) ?_
      refine lv_icmp_ne (tgt := 57) hx hb dX3_bought_37 (by decide) (fun c37 => ?_) (fun c37 => ?_)
      · skip
        refine lv_iconst (v := 0) hx hb dX3_bought_57 (by decide) ?_
        exact sg_iret hx hb hr rfl hlocks hP hD hS (Nat.le_of_ble_eq_true rfl) (Nat.le_of_ble_eq_true rfl) dX3_bought_58 (⟨fun _ => by grind [rBought, xI_uS], by rw [show tMonth M i d = 0 from h0]; exact hM⟩)
      · skip
        refine lv_aload_n hx hb dX3_bought_40 rfl (lv_at hl 0 rfl) ?_
        refine va_get (ref := RX3) (v := .ref (ad 15)) hx hb hts wi_X3_bought hown hK (sg_one hP (hM.1 0 rfl)) 0 rfl rfl 15 (by decide) (hts (.fieldLink RX3 56 RX3 "bought" "[I") (by decide +kernel)) (fun _ h => h) rfl dX3_bought_41 ?_
        refine lv_bipush (v := 10) hx hb dX3_bought_44 (by decide) ?_
        refine lv_iload_n hx hb dX3_bought_46 rfl (lv_at hl 1 rfl) ?_
        refine lv_imul hx hb dX3_bought_47 ?_
        refine lv_iload_n hx hb dX3_bought_48 rfl (lv_at hl 2 rfl) ?_
        refine lv_bipush (v := 6) hx hb dX3_bought_49 (by decide) ?_
        refine lv_idiv hx hb dX3_bought_51 (by decide) ?_
        refine lv_iadd hx hb dX3_bought_52 ?_
        refine va_iald hx hb hK (sg_one hP (hM.1 15 rfl)) 0 0 rfl rfl (hq) dX3_bought_53 ?_
        refine lv_goto (tgt := 58) hx hb dX3_bought_54 (by decide) ?_
        exact sg_iret hx hb hr rfl hlocks hP hD hS (Nat.le_of_ble_eq_true rfl) (Nat.le_of_ble_eq_true rfl) dX3_bought_58 (⟨fun _ => by grind [rBought, xI_uS], by rw [show tMonth M i d = 0 from h0]; exact hM⟩)
    · skip
      have h0 : ¬ tMonth M i d = 0 := by show ¬ t1 _ = 0; rw [t1, if_pos c27]; decide
      refine lv_iconst (v := 0) hx hb dX3_bought_30 (by decide) ?_
      exact sg_iret hx hb hr rfl hlocks hP hD hS (Nat.le_of_ble_eq_true rfl) (Nat.le_of_ble_eq_true rfl) dX3_bought_31 (⟨fun h => absurd h h0, hM⟩)
  · skip
    refine lv_aload_n hx hb dX3_bought_1 rfl (lv_at hl 0 rfl) ?_
    refine lv_iload_n hx hb dX3_bought_2 rfl (lv_at hl 1 rfl) ?_
    refine sg_calli hD hS hA (va_runV (As := [.int i]) (rest := [.ref (ad 0)]) ⟨hx, hb, hml, hown, hts⟩ (c_X3_isMember l D Y _ _ ad M i hM.self) (cwV 1 hts gX3_bought_X3_isMember rfl rfl rfl (by decide +kernel) ⟨Nat.le_of_ble_eq_true rfl, Nat.le_of_ble_eq_true rfl⟩) (sg_preV (q := (RX3, TX3, 20)) (hM.1 0 rfl) rfl hK hP hD hN hX hS hA) rfl rfl hl.1 rfl (lv_room (Nat.le_of_ble_eq_true rfl)) dX3_bought_3 ⟨Nat.le_of_ble_eq_true rfl, Nat.le_of_ble_eq_true rfl⟩) (fun r3 σ' H locs hw hP hD hS => ?_)
    obtain ⟨rfl, rfl⟩ := hw
    refine lv_if_eq (tgt := 23) hx hb dX3_bought_6 (by decide) (fun c6 => ?_) (fun c6 => ?_)
    · skip
      refine lv_iconst (v := 0) hx hb dX3_bought_23 (by decide) ?_
      exact k24 _ _ _ _ (⟨by grind [bI], hM⟩) hP hD hS
    · skip
      refine lv_iload_n hx hb dX3_bought_9 rfl (lv_at hl 2 rfl) ?_
      refine lv_iconst (v := 0) hx hb dX3_bought_10 (by decide) ?_
      refine lv_bipush (v := 59) hx hb dX3_bought_11 (by decide) ?_
      refine sg_calli hD hS hA (va_runS (As := [.int d, .int 0, .int 59]) (rest := [.ref (ad 0)]) ⟨hx, hb, hml, hown, hts⟩ (c_X3_isIn l D Y _ _ d 0 59) (va_cwS 3 hts gX3_bought_X3_isIn rfl rfl rfl (by decide +kernel) ⟨Nat.le_of_ble_eq_true rfl, Nat.le_of_ble_eq_true rfl⟩) (sg_preS hK hP hD hN hX hS hA) rfl rfl hl.1 rfl (lv_room (Nat.le_of_ble_eq_true rfl)) dX3_bought_13 ⟨Nat.le_of_ble_eq_true rfl, Nat.le_of_ble_eq_true rfl⟩) (fun r13 σ' H locs hw hP hD hS => ?_)
      obtain ⟨rfl, rfl⟩ := hw
      refine lv_if_eq (tgt := 23) hx hb dX3_bought_16 (by decide) (fun c16 => ?_) (fun c16 => ?_)
      · skip
        refine lv_iconst (v := 0) hx hb dX3_bought_23 (by decide) ?_
        exact k24 _ _ _ _ (⟨by grind [bI], hM⟩) hP hD hS
      · skip
        refine lv_iconst (v := 1) hx hb dX3_bought_19 (by decide) ?_
        refine lv_goto (tgt := 24) hx hb dX3_bought_20 (by decide) ?_
        exact k24 _ _ _ _ (⟨by grind [bI], hM⟩) hP hD hS

theorem wi_X3_paidEach : ∀ w ∈ wsX30, w ∈ wsX3_paidEach := by decide +kernel
set_option maxHeartbeats 4000000 in
set_option maxRecDepth 100000 in
theorem c_X3_paidEach (l : Launch) (D : va_G) (Y : Nat → ClassId) (σ : sg_W) (sz : Nat) (ad : Nat → Nat) (M : MS) (i d : Int32) (h6 : mem6 M) (hM : MW Y ad M σ) : Met l yX3_paidEach wsX3_paidEach ({ frames := 2, cells := 0, slots := 0, locals := 43 } : Room) (va_Pc [.ref (ad 0), .int i, .int d] (sg_U D Y σ sz)) (va_Qi (fun r σ' => (tMonth M i d = 0 → r = rPaid M i d) ∧ MF Y ad σ (uS M 19 (tMonth M i d)) σ') (sg_B D σ sz) (sg_A σ sz)) 0 0 (sg_A σ sz) := by
  refine sg_met (cc := cX3_paidEach) (maxL := 3) (ret := (some .int)) (by decide) rfl (Nat.le_of_ble_eq_true rfl) ?_
  intro p e s m below meth c ls hx hb hml hr hown hts hlocks hnm hP hK hD hN hX hA hS hsz hl
  have hl : lv_has ls 3 [(0, .ref (ad 0)), (1, .int i), (2, .int d)] := hl
  refine lv_aload_n hx hb dX3_paidEach_0 rfl (lv_at hl 0 rfl) ?_
  refine sg_cutwi (D := D) hS (j := 24) (ls := ls) (rest := [.ref (ad 0)]) 0 0 (fun x9 σ' => x9 = (bI (qM M i ∧ qIn d 0 59)) ∧ MF Y ad σ M σ') (fun x9 σ' H locs hj9 hP hD hS => ?_) (fun k24 => ?_)
  · obtain ⟨rfl, hM⟩ := hj9
    refine sg_calli hD hS hA (va_runV (As := [.int (bI (qM M i ∧ qIn d 0 59))]) (rest := []) ⟨hx, hb, hml, hown, hts⟩ (c_X3_may l D Y _ _ ad M ((bI (qM M i ∧ qIn d 0 59))) (bI_01) hM.self) (cwV 1 hts gX3_paidEach_X3_may rfl rfl rfl (by decide +kernel) ⟨Nat.le_of_ble_eq_true rfl, Nat.le_of_ble_eq_true rfl⟩) (sg_preV (q := (RX3, TX3, 20)) (hM.1 0 rfl) rfl hK hP hD hN hX hS hA) rfl rfl hl.1 rfl (lv_room (Nat.le_of_ble_eq_true rfl)) dX3_paidEach_24 ⟨Nat.le_of_ble_eq_true rfl, Nat.le_of_ble_eq_true rfl⟩) (fun r24 σ' H locs hw hP hD hS => ?_)
    obtain ⟨rfl, hw⟩ := hw
    have hM := hM.trans hw
    refine lv_if_ne (tgt := 32) hx hb dX3_paidEach_27 (by decide) (fun c27 => ?_) (fun c27 => ?_)
    · skip
      have h0 : t1 (bI (qM M i ∧ qIn d 0 59)) = 0 := by rw [t1, if_neg c27]
      rw [h0] at hM
      refine lv_iload_n hx hb dX3_paidEach_32 rfl (lv_at hl 2 rfl) ?_
      have hi : vp_in i 6 := qM_in h6 (by grind [bI, t1])
      have hd : qIn d 0 59 := by grind [bI, t1]
      have hq : vp_in (10 * i + d / 6) 60 := vp_q hi hd
      refine lv_bipush (v := 6) hx hb dX3_paidEach_33 (by decide) ?_
      refine lv_irem hx hb dX3_paidEach_35 (by decide) ?_
      refine lv_iconst (v := 5) hx hb dX3_paidEach_36 (by decide) ?_
      refine lv_icmp_ne (tgt := 74) hx hb dX3_paidEach_37 (by decide) (fun c37 => ?_) (fun c37 => ?_)
      · skip
        refine lv_iconst (v := (-1)) hx hb dX3_paidEach_74 (by decide) ?_
        exact sg_iret hx hb hr rfl hlocks hP hD hS (Nat.le_of_ble_eq_true rfl) (Nat.le_of_ble_eq_true rfl) dX3_paidEach_75 (⟨fun _ => by grind [rPaid, xI_uS, Int32.not_le, Int32.not_lt], by rw [show tMonth M i d = 0 from h0]; exact hM⟩)
      · skip
        refine lv_aload_n hx hb dX3_paidEach_40 rfl (lv_at hl 0 rfl) ?_
        refine va_get (ref := RX3) (v := .ref (ad 15)) hx hb hts wi_X3_paidEach hown hK (sg_one hP (hM.1 0 rfl)) 0 rfl rfl 15 (by decide) (hts (.fieldLink RX3 56 RX3 "bought" "[I") (by decide +kernel)) (fun _ h => h) rfl dX3_paidEach_41 ?_
        refine lv_bipush (v := 10) hx hb dX3_paidEach_44 (by decide) ?_
        refine lv_iload_n hx hb dX3_paidEach_46 rfl (lv_at hl 1 rfl) ?_
        refine lv_imul hx hb dX3_paidEach_47 ?_
        refine lv_iload_n hx hb dX3_paidEach_48 rfl (lv_at hl 2 rfl) ?_
        refine lv_bipush (v := 6) hx hb dX3_paidEach_49 (by decide) ?_
        refine lv_idiv hx hb dX3_paidEach_51 (by decide) ?_
        refine lv_iadd hx hb dX3_paidEach_52 ?_
        refine va_iald hx hb hK (sg_one hP (hM.1 15 rfl)) 0 0 rfl rfl (hq) dX3_paidEach_53 ?_
        refine lv_if_le (tgt := 74) hx hb dX3_paidEach_54 (by decide) (fun c54 => ?_) (fun c54 => ?_)
        · skip
          refine lv_iconst (v := (-1)) hx hb dX3_paidEach_74 (by decide) ?_
          exact sg_iret hx hb hr rfl hlocks hP hD hS (Nat.le_of_ble_eq_true rfl) (Nat.le_of_ble_eq_true rfl) dX3_paidEach_75 (⟨fun _ => by grind [rPaid, xI_uS, Int32.not_le, Int32.not_lt], by rw [show tMonth M i d = 0 from h0]; exact hM⟩)
        · skip
          refine lv_aload_n hx hb dX3_paidEach_57 rfl (lv_at hl 0 rfl) ?_
          refine va_get (ref := RX3) (v := .ref (ad 17)) hx hb hts wi_X3_paidEach hown hK (sg_one hP (hM.1 0 rfl)) 0 rfl rfl 17 (by decide) (hts (.fieldLink RX3 62 RX3 "paid" "[I") (by decide +kernel)) (fun _ h => h) rfl dX3_paidEach_58 ?_
          refine lv_bipush (v := 10) hx hb dX3_paidEach_61 (by decide) ?_
          refine lv_iload_n hx hb dX3_paidEach_63 rfl (lv_at hl 1 rfl) ?_
          refine lv_imul hx hb dX3_paidEach_64 ?_
          refine lv_iload_n hx hb dX3_paidEach_65 rfl (lv_at hl 2 rfl) ?_
          refine lv_bipush (v := 6) hx hb dX3_paidEach_66 (by decide) ?_
          refine lv_idiv hx hb dX3_paidEach_68 (by decide) ?_
          refine lv_iadd hx hb dX3_paidEach_69 ?_
          refine va_iald hx hb hK (sg_one hP (hM.1 17 rfl)) 0 0 rfl rfl (hq) dX3_paidEach_70 ?_
          refine lv_goto (tgt := 75) hx hb dX3_paidEach_71 (by decide) ?_
          exact sg_iret hx hb hr rfl hlocks hP hD hS (Nat.le_of_ble_eq_true rfl) (Nat.le_of_ble_eq_true rfl) dX3_paidEach_75 (⟨fun _ => by grind [rPaid, xI_uS, Int32.not_le, Int32.not_lt], by rw [show tMonth M i d = 0 from h0]; exact hM⟩)
    · skip
      have h0 : ¬ tMonth M i d = 0 := by show ¬ t1 _ = 0; rw [t1, if_pos c27]; decide
      refine lv_iconst (v := 0) hx hb dX3_paidEach_30 (by decide) ?_
      exact sg_iret hx hb hr rfl hlocks hP hD hS (Nat.le_of_ble_eq_true rfl) (Nat.le_of_ble_eq_true rfl) dX3_paidEach_31 (⟨fun h => absurd h h0, hM⟩)
  · skip
    refine lv_aload_n hx hb dX3_paidEach_1 rfl (lv_at hl 0 rfl) ?_
    refine lv_iload_n hx hb dX3_paidEach_2 rfl (lv_at hl 1 rfl) ?_
    refine sg_calli hD hS hA (va_runV (As := [.int i]) (rest := [.ref (ad 0)]) ⟨hx, hb, hml, hown, hts⟩ (c_X3_isMember l D Y _ _ ad M i hM.self) (cwV 1 hts gX3_paidEach_X3_isMember rfl rfl rfl (by decide +kernel) ⟨Nat.le_of_ble_eq_true rfl, Nat.le_of_ble_eq_true rfl⟩) (sg_preV (q := (RX3, TX3, 20)) (hM.1 0 rfl) rfl hK hP hD hN hX hS hA) rfl rfl hl.1 rfl (lv_room (Nat.le_of_ble_eq_true rfl)) dX3_paidEach_3 ⟨Nat.le_of_ble_eq_true rfl, Nat.le_of_ble_eq_true rfl⟩) (fun r3 σ' H locs hw hP hD hS => ?_)
    obtain ⟨rfl, rfl⟩ := hw
    refine lv_if_eq (tgt := 23) hx hb dX3_paidEach_6 (by decide) (fun c6 => ?_) (fun c6 => ?_)
    · skip
      refine lv_iconst (v := 0) hx hb dX3_paidEach_23 (by decide) ?_
      exact k24 _ _ _ _ (⟨by grind [bI], hM⟩) hP hD hS
    · skip
      refine lv_iload_n hx hb dX3_paidEach_9 rfl (lv_at hl 2 rfl) ?_
      refine lv_iconst (v := 0) hx hb dX3_paidEach_10 (by decide) ?_
      refine lv_bipush (v := 59) hx hb dX3_paidEach_11 (by decide) ?_
      refine sg_calli hD hS hA (va_runS (As := [.int d, .int 0, .int 59]) (rest := [.ref (ad 0)]) ⟨hx, hb, hml, hown, hts⟩ (c_X3_isIn l D Y _ _ d 0 59) (va_cwS 3 hts gX3_paidEach_X3_isIn rfl rfl rfl (by decide +kernel) ⟨Nat.le_of_ble_eq_true rfl, Nat.le_of_ble_eq_true rfl⟩) (sg_preS hK hP hD hN hX hS hA) rfl rfl hl.1 rfl (lv_room (Nat.le_of_ble_eq_true rfl)) dX3_paidEach_13 ⟨Nat.le_of_ble_eq_true rfl, Nat.le_of_ble_eq_true rfl⟩) (fun r13 σ' H locs hw hP hD hS => ?_)
      obtain ⟨rfl, rfl⟩ := hw
      refine lv_if_eq (tgt := 23) hx hb dX3_paidEach_16 (by decide) (fun c16 => ?_) (fun c16 => ?_)
      · skip
        refine lv_iconst (v := 0) hx hb dX3_paidEach_23 (by decide) ?_
        exact k24 _ _ _ _ (⟨by grind [bI], hM⟩) hP hD hS
      · skip
        refine lv_iconst (v := 1) hx hb dX3_paidEach_19 (by decide) ?_
        refine lv_goto (tgt := 24) hx hb dX3_paidEach_20 (by decide) ?_
        exact k24 _ _ _ _ (⟨by grind [bI], hM⟩) hP hD hS

set_option maxHeartbeats 4000000 in
set_option maxRecDepth 100000 in
theorem c_X3_counted (l : Launch) (D : va_G) (Y : Nat → ClassId) (σ : sg_W) (sz : Nat) (ad : Nat → Nat) (M : MS) (i d : Int32) (h6 : mem6 M) (ho : ∀ k, k < 60 → vp_in (sI M 18 k) 60) (hM : MW Y ad M σ) : Met l yX3_counted wsX3_counted ({ frames := 2, cells := 0, slots := 0, locals := 43 } : Room) (va_Pc [.ref (ad 0), .int i, .int d] (sg_U D Y σ sz)) (va_Ql (fun r σ' => (tYear M i d = 0 → r = cN M (tN i) (tN d)) ∧ MF Y ad σ (uS M 19 (tYear M i d)) σ') (sg_B D σ sz) (sg_A σ sz)) 0 0 (sg_A σ sz) := by
  refine sg_met (cc := cX3_counted) (maxL := 3) (ret := (some .long)) (by decide) rfl (Nat.le_of_ble_eq_true rfl) ?_
  intro p e s m below meth c ls hx hb hml hr hown hts hlocks hnm hP hK hD hN hX hA hS hsz hl
  have hl : lv_has ls 3 [(0, .ref (ad 0)), (1, .int i), (2, .int d)] := hl
  refine lv_aload_n hx hb dX3_counted_0 rfl (lv_at hl 0 rfl) ?_
  refine sg_cutwi (D := D) hS (j := 23) (ls := ls) (rest := [.ref (ad 0)]) 0 0 (fun x9 σ' => x9 = (bI (qM M i ∧ qIn d 0 4)) ∧ MF Y ad σ M σ') (fun x9 σ' H locs hj9 hP hD hS => ?_) (fun k23 => ?_)
  · obtain ⟨rfl, hM⟩ := hj9
    refine sg_calli hD hS hA (va_runV (As := [.int (bI (qM M i ∧ qIn d 0 4))]) (rest := []) ⟨hx, hb, hml, hown, hts⟩ (c_X3_may l D Y _ _ ad M ((bI (qM M i ∧ qIn d 0 4))) (bI_01) hM.self) (cwV 1 hts gX3_counted_X3_may rfl rfl rfl (by decide +kernel) ⟨Nat.le_of_ble_eq_true rfl, Nat.le_of_ble_eq_true rfl⟩) (sg_preV (q := (RX3, TX3, 20)) (hM.1 0 rfl) rfl hK hP hD hN hX hS hA) rfl rfl hl.1 rfl (lv_room (Nat.le_of_ble_eq_true rfl)) dX3_counted_23 ⟨Nat.le_of_ble_eq_true rfl, Nat.le_of_ble_eq_true rfl⟩) (fun r23 σ' H locs hw hP hD hS => ?_)
    obtain ⟨rfl, hw⟩ := hw
    have hM := hM.trans hw
    refine lv_if_eq (tgt := 38) hx hb dX3_counted_26 (by decide) (fun c26 => ?_) (fun c26 => ?_)
    · skip
      refine lv_lconst (v := 0) hx hb dX3_counted_38 (by decide) ?_
      exact sg_lret hx hb hr hlocks hP hD hS (Nat.le_of_ble_eq_true rfl) (Nat.le_of_ble_eq_true rfl) dX3_counted_39 (⟨by grind [tYear, t1, bI, cN_uS], hM⟩)
    · skip
      have hi : vp_in i 6 := qM_in h6 (by grind [bI, t1])
      have hy : vp_in d 5 := vp_y (by grind [bI, t1])
      have ei := vp_eq hi (by decide)
      have ey := vp_eq hy (by decide)
      rw [ei, ey] at hl
      refine lv_aload_n hx hb dX3_counted_29 rfl (lv_at hl 0 rfl) ?_
      refine lv_iload_n hx hb dX3_counted_30 rfl (lv_at hl 1 rfl) ?_
      refine lv_iload_n hx hb dX3_counted_31 rfl (lv_at hl 2 rfl) ?_
      refine sg_calll hD hS hA (va_runV (As := [.int (nI (tN i)), .int (nI (tN d))]) (rest := []) ⟨hx, hb, hml, hown, hts⟩ (c_X3_countedIn l D Y _ _ ad (uS M 19 (t1 ((bI (qM M i ∧ qIn d 0 4))))) (tN i) (tN d) (vp_lt hi) (vp_lt hy) ho hM.self) (cwV 2 hts gX3_counted_X3_countedIn rfl rfl rfl (by decide +kernel) ⟨Nat.le_of_ble_eq_true rfl, Nat.le_of_ble_eq_true rfl⟩) (sg_preV (q := (RX3, TX3, 20)) (hM.1 0 rfl) rfl hK hP hD hN hX hS hA) rfl rfl hl.1 rfl (lv_room (Nat.le_of_ble_eq_true rfl)) dX3_counted_32 ⟨Nat.le_of_ble_eq_true rfl, Nat.le_of_ble_eq_true rfl⟩) (fun r32 σ' H locs hw hP hD hS => ?_)
      obtain ⟨er32, rfl⟩ := hw
      refine lv_goto (tgt := 39) hx hb dX3_counted_35 (by decide) ?_
      exact sg_lret hx hb hr hlocks hP hD hS (Nat.le_of_ble_eq_true rfl) (Nat.le_of_ble_eq_true rfl) dX3_counted_39 (⟨by grind [tYear, t1, bI, cN_uS], hM⟩)
  · skip
    refine lv_aload_n hx hb dX3_counted_1 rfl (lv_at hl 0 rfl) ?_
    refine lv_iload_n hx hb dX3_counted_2 rfl (lv_at hl 1 rfl) ?_
    refine sg_calli hD hS hA (va_runV (As := [.int i]) (rest := [.ref (ad 0)]) ⟨hx, hb, hml, hown, hts⟩ (c_X3_isMember l D Y _ _ ad M i hM.self) (cwV 1 hts gX3_counted_X3_isMember rfl rfl rfl (by decide +kernel) ⟨Nat.le_of_ble_eq_true rfl, Nat.le_of_ble_eq_true rfl⟩) (sg_preV (q := (RX3, TX3, 20)) (hM.1 0 rfl) rfl hK hP hD hN hX hS hA) rfl rfl hl.1 rfl (lv_room (Nat.le_of_ble_eq_true rfl)) dX3_counted_3 ⟨Nat.le_of_ble_eq_true rfl, Nat.le_of_ble_eq_true rfl⟩) (fun r3 σ' H locs hw hP hD hS => ?_)
    obtain ⟨rfl, rfl⟩ := hw
    refine lv_if_eq (tgt := 22) hx hb dX3_counted_6 (by decide) (fun c6 => ?_) (fun c6 => ?_)
    · skip
      refine lv_iconst (v := 0) hx hb dX3_counted_22 (by decide) ?_
      exact k23 _ _ _ _ (⟨by grind [bI], hM⟩) hP hD hS
    · skip
      refine lv_iload_n hx hb dX3_counted_9 rfl (lv_at hl 2 rfl) ?_
      refine lv_iconst (v := 0) hx hb dX3_counted_10 (by decide) ?_
      refine lv_iconst (v := 4) hx hb dX3_counted_11 (by decide) ?_
      refine sg_calli hD hS hA (va_runS (As := [.int d, .int 0, .int 4]) (rest := [.ref (ad 0)]) ⟨hx, hb, hml, hown, hts⟩ (c_X3_isIn l D Y _ _ d 0 4) (va_cwS 3 hts gX3_counted_X3_isIn rfl rfl rfl (by decide +kernel) ⟨Nat.le_of_ble_eq_true rfl, Nat.le_of_ble_eq_true rfl⟩) (sg_preS hK hP hD hN hX hS hA) rfl rfl hl.1 rfl (lv_room (Nat.le_of_ble_eq_true rfl)) dX3_counted_12 ⟨Nat.le_of_ble_eq_true rfl, Nat.le_of_ble_eq_true rfl⟩) (fun r12 σ' H locs hw hP hD hS => ?_)
      obtain ⟨rfl, rfl⟩ := hw
      refine lv_if_eq (tgt := 22) hx hb dX3_counted_15 (by decide) (fun c15 => ?_) (fun c15 => ?_)
      · skip
        refine lv_iconst (v := 0) hx hb dX3_counted_22 (by decide) ?_
        exact k23 _ _ _ _ (⟨by grind [bI], hM⟩) hP hD hS
      · skip
        refine lv_iconst (v := 1) hx hb dX3_counted_18 (by decide) ?_
        refine lv_goto (tgt := 23) hx hb dX3_counted_19 (by decide) ?_
        exact k23 _ _ _ _ (⟨by grind [bI], hM⟩) hP hD hS

theorem wi_X3_join : ∀ w ∈ wsX30, w ∈ wsX3_join := by decide +kernel
set_option maxHeartbeats 4000000 in
set_option maxRecDepth 100000 in
theorem c_X3_join (l : Launch) (D : va_G) (Y : Nat → ClassId) (σ : sg_W) (sz : Nat) (ad : Nat → Nat) (M : MS) (x : Int32) (h6 : mem6 M) (hM : MW Y ad M σ) : Met l yX3_join wsX3_join ({ frames := 1, cells := 0, slots := 0, locals := 22 } : Room) (va_Pc [.ref (ad 0), .int x] (sg_U D Y σ sz)) (va_Qi (fun r σ' => (tJoin M x = 0 → r = sS M 3) ∧ MF Y ad σ (if tJoin M x = 0 then nJoin (uS M 19 0) x else uS M 19 (tJoin M x)) σ') (sg_B D σ sz) (sg_A σ sz)) 0 0 (sg_A σ sz) := by
  refine sg_met (cc := cX3_join) (maxL := 2) (ret := (some .int)) (by decide) rfl (Nat.le_of_ble_eq_true rfl) ?_
  intro p e s m below meth c ls hx hb hml hr hown hts hlocks hnm hP hK hD hN hX hA hS hsz hl
  have hl : lv_has ls 2 [(0, .ref (ad 0)), (1, .int x)] := hl
  refine lv_aload_n hx hb dX3_join_0 rfl (lv_at hl 0 rfl) ?_
  refine lv_iload_n hx hb dX3_join_1 rfl (lv_at hl 1 rfl) ?_
  refine lv_iconst (v := 1) hx hb dX3_join_2 (by decide) ?_
  refine lv_bipush (v := 15) hx hb dX3_join_3 (by decide) ?_
  refine sg_calli hD hS hA (va_runS (As := [.int x, .int 1, .int 15]) (rest := [.ref (ad 0)]) ⟨hx, hb, hml, hown, hts⟩ (c_X3_isIn l D Y _ _ x 1 15) (va_cwS 3 hts gX3_join_X3_isIn rfl rfl rfl (by decide +kernel) ⟨Nat.le_of_ble_eq_true rfl, Nat.le_of_ble_eq_true rfl⟩) (sg_preS hK hP hD hN hX hS hA) rfl rfl hl.1 rfl (lv_room (Nat.le_of_ble_eq_true rfl)) dX3_join_5 ⟨Nat.le_of_ble_eq_true rfl, Nat.le_of_ble_eq_true rfl⟩) (fun r5 σ' H locs hw hP hD hS => ?_)
  obtain ⟨rfl, rfl⟩ := hw
  refine sg_cutwi (D := D) hS (j := 29) (ls := ls) (rest := [.int (bI (qIn x 1 15)), .ref (ad 0)]) 0 0 (fun x9 σ' => x9 = (bI (0 ≤ sS M 0 ∧ sS M 3 < 6)) ∧ MF Y ad σ M σ') (fun x9 σ' H locs hj9 hP hD hS => ?_) (fun k29 => ?_)
  · obtain ⟨rfl, hM⟩ := hj9
    refine sg_calli hD hS hA (va_runV (As := [.int (bI (qIn x 1 15)), .int (bI (0 ≤ sS M 0 ∧ sS M 3 < 6))]) (rest := []) ⟨hx, hb, hml, hown, hts⟩ (c_X3_mayBoth l D Y _ _ ad M ((bI (qIn x 1 15))) ((bI (0 ≤ sS M 0 ∧ sS M 3 < 6))) hM.self) (cwV 2 hts gX3_join_X3_mayBoth rfl rfl rfl (by decide +kernel) ⟨Nat.le_of_ble_eq_true rfl, Nat.le_of_ble_eq_true rfl⟩) (sg_preV (q := (RX3, TX3, 20)) (hM.1 0 rfl) rfl hK hP hD hN hX hS hA) rfl rfl hl.1 rfl (lv_room (Nat.le_of_ble_eq_true rfl)) dX3_join_29 ⟨Nat.le_of_ble_eq_true rfl, Nat.le_of_ble_eq_true rfl⟩) (fun r29 σ' H locs hw hP hD hS => ?_)
    obtain ⟨rfl, hw⟩ := hw
    have hM := hM.trans hw
    refine lv_if_ne (tgt := 37) hx hb dX3_join_32 (by decide) (fun c32 => ?_) (fun c32 => ?_)
    · skip
      have h0 : t2 (bI (qIn x 1 15)) (bI (0 ≤ sS M 0 ∧ sS M 3 < 6)) = 0 := by rw [bI_0] at c32; exact Classical.not_not.mp c32
      rw [h0] at hM
      refine lv_aload_n hx hb dX3_join_37 rfl (lv_at hl 0 rfl) ?_
      have hi : vp_in (sS M 3) 6 := mem_in h6 (by grind [bI, t2])
      refine va_get (ref := RX3) (v := .ref (ad 4)) hx hb hts wi_X3_join hown hK (sg_one hP (hM.1 0 rfl)) 0 rfl rfl 4 (by decide) (hts (.fieldLink RX3 21 RX3 "rate" "[I") (by decide +kernel)) (fun _ h => h) rfl dX3_join_38 ?_
      refine lv_aload_n hx hb dX3_join_41 rfl (lv_at hl 0 rfl) ?_
      refine va_get (ref := RX3) (v := .int (sS (uS M 19 0) 3)) hx hb hts wi_X3_join hown hK (sg_one hP (hM.1 0 rfl)) 0 rfl rfl 3 (by decide) (hts (.fieldLink RX3 71 RX3 "members" "I") (by decide +kernel)) (fun _ h => h) rfl dX3_join_42 ?_
      refine lv_iload_n hx hb dX3_join_45 rfl (lv_at hl 1 rfl) ?_
      refine sg_iast hx hb hK hP hD hS (hM.1 4 rfl) (hi) dX3_join_46 (fun H locs hP hD hS => ?_)
      have hM := hM.a4 (k := ((sS (uS M 19 0) 3)).toNatClampNeg) (v := x)
      refine lv_aload_n hx hb dX3_join_47 rfl (lv_at hl 0 rfl) ?_
      refine va_get (ref := RX3) (v := .ref (ad 10)) hx hb hts wi_X3_join hown hK (sg_one hP (hM.1 0 rfl)) 0 rfl rfl 10 (by decide) (hts (.fieldLink RX3 41 RX3 "first" "[I") (by decide +kernel)) (fun _ h => h) rfl dX3_join_48 ?_
      refine lv_aload_n hx hb dX3_join_51 rfl (lv_at hl 0 rfl) ?_
      refine va_get (ref := RX3) (v := .int (sS (uI (uS M 19 0) 4 ((sS (uS M 19 0) 3)).toNatClampNeg x) 3)) hx hb hts wi_X3_join hown hK (sg_one hP (hM.1 0 rfl)) 0 rfl rfl 3 (by decide) (hts (.fieldLink RX3 71 RX3 "members" "I") (by decide +kernel)) (fun _ h => h) rfl dX3_join_52 ?_
      refine lv_aload_n hx hb dX3_join_55 rfl (lv_at hl 0 rfl) ?_
      refine va_get (ref := RX3) (v := .int (sS (uI (uS M 19 0) 4 ((sS (uS M 19 0) 3)).toNatClampNeg x) 0)) hx hb hts wi_X3_join hown hK (sg_one hP (hM.1 0 rfl)) 0 rfl rfl 0 (by decide) (hts (.fieldLink RX3 9 RX3 "month" "I") (by decide +kernel)) (fun _ h => h) rfl dX3_join_56 ?_
      refine sg_iast hx hb hK hP hD hS (hM.1 10 rfl) (hi) dX3_join_59 (fun H locs hP hD hS => ?_)
      have hM := hM.a10 (k := ((sS (uI (uS M 19 0) 4 ((sS (uS M 19 0) 3)).toNatClampNeg x) 3)).toNatClampNeg) (v := (sS (uI (uS M 19 0) 4 ((sS (uS M 19 0) 3)).toNatClampNeg x) 0))
      refine lv_aload_n hx hb dX3_join_60 rfl (lv_at hl 0 rfl) ?_
      refine lv_dup hx hb dX3_join_61 rfl ?_
      refine va_get (ref := RX3) (v := .int (sS (uI (uI (uS M 19 0) 4 ((sS (uS M 19 0) 3)).toNatClampNeg x) 10 ((sS (uI (uS M 19 0) 4 ((sS (uS M 19 0) 3)).toNatClampNeg x) 3)).toNatClampNeg ((sS (uI (uS M 19 0) 4 ((sS (uS M 19 0) 3)).toNatClampNeg x) 0))) 3)) hx hb hts wi_X3_join hown hK (sg_one hP (hM.1 0 rfl)) 0 rfl rfl 3 (by decide) (hts (.fieldLink RX3 71 RX3 "members" "I") (by decide +kernel)) (fun _ h => h) rfl dX3_join_62 ?_
      refine lv_iconst (v := 1) hx hb dX3_join_65 (by decide) ?_
      refine lv_iadd hx hb dX3_join_66 ?_
      refine sg_put (ref := RX3) (ty := .int) (v := .int ((sS (uI (uI (uS M 19 0) 4 ((sS (uS M 19 0) 3)).toNatClampNeg x) 10 ((sS (uI (uS M 19 0) 4 ((sS (uS M 19 0) 3)).toNatClampNeg x) 3)).toNatClampNeg ((sS (uI (uS M 19 0) 4 ((sS (uS M 19 0) 3)).toNatClampNeg x) 0))) 3) + 1)) hx hb hts wi_X3_join tyX3 tyX3_ok nmX3 hown hK hP hD hS (hM.1 0 rfl) rfl 3 (by decide) (hts (.fieldLink RX3 71 RX3 "members" "I") (by decide +kernel)) (fun _ h => h) rfl (by decide +kernel) rfl rfl (Nat.le_of_ble_eq_true rfl) dX3_join_67 (fun H locs hP hD hS => ?_)
      have hM := hM.s3 (v := ((sS (uI (uI (uS M 19 0) 4 ((sS (uS M 19 0) 3)).toNatClampNeg x) 10 ((sS (uI (uS M 19 0) 4 ((sS (uS M 19 0) 3)).toNatClampNeg x) 3)).toNatClampNeg ((sS (uI (uS M 19 0) 4 ((sS (uS M 19 0) 3)).toNatClampNeg x) 0))) 3) + 1))
      refine lv_aload_n hx hb dX3_join_70 rfl (lv_at hl 0 rfl) ?_
      refine va_get (ref := RX3) (v := .int (sS (uS (uI (uI (uS M 19 0) 4 ((sS (uS M 19 0) 3)).toNatClampNeg x) 10 ((sS (uI (uS M 19 0) 4 ((sS (uS M 19 0) 3)).toNatClampNeg x) 3)).toNatClampNeg ((sS (uI (uS M 19 0) 4 ((sS (uS M 19 0) 3)).toNatClampNeg x) 0))) 3 (((sS (uI (uI (uS M 19 0) 4 ((sS (uS M 19 0) 3)).toNatClampNeg x) 10 ((sS (uI (uS M 19 0) 4 ((sS (uS M 19 0) 3)).toNatClampNeg x) 3)).toNatClampNeg ((sS (uI (uS M 19 0) 4 ((sS (uS M 19 0) 3)).toNatClampNeg x) 0))) 3) + 1))) 3)) hx hb hts wi_X3_join hown hK (sg_one hP (hM.1 0 rfl)) 0 rfl rfl 3 (by decide) (hts (.fieldLink RX3 71 RX3 "members" "I") (by decide +kernel)) (fun _ h => h) rfl dX3_join_71 ?_
      refine lv_iconst (v := 1) hx hb dX3_join_74 (by decide) ?_
      refine lv_isub hx hb dX3_join_75 ?_
      exact sg_iret hx hb hr rfl hlocks hP hD hS (Nat.le_of_ble_eq_true rfl) (Nat.le_of_ble_eq_true rfl) dX3_join_76 (⟨fun _ => i_cancel _, by rw [if_pos (show tJoin M x = 0 from h0)]; exact hM⟩)
    · skip
      have h0 : ¬ tJoin M x = 0 := bI_0.mp c32
      refine lv_iconst (v := 0) hx hb dX3_join_35 (by decide) ?_
      exact sg_iret hx hb hr rfl hlocks hP hD hS (Nat.le_of_ble_eq_true rfl) (Nat.le_of_ble_eq_true rfl) dX3_join_36 (⟨fun h => absurd h h0, by rw [if_neg h0]; exact hM⟩)
  · skip
    refine lv_aload_n hx hb dX3_join_8 rfl (lv_at hl 0 rfl) ?_
    refine va_get (ref := RX3) (v := .int (sS M 0)) hx hb hts wi_X3_join hown hK (sg_one hP (hM.1 0 rfl)) 0 rfl rfl 0 (by decide) (hts (.fieldLink RX3 9 RX3 "month" "I") (by decide +kernel)) (fun _ h => h) rfl dX3_join_9 ?_
    refine lv_if_lt (tgt := 28) hx hb dX3_join_12 (by decide) (fun c12 => ?_) (fun c12 => ?_)
    · skip
      refine lv_iconst (v := 0) hx hb dX3_join_28 (by decide) ?_
      exact k29 _ _ _ _ (⟨by grind [bI, Int32.not_le, Int32.not_lt], hM⟩) hP hD hS
    · skip
      refine lv_aload_n hx hb dX3_join_15 rfl (lv_at hl 0 rfl) ?_
      refine va_get (ref := RX3) (v := .int (sS M 3)) hx hb hts wi_X3_join hown hK (sg_one hP (hM.1 0 rfl)) 0 rfl rfl 3 (by decide) (hts (.fieldLink RX3 71 RX3 "members" "I") (by decide +kernel)) (fun _ h => h) rfl dX3_join_16 ?_
      refine lv_bipush (v := 6) hx hb dX3_join_19 (by decide) ?_
      refine lv_icmp_ge (tgt := 28) hx hb dX3_join_21 (by decide) (fun c21 => ?_) (fun c21 => ?_)
      · skip
        refine lv_iconst (v := 0) hx hb dX3_join_28 (by decide) ?_
        exact k29 _ _ _ _ (⟨by grind [bI, Int32.not_le, Int32.not_lt], hM⟩) hP hD hS
      · skip
        refine lv_iconst (v := 1) hx hb dX3_join_24 (by decide) ?_
        refine lv_goto (tgt := 29) hx hb dX3_join_25 (by decide) ?_
        exact k29 _ _ _ _ (⟨by grind [bI, Int32.not_le, Int32.not_lt], hM⟩) hP hD hS
