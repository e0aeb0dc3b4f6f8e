theorem xI_uS {M : MS} {j i x : Nat} {v : Int32} : sI (uS M j v) i x = sI M i x := rfl
theorem xL_uS {M : MS} {j i x : Nat} {v : Int32} : sL (uS M j v) i x = sL M i x := rfl
theorem xL_uI {M : MS} {j k i x : Nat} {v : Int32} : sL (uI M j k v) i x = sL M i x := rfl
theorem xI_uL {M : MS} {j k i x : Nat} {v : Int64} : sI (uL M j k v) i x = sI M i x := rfl
theorem xI_uI {M : MS} {j k i x : Nat} {v : Int32} : sI (uI M j k v) i x = if i = j ∧ x = k then v else sI M i x := by
  by_cases h : i = j
  · subst h; simp [sI_uI, upd_at]
  · simp [sI_uI, h]
theorem xL_uL {M : MS} {j k i x : Nat} {v : Int64} : sL (uL M j k v) i x = if i = j ∧ x = k then v else sL M i x := by
  by_cases h : i = j
  · subst h; simp [sL_uL, updL_at]
  · simp [sL_uL, h]
theorem sH_uS {M : MS} {j n k : Nat} {v : Int32} : sH (uS M n v) j k = sH M j k := by
  induction k with
  | zero => rfl
  | succ k ih => simp only [sH, ih, sI_uS]
theorem wi_X3_money : ∀ w ∈ wsX30, w ∈ wsX3_money := by decide +kernel
set_option maxHeartbeats 4000000 in
set_option maxRecDepth 100000 in
theorem c_X3_money (l : Launch) (D : va_G) (Y : Nat → ClassId) (σ : sg_W) (sz : Nat) (ad : Nat → Nat) (M : MS) (i : Int32) (h6 : mem6 M) (hM : MW Y ad M σ) : Met l yX3_money wsX3_money ({ frames := 2, cells := 0, slots := 0, locals := 43 } : Room) (va_Pc [.ref (ad 0), .int i] (sg_U D Y σ sz)) (va_Qi (fun r σ' => (tMem M i = 0 → r = sI M 6 (tN i)) ∧ MF Y ad σ (uS M 19 (tMem M i)) σ') (sg_B D σ sz) (sg_A σ sz)) 0 0 (sg_A σ sz) := by
  refine sg_met (cc := cX3_money) (maxL := 2) (ret := (some .int)) (by decide) rfl (Nat.le_of_ble_eq_true rfl) ?_
  intro p e s m below meth c ls hx hb hml hr hown hts hlocks hnm hP hK hD hN hX hA hS hsz hl
  have hl : lv_has ls 2 [(0, .ref (ad 0)), (1, .int i)] := hl
  refine lv_aload_n hx hb dX3_money_0 rfl (lv_at hl 0 rfl) ?_
  refine lv_aload_n hx hb dX3_money_1 rfl (lv_at hl 0 rfl) ?_
  refine lv_iload_n hx hb dX3_money_2 rfl (lv_at hl 1 rfl) ?_
  refine sg_calli hD hS hA (va_runV (As := [.int i]) (rest := [.ref (ad 0)]) ⟨hx, hb, hml, hown, hts⟩ (c_X3_isMember l D Y _ _ ad M i hM.self) (cwV 1 hts gX3_money_X3_isMember rfl rfl rfl (by decide +kernel) ⟨Nat.le_of_ble_eq_true rfl, Nat.le_of_ble_eq_true rfl⟩) (sg_preV (q := (RX3, TX3, 20)) (hM.1 0 rfl) rfl hK hP hD hN hX hS hA) rfl rfl hl.1 rfl (lv_room (Nat.le_of_ble_eq_true rfl)) dX3_money_3 ⟨Nat.le_of_ble_eq_true rfl, Nat.le_of_ble_eq_true rfl⟩) (fun r3 σ' H locs hw hP hD hS => ?_)
  obtain ⟨rfl, rfl⟩ := hw
  refine sg_calli hD hS hA (va_runV (As := [.int (bI (qM M i))]) (rest := []) ⟨hx, hb, hml, hown, hts⟩ (c_X3_may l D Y _ _ ad M ((bI (qM M i))) (bI_01) hM.self) (cwV 1 hts gX3_money_X3_may rfl rfl rfl (by decide +kernel) ⟨Nat.le_of_ble_eq_true rfl, Nat.le_of_ble_eq_true rfl⟩) (sg_preV (q := (RX3, TX3, 20)) (hM.1 0 rfl) rfl hK hP hD hN hX hS hA) rfl rfl hl.1 rfl (lv_room (Nat.le_of_ble_eq_true rfl)) dX3_money_6 ⟨Nat.le_of_ble_eq_true rfl, Nat.le_of_ble_eq_true rfl⟩) (fun r6 σ' H locs hw hP hD hS => ?_)
  obtain ⟨rfl, hw⟩ := hw
  have hM := hM.trans hw
  refine lv_if_eq (tgt := 21) hx hb dX3_money_9 (by decide) (fun c9 => ?_) (fun c9 => ?_)
  · skip
    refine lv_iconst (v := 0) hx hb dX3_money_21 (by decide) ?_
    exact sg_iret hx hb hr rfl hlocks hP hD hS (Nat.le_of_ble_eq_true rfl) (Nat.le_of_ble_eq_true rfl) dX3_money_22 (⟨by grind [tMem, t1, bI, xI_uS, xL_uS], hM⟩)
  · skip
    refine lv_aload_n hx hb dX3_money_12 rfl (lv_at hl 0 rfl) ?_
    refine va_get (ref := RX3) (v := .ref (ad 6)) hx hb hts wi_X3_money hown hK (sg_one hP (hM.1 0 rfl)) 0 rfl rfl 6 (by decide) (hts (.fieldLink RX3 28 RX3 "money" "[I") (by decide +kernel)) (fun _ h => h) rfl dX3_money_13 ?_
    refine lv_iload_n hx hb dX3_money_16 rfl (lv_at hl 1 rfl) ?_
    refine va_iald hx hb hK (sg_one hP (hM.1 6 rfl)) 0 0 rfl rfl (qM_in h6 (by grind [bI])) dX3_money_17 ?_
    refine lv_goto (tgt := 22) hx hb dX3_money_18 (by decide) ?_
    exact sg_iret hx hb hr rfl hlocks hP hD hS (Nat.le_of_ble_eq_true rfl) (Nat.le_of_ble_eq_true rfl) dX3_money_22 (⟨by grind [tMem, t1, bI, xI_uS, xL_uS], hM⟩)

theorem wi_X3_offerMonth : ∀ w ∈ wsX30, w ∈ wsX3_offerMonth := by decide +kernel
set_option maxHeartbeats 4000000 in
set_option maxRecDepth 100000 in
theorem c_X3_offerMonth (l : Launch) (D : va_G) (Y : Nat → ClassId) (σ : sg_W) (sz : Nat) (ad : Nat → Nat) (M : MS) (i : Int32) (h6 : mem6 M) (hM : MW Y ad M σ) : Met l yX3_offerMonth wsX3_offerMonth ({ frames := 2, cells := 0, slots := 0, locals := 43 } : Room) (va_Pc [.ref (ad 0), .int i] (sg_U D Y σ sz)) (va_Qi (fun r σ' => (tMem M i = 0 → r = sI M 10 (tN i)) ∧ MF Y ad σ (uS M 19 (tMem M i)) σ') (sg_B D σ sz) (sg_A σ sz)) 0 0 (sg_A σ sz) := by
  refine sg_met (cc := cX3_offerMonth) (maxL := 2) (ret := (some .int)) (by decide) rfl (Nat.le_of_ble_eq_true rfl) ?_
  intro p e s m below meth c ls hx hb hml hr hown hts hlocks hnm hP hK hD hN hX hA hS hsz hl
  have hl : lv_has ls 2 [(0, .ref (ad 0)), (1, .int i)] := hl
  refine lv_aload_n hx hb dX3_offerMonth_0 rfl (lv_at hl 0 rfl) ?_
  refine lv_aload_n hx hb dX3_offerMonth_1 rfl (lv_at hl 0 rfl) ?_
  refine lv_iload_n hx hb dX3_offerMonth_2 rfl (lv_at hl 1 rfl) ?_
  refine sg_calli hD hS hA (va_runV (As := [.int i]) (rest := [.ref (ad 0)]) ⟨hx, hb, hml, hown, hts⟩ (c_X3_isMember l D Y _ _ ad M i hM.self) (cwV 1 hts gX3_offerMonth_X3_isMember rfl rfl rfl (by decide +kernel) ⟨Nat.le_of_ble_eq_true rfl, Nat.le_of_ble_eq_true rfl⟩) (sg_preV (q := (RX3, TX3, 20)) (hM.1 0 rfl) rfl hK hP hD hN hX hS hA) rfl rfl hl.1 rfl (lv_room (Nat.le_of_ble_eq_true rfl)) dX3_offerMonth_3 ⟨Nat.le_of_ble_eq_true rfl, Nat.le_of_ble_eq_true rfl⟩) (fun r3 σ' H locs hw hP hD hS => ?_)
  obtain ⟨rfl, rfl⟩ := hw
  refine sg_calli hD hS hA (va_runV (As := [.int (bI (qM M i))]) (rest := []) ⟨hx, hb, hml, hown, hts⟩ (c_X3_may l D Y _ _ ad M ((bI (qM M i))) (bI_01) hM.self) (cwV 1 hts gX3_offerMonth_X3_may rfl rfl rfl (by decide +kernel) ⟨Nat.le_of_ble_eq_true rfl, Nat.le_of_ble_eq_true rfl⟩) (sg_preV (q := (RX3, TX3, 20)) (hM.1 0 rfl) rfl hK hP hD hN hX hS hA) rfl rfl hl.1 rfl (lv_room (Nat.le_of_ble_eq_true rfl)) dX3_offerMonth_6 ⟨Nat.le_of_ble_eq_true rfl, Nat.le_of_ble_eq_true rfl⟩) (fun r6 σ' H locs hw hP hD hS => ?_)
  obtain ⟨rfl, hw⟩ := hw
  have hM := hM.trans hw
  refine lv_if_eq (tgt := 21) hx hb dX3_offerMonth_9 (by decide) (fun c9 => ?_) (fun c9 => ?_)
  · skip
    refine lv_iconst (v := 0) hx hb dX3_offerMonth_21 (by decide) ?_
    exact sg_iret hx hb hr rfl hlocks hP hD hS (Nat.le_of_ble_eq_true rfl) (Nat.le_of_ble_eq_true rfl) dX3_offerMonth_22 (⟨by grind [tMem, t1, bI, xI_uS, xL_uS], hM⟩)
  · skip
    refine lv_aload_n hx hb dX3_offerMonth_12 rfl (lv_at hl 0 rfl) ?_
    refine va_get (ref := RX3) (v := .ref (ad 10)) hx hb hts wi_X3_offerMonth hown hK (sg_one hP (hM.1 0 rfl)) 0 rfl rfl 10 (by decide) (hts (.fieldLink RX3 41 RX3 "first" "[I") (by decide +kernel)) (fun _ h => h) rfl dX3_offerMonth_13 ?_
    refine lv_iload_n hx hb dX3_offerMonth_16 rfl (lv_at hl 1 rfl) ?_
    refine va_iald hx hb hK (sg_one hP (hM.1 10 rfl)) 0 0 rfl rfl (qM_in h6 (by grind [bI])) dX3_offerMonth_17 ?_
    refine lv_goto (tgt := 22) hx hb dX3_offerMonth_18 (by decide) ?_
    exact sg_iret hx hb hr rfl hlocks hP hD hS (Nat.le_of_ble_eq_true rfl) (Nat.le_of_ble_eq_true rfl) dX3_offerMonth_22 (⟨by grind [tMem, t1, bI, xI_uS, xL_uS], hM⟩)

theorem wi_X3_resets : ∀ w ∈ wsX30, w ∈ wsX3_resets := by decide +kernel
set_option maxHeartbeats 4000000 in
set_option maxRecDepth 100000 in
theorem c_X3_resets (l : Launch) (D : va_G) (Y : Nat → ClassId) (σ : sg_W) (sz : Nat) (ad : Nat → Nat) (M : MS) (i : Int32) (h6 : mem6 M) (hM : MW Y ad M σ) : Met l yX3_resets wsX3_resets ({ frames := 2, cells := 0, slots := 0, locals := 43 } : Room) (va_Pc [.ref (ad 0), .int i] (sg_U D Y σ sz)) (va_Qi (fun r σ' => (tMem M i = 0 → r = sI M 12 (tN i)) ∧ MF Y ad σ (uS M 19 (tMem M i)) σ') (sg_B D σ sz) (sg_A σ sz)) 0 0 (sg_A σ sz) := by
  refine sg_met (cc := cX3_resets) (maxL := 2) (ret := (some .int)) (by decide) rfl (Nat.le_of_ble_eq_true rfl) ?_
  intro p e s m below meth c ls hx hb hml hr hown hts hlocks hnm hP hK hD hN hX hA hS hsz hl
  have hl : lv_has ls 2 [(0, .ref (ad 0)), (1, .int i)] := hl
  refine lv_aload_n hx hb dX3_resets_0 rfl (lv_at hl 0 rfl) ?_
  refine lv_aload_n hx hb dX3_resets_1 rfl (lv_at hl 0 rfl) ?_
  refine lv_iload_n hx hb dX3_resets_2 rfl (lv_at hl 1 rfl) ?_
  refine sg_calli hD hS hA (va_runV (As := [.int i]) (rest := [.ref (ad 0)]) ⟨hx, hb, hml, hown, hts⟩ (c_X3_isMember l D Y _ _ ad M i hM.self) (cwV 1 hts gX3_resets_X3_isMember rfl rfl rfl (by decide +kernel) ⟨Nat.le_of_ble_eq_true rfl, Nat.le_of_ble_eq_true rfl⟩) (sg_preV (q := (RX3, TX3, 20)) (hM.1 0 rfl) rfl hK hP hD hN hX hS hA) rfl rfl hl.1 rfl (lv_room (Nat.le_of_ble_eq_true rfl)) dX3_resets_3 ⟨Nat.le_of_ble_eq_true rfl, Nat.le_of_ble_eq_true rfl⟩) (fun r3 σ' H locs hw hP hD hS => ?_)
  obtain ⟨rfl, rfl⟩ := hw
  refine sg_calli hD hS hA (va_runV (As := [.int (bI (qM M i))]) (rest := []) ⟨hx, hb, hml, hown, hts⟩ (c_X3_may l D Y _ _ ad M ((bI (qM M i))) (bI_01) hM.self) (cwV 1 hts gX3_resets_X3_may rfl rfl rfl (by decide +kernel) ⟨Nat.le_of_ble_eq_true rfl, Nat.le_of_ble_eq_true rfl⟩) (sg_preV (q := (RX3, TX3, 20)) (hM.1 0 rfl) rfl hK hP hD hN hX hS hA) rfl rfl hl.1 rfl (lv_room (Nat.le_of_ble_eq_true rfl)) dX3_resets_6 ⟨Nat.le_of_ble_eq_true rfl, Nat.le_of_ble_eq_true rfl⟩) (fun r6 σ' H locs hw hP hD hS => ?_)
  obtain ⟨rfl, hw⟩ := hw
  have hM := hM.trans hw
  refine lv_if_eq (tgt := 21) hx hb dX3_resets_9 (by decide) (fun c9 => ?_) (fun c9 => ?_)
  · skip
    refine lv_iconst (v := 0) hx hb dX3_resets_21 (by decide) ?_
    exact sg_iret hx hb hr rfl hlocks hP hD hS (Nat.le_of_ble_eq_true rfl) (Nat.le_of_ble_eq_true rfl) dX3_resets_22 (⟨by grind [tMem, t1, bI, xI_uS, xL_uS], hM⟩)
  · skip
    refine lv_aload_n hx hb dX3_resets_12 rfl (lv_at hl 0 rfl) ?_
    refine va_get (ref := RX3) (v := .ref (ad 12)) hx hb hts wi_X3_resets hown hK (sg_one hP (hM.1 0 rfl)) 0 rfl rfl 12 (by decide) (hts (.fieldLink RX3 47 RX3 "resets" "[I") (by decide +kernel)) (fun _ h => h) rfl dX3_resets_13 ?_
    refine lv_iload_n hx hb dX3_resets_16 rfl (lv_at hl 1 rfl) ?_
    refine va_iald hx hb hK (sg_one hP (hM.1 12 rfl)) 0 0 rfl rfl (qM_in h6 (by grind [bI])) dX3_resets_17 ?_
    refine lv_goto (tgt := 22) hx hb dX3_resets_18 (by decide) ?_
    exact sg_iret hx hb hr rfl hlocks hP hD hS (Nat.le_of_ble_eq_true rfl) (Nat.le_of_ble_eq_true rfl) dX3_resets_22 (⟨by grind [tMem, t1, bI, xI_uS, xL_uS], hM⟩)

theorem wi_X3_kept : ∀ w ∈ wsX30, w ∈ wsX3_kept := by decide +kernel
set_option maxHeartbeats 4000000 in
set_option maxRecDepth 100000 in
theorem c_X3_kept (l : Launch) (D : va_G) (Y : Nat → ClassId) (σ : sg_W) (sz : Nat) (ad : Nat → Nat) (M : MS) (i : Int32) (h6 : mem6 M) (hM : MW Y ad M σ) : Met l yX3_kept wsX3_kept ({ frames := 2, cells := 0, slots := 0, locals := 43 } : Room) (va_Pc [.ref (ad 0), .int i] (sg_U D Y σ sz)) (va_Ql (fun r σ' => (tMem M i = 0 → r = sL M 9 (tN i)) ∧ MF Y ad σ (uS M 19 (tMem M i)) σ') (sg_B D σ sz) (sg_A σ sz)) 0 0 (sg_A σ sz) := by
  refine sg_met (cc := cX3_kept) (maxL := 2) (ret := (some .long)) (by decide) rfl (Nat.le_of_ble_eq_true rfl) ?_
  intro p e s m below meth c ls hx hb hml hr hown hts hlocks hnm hP hK hD hN hX hA hS hsz hl
  have hl : lv_has ls 2 [(0, .ref (ad 0)), (1, .int i)] := hl
  refine lv_aload_n hx hb dX3_kept_0 rfl (lv_at hl 0 rfl) ?_
  refine lv_aload_n hx hb dX3_kept_1 rfl (lv_at hl 0 rfl) ?_
  refine lv_iload_n hx hb dX3_kept_2 rfl (lv_at hl 1 rfl) ?_
  refine sg_calli hD hS hA (va_runV (As := [.int i]) (rest := [.ref (ad 0)]) ⟨hx, hb, hml, hown, hts⟩ (c_X3_isMember l D Y _ _ ad M i hM.self) (cwV 1 hts gX3_kept_X3_isMember rfl rfl rfl (by decide +kernel) ⟨Nat.le_of_ble_eq_true rfl, Nat.le_of_ble_eq_true rfl⟩) (sg_preV (q := (RX3, TX3, 20)) (hM.1 0 rfl) rfl hK hP hD hN hX hS hA) rfl rfl hl.1 rfl (lv_room (Nat.le_of_ble_eq_true rfl)) dX3_kept_3 ⟨Nat.le_of_ble_eq_true rfl, Nat.le_of_ble_eq_true rfl⟩) (fun r3 σ' H locs hw hP hD hS => ?_)
  obtain ⟨rfl, rfl⟩ := hw
  refine sg_calli hD hS hA (va_runV (As := [.int (bI (qM M i))]) (rest := []) ⟨hx, hb, hml, hown, hts⟩ (c_X3_may l D Y _ _ ad M ((bI (qM M i))) (bI_01) hM.self) (cwV 1 hts gX3_kept_X3_may rfl rfl rfl (by decide +kernel) ⟨Nat.le_of_ble_eq_true rfl, Nat.le_of_ble_eq_true rfl⟩) (sg_preV (q := (RX3, TX3, 20)) (hM.1 0 rfl) rfl hK hP hD hN hX hS hA) rfl rfl hl.1 rfl (lv_room (Nat.le_of_ble_eq_true rfl)) dX3_kept_6 ⟨Nat.le_of_ble_eq_true rfl, Nat.le_of_ble_eq_true rfl⟩) (fun r6 σ' H locs hw hP hD hS => ?_)
  obtain ⟨rfl, hw⟩ := hw
  have hM := hM.trans hw
  refine lv_if_eq (tgt := 21) hx hb dX3_kept_9 (by decide) (fun c9 => ?_) (fun c9 => ?_)
  · skip
    refine lv_lconst (v := 0) hx hb dX3_kept_21 (by decide) ?_
    exact sg_lret hx hb hr hlocks hP hD hS (Nat.le_of_ble_eq_true rfl) (Nat.le_of_ble_eq_true rfl) dX3_kept_22 (⟨by grind [tMem, t1, bI, xI_uS, xL_uS], hM⟩)
  · skip
    refine lv_aload_n hx hb dX3_kept_12 rfl (lv_at hl 0 rfl) ?_
    refine va_get (ref := RX3) (v := .ref (ad 9)) hx hb hts wi_X3_kept hown hK (sg_one hP (hM.1 0 rfl)) 0 rfl rfl 9 (by decide) (hts (.fieldLink RX3 38 RX3 "kept" "[J") (by decide +kernel)) (fun _ h => h) rfl dX3_kept_13 ?_
    refine lv_iload_n hx hb dX3_kept_16 rfl (lv_at hl 1 rfl) ?_
    refine va_lald hx hb hK (sg_one hP (hM.1 9 rfl)) 0 1 rfl rfl (qM_in h6 (by grind [bI])) dX3_kept_17 ?_
    refine lv_goto (tgt := 22) hx hb dX3_kept_18 (by decide) ?_
    exact sg_lret hx hb hr hlocks hP hD hS (Nat.le_of_ble_eq_true rfl) (Nat.le_of_ble_eq_true rfl) dX3_kept_22 (⟨by grind [tMem, t1, bI, xI_uS, xL_uS], hM⟩)

theorem wi_X3_pay : ∀ w ∈ wsX30, w ∈ wsX3_pay := by decide +kernel
set_option maxHeartbeats 4000000 in
set_option maxRecDepth 100000 in
theorem c_X3_pay (l : Launch) (D : va_G) (Y : Nat → ClassId) (σ : sg_W) (sz : Nat) (ad : Nat → Nat) (M : MS) (i : Int32) (h6 : mem6 M) (hM : MW Y ad M σ) : Met l yX3_pay wsX3_pay ({ frames := 2, cells := 0, slots := 0, locals := 43 } : Room) (va_Pc [.ref (ad 0), .int i] (sg_U D Y σ sz)) (va_Ql (fun r σ' => (tMem M i = 0 → r = sL M 13 (tN i)) ∧ MF Y ad σ (uS M 19 (tMem M i)) σ') (sg_B D σ sz) (sg_A σ sz)) 0 0 (sg_A σ sz) := by
  refine sg_met (cc := cX3_pay) (maxL := 2) (ret := (some .long)) (by decide) rfl (Nat.le_of_ble_eq_true rfl) ?_
  intro p e s m below meth c ls hx hb hml hr hown hts hlocks hnm hP hK hD hN hX hA hS hsz hl
  have hl : lv_has ls 2 [(0, .ref (ad 0)), (1, .int i)] := hl
  refine lv_aload_n hx hb dX3_pay_0 rfl (lv_at hl 0 rfl) ?_
  refine lv_aload_n hx hb dX3_pay_1 rfl (lv_at hl 0 rfl) ?_
  refine lv_iload_n hx hb dX3_pay_2 rfl (lv_at hl 1 rfl) ?_
  refine sg_calli hD hS hA (va_runV (As := [.int i]) (rest := [.ref (ad 0)]) ⟨hx, hb, hml, hown, hts⟩ (c_X3_isMember l D Y _ _ ad M i hM.self) (cwV 1 hts gX3_pay_X3_isMember rfl rfl rfl (by decide +kernel) ⟨Nat.le_of_ble_eq_true rfl, Nat.le_of_ble_eq_true rfl⟩) (sg_preV (q := (RX3, TX3, 20)) (hM.1 0 rfl) rfl hK hP hD hN hX hS hA) rfl rfl hl.1 rfl (lv_room (Nat.le_of_ble_eq_true rfl)) dX3_pay_3 ⟨Nat.le_of_ble_eq_true rfl, Nat.le_of_ble_eq_true rfl⟩) (fun r3 σ' H locs hw hP hD hS => ?_)
  obtain ⟨rfl, rfl⟩ := hw
  refine sg_calli hD hS hA (va_runV (As := [.int (bI (qM M i))]) (rest := []) ⟨hx, hb, hml, hown, hts⟩ (c_X3_may l D Y _ _ ad M ((bI (qM M i))) (bI_01) hM.self) (cwV 1 hts gX3_pay_X3_may rfl rfl rfl (by decide +kernel) ⟨Nat.le_of_ble_eq_true rfl, Nat.le_of_ble_eq_true rfl⟩) (sg_preV (q := (RX3, TX3, 20)) (hM.1 0 rfl) rfl hK hP hD hN hX hS hA) rfl rfl hl.1 rfl (lv_room (Nat.le_of_ble_eq_true rfl)) dX3_pay_6 ⟨Nat.le_of_ble_eq_true rfl, Nat.le_of_ble_eq_true rfl⟩) (fun r6 σ' H locs hw hP hD hS => ?_)
  obtain ⟨rfl, hw⟩ := hw
  have hM := hM.trans hw
  refine lv_if_eq (tgt := 21) hx hb dX3_pay_9 (by decide) (fun c9 => ?_) (fun c9 => ?_)
  · skip
    refine lv_lconst (v := 0) hx hb dX3_pay_21 (by decide) ?_
    exact sg_lret hx hb hr hlocks hP hD hS (Nat.le_of_ble_eq_true rfl) (Nat.le_of_ble_eq_true rfl) dX3_pay_22 (⟨by grind [tMem, t1, bI, xI_uS, xL_uS], hM⟩)
  · skip
    refine lv_aload_n hx hb dX3_pay_12 rfl (lv_at hl 0 rfl) ?_
    refine va_get (ref := RX3) (v := .ref (ad 13)) hx hb hts wi_X3_pay hown hK (sg_one hP (hM.1 0 rfl)) 0 rfl rfl 13 (by decide) (hts (.fieldLink RX3 50 RX3 "pay" "[J") (by decide +kernel)) (fun _ h => h) rfl dX3_pay_13 ?_
    refine lv_iload_n hx hb dX3_pay_16 rfl (lv_at hl 1 rfl) ?_
    refine va_lald hx hb hK (sg_one hP (hM.1 13 rfl)) 0 1 rfl rfl (qM_in h6 (by grind [bI])) dX3_pay_17 ?_
    refine lv_goto (tgt := 22) hx hb dX3_pay_18 (by decide) ?_
    exact sg_lret hx hb hr hlocks hP hD hS (Nat.le_of_ble_eq_true rfl) (Nat.le_of_ble_eq_true rfl) dX3_pay_22 (⟨by grind [tMem, t1, bI, xI_uS, xL_uS], hM⟩)

theorem wi_X3_gain : ∀ w ∈ wsX30, w ∈ wsX3_gain := by decide +kernel
set_option maxHeartbeats 4000000 in
set_option maxRecDepth 100000 in
theorem c_X3_gain (l : Launch) (D : va_G) (Y : Nat → ClassId) (σ : sg_W) (sz : Nat) (ad : Nat → Nat) (M : MS) (i : Int32) (h6 : mem6 M) (hM : MW Y ad M σ) : Met l yX3_gain wsX3_gain ({ frames := 2, cells := 0, slots := 0, locals := 43 } : Room) (va_Pc [.ref (ad 0), .int i] (sg_U D Y σ sz)) (va_Ql (fun r σ' => (tMem M i = 0 → r = sL M 14 (tN i)) ∧ MF Y ad σ (uS M 19 (tMem M i)) σ') (sg_B D σ sz) (sg_A σ sz)) 0 0 (sg_A σ sz) := by
  refine sg_met (cc := cX3_gain) (maxL := 2) (ret := (some .long)) (by decide) rfl (Nat.le_of_ble_eq_true rfl) ?_
  intro p e s m below meth c ls hx hb hml hr hown hts hlocks hnm hP hK hD hN hX hA hS hsz hl
  have hl : lv_has ls 2 [(0, .ref (ad 0)), (1, .int i)] := hl
  refine lv_aload_n hx hb dX3_gain_0 rfl (lv_at hl 0 rfl) ?_
  refine lv_aload_n hx hb dX3_gain_1 rfl (lv_at hl 0 rfl) ?_
  refine lv_iload_n hx hb dX3_gain_2 rfl (lv_at hl 1 rfl) ?_
  refine sg_calli hD hS hA (va_runV (As := [.int i]) (rest := [.ref (ad 0)]) ⟨hx, hb, hml, hown, hts⟩ (c_X3_isMember l D Y _ _ ad M i hM.self) (cwV 1 hts gX3_gain_X3_isMember rfl rfl rfl (by decide +kernel) ⟨Nat.le_of_ble_eq_true rfl, Nat.le_of_ble_eq_true rfl⟩) (sg_preV (q := (RX3, TX3, 20)) (hM.1 0 rfl) rfl hK hP hD hN hX hS hA) rfl rfl hl.1 rfl (lv_room (Nat.le_of_ble_eq_true rfl)) dX3_gain_3 ⟨Nat.le_of_ble_eq_true rfl, Nat.le_of_ble_eq_true rfl⟩) (fun r3 σ' H locs hw hP hD hS => ?_)
  obtain ⟨rfl, rfl⟩ := hw
  refine sg_calli hD hS hA (va_runV (As := [.int (bI (qM M i))]) (rest := []) ⟨hx, hb, hml, hown, hts⟩ (c_X3_may l D Y _ _ ad M ((bI (qM M i))) (bI_01) hM.self) (cwV 1 hts gX3_gain_X3_may rfl rfl rfl (by decide +kernel) ⟨Nat.le_of_ble_eq_true rfl, Nat.le_of_ble_eq_true rfl⟩) (sg_preV (q := (RX3, TX3, 20)) (hM.1 0 rfl) rfl hK hP hD hN hX hS hA) rfl rfl hl.1 rfl (lv_room (Nat.le_of_ble_eq_true rfl)) dX3_gain_6 ⟨Nat.le_of_ble_eq_true rfl, Nat.le_of_ble_eq_true rfl⟩) (fun r6 σ' H locs hw hP hD hS => ?_)
  obtain ⟨rfl, hw⟩ := hw
  have hM := hM.trans hw
  refine lv_if_eq (tgt := 21) hx hb dX3_gain_9 (by decide) (fun c9 => ?_) (fun c9 => ?_)
  · skip
    refine lv_lconst (v := 0) hx hb dX3_gain_21 (by decide) ?_
    exact sg_lret hx hb hr hlocks hP hD hS (Nat.le_of_ble_eq_true rfl) (Nat.le_of_ble_eq_true rfl) dX3_gain_22 (⟨by grind [tMem, t1, bI, xI_uS, xL_uS], hM⟩)
  · skip
    refine lv_aload_n hx hb dX3_gain_12 rfl (lv_at hl 0 rfl) ?_
    refine va_get (ref := RX3) (v := .ref (ad 14)) hx hb hts wi_X3_gain hown hK (sg_one hP (hM.1 0 rfl)) 0 rfl rfl 14 (by decide) (hts (.fieldLink RX3 53 RX3 "gain" "[J") (by decide +kernel)) (fun _ h => h) rfl dX3_gain_13 ?_
    refine lv_iload_n hx hb dX3_gain_16 rfl (lv_at hl 1 rfl) ?_
    refine va_lald hx hb hK (sg_one hP (hM.1 14 rfl)) 0 1 rfl rfl (qM_in h6 (by grind [bI])) dX3_gain_17 ?_
    refine lv_goto (tgt := 22) hx hb dX3_gain_18 (by decide) ?_
    exact sg_lret hx hb hr hlocks hP hD hS (Nat.le_of_ble_eq_true rfl) (Nat.le_of_ble_eq_true rfl) dX3_gain_22 (⟨by grind [tMem, t1, bI, xI_uS, xL_uS], hM⟩)

theorem wi_X3_offerPrice : ∀ w ∈ wsX30, w ∈ wsX3_offerPrice := by decide +kernel
set_option maxHeartbeats 4000000 in
set_option maxRecDepth 100000 in
theorem c_X3_offerPrice (l : Launch) (D : va_G) (Y : Nat → ClassId) (σ : sg_W) (sz : Nat) (ad : Nat → Nat) (M : MS) (i : Int32) (h6 : mem6 M) (hf : ∀ k, k < 6 → vp_in (sI M 10 k) 60) (hM : MW Y ad M σ) : Met l yX3_offerPrice wsX3_offerPrice ({ frames := 2, cells := 0, slots := 0, locals := 43 } : Room) (va_Pc [.ref (ad 0), .int i] (sg_U D Y σ sz)) (va_Qi (fun r σ' => (tMem M i = 0 → r = sI M 1 (tN (sI M 10 (tN i)))) ∧ MF Y ad σ (uS M 19 (tMem M i)) σ') (sg_B D σ sz) (sg_A σ sz)) 0 0 (sg_A σ sz) := by
  refine sg_met (cc := cX3_offerPrice) (maxL := 2) (ret := (some .int)) (by decide) rfl (Nat.le_of_ble_eq_true rfl) ?_
  intro p e s m below meth c ls hx hb hml hr hown hts hlocks hnm hP hK hD hN hX hA hS hsz hl
  have hl : lv_has ls 2 [(0, .ref (ad 0)), (1, .int i)] := hl
  refine lv_aload_n hx hb dX3_offerPrice_0 rfl (lv_at hl 0 rfl) ?_
  refine lv_aload_n hx hb dX3_offerPrice_1 rfl (lv_at hl 0 rfl) ?_
  refine lv_iload_n hx hb dX3_offerPrice_2 rfl (lv_at hl 1 rfl) ?_
  refine sg_calli hD hS hA (va_runV (As := [.int i]) (rest := [.ref (ad 0)]) ⟨hx, hb, hml, hown, hts⟩ (c_X3_isMember l D Y _ _ ad M i hM.self) (cwV 1 hts gX3_offerPrice_X3_isMember rfl rfl rfl (by decide +kernel) ⟨Nat.le_of_ble_eq_true rfl, Nat.le_of_ble_eq_true rfl⟩) (sg_preV (q := (RX3, TX3, 20)) (hM.1 0 rfl) rfl hK hP hD hN hX hS hA) rfl rfl hl.1 rfl (lv_room (Nat.le_of_ble_eq_true rfl)) dX3_offerPrice_3 ⟨Nat.le_of_ble_eq_true rfl, Nat.le_of_ble_eq_true rfl⟩) (fun r3 σ' H locs hw hP hD hS => ?_)
  obtain ⟨rfl, rfl⟩ := hw
  refine sg_calli hD hS hA (va_runV (As := [.int (bI (qM M i))]) (rest := []) ⟨hx, hb, hml, hown, hts⟩ (c_X3_may l D Y _ _ ad M ((bI (qM M i))) (bI_01) hM.self) (cwV 1 hts gX3_offerPrice_X3_may rfl rfl rfl (by decide +kernel) ⟨Nat.le_of_ble_eq_true rfl, Nat.le_of_ble_eq_true rfl⟩) (sg_preV (q := (RX3, TX3, 20)) (hM.1 0 rfl) rfl hK hP hD hN hX hS hA) rfl rfl hl.1 rfl (lv_room (Nat.le_of_ble_eq_true rfl)) dX3_offerPrice_6 ⟨Nat.le_of_ble_eq_true rfl, Nat.le_of_ble_eq_true rfl⟩) (fun r6 σ' H locs hw hP hD hS => ?_)
  obtain ⟨rfl, hw⟩ := hw
  have hM := hM.trans hw
  refine lv_if_eq (tgt := 26) hx hb dX3_offerPrice_9 (by decide) (fun c9 => ?_) (fun c9 => ?_)
  · skip
    refine lv_iconst (v := 0) hx hb dX3_offerPrice_26 (by decide) ?_
    exact sg_iret hx hb hr rfl hlocks hP hD hS (Nat.le_of_ble_eq_true rfl) (Nat.le_of_ble_eq_true rfl) dX3_offerPrice_27 (⟨by grind [tMem, t1, bI, xI_uS], hM⟩)
  · skip
    refine lv_aload_n hx hb dX3_offerPrice_12 rfl (lv_at hl 0 rfl) ?_
    refine va_get (ref := RX3) (v := .ref (ad 1)) hx hb hts wi_X3_offerPrice hown hK (sg_one hP (hM.1 0 rfl)) 0 rfl rfl 1 (by decide) (hts (.fieldLink RX3 13 RX3 "price" "[I") (by decide +kernel)) (fun _ h => h) rfl dX3_offerPrice_13 ?_
    refine lv_aload_n hx hb dX3_offerPrice_16 rfl (lv_at hl 0 rfl) ?_
    refine va_get (ref := RX3) (v := .ref (ad 10)) hx hb hts wi_X3_offerPrice hown hK (sg_one hP (hM.1 0 rfl)) 0 rfl rfl 10 (by decide) (hts (.fieldLink RX3 41 RX3 "first" "[I") (by decide +kernel)) (fun _ h => h) rfl dX3_offerPrice_17 ?_
    refine lv_iload_n hx hb dX3_offerPrice_20 rfl (lv_at hl 1 rfl) ?_
    refine va_iald hx hb hK (sg_one hP (hM.1 10 rfl)) 0 0 rfl rfl (qM_in h6 (by grind [bI])) dX3_offerPrice_21 ?_
    refine va_iald hx hb hK (sg_one hP (hM.1 1 rfl)) 0 0 rfl rfl (hf _ (vp_lt (qM_in h6 (by grind [bI])))) dX3_offerPrice_22 ?_
    refine lv_goto (tgt := 27) hx hb dX3_offerPrice_23 (by decide) ?_
    exact sg_iret hx hb hr rfl hlocks hP hD hS (Nat.le_of_ble_eq_true rfl) (Nat.le_of_ble_eq_true rfl) dX3_offerPrice_27 (⟨by grind [tMem, t1, bI, xI_uS], hM⟩)

theorem wi_X3_traced : ∀ w ∈ wsX30, w ∈ wsX3_traced := by decide +kernel
set_option maxHeartbeats 4000000 in
set_option maxRecDepth 100000 in
theorem c_X3_traced (l : Launch) (D : va_G) (Y : Nat → ClassId) (σ : sg_W) (sz : Nat) (ad : Nat → Nat) (M : MS) (i : Int32) (h6 : mem6 M) (hM : MW Y ad M σ) : Met l yX3_traced wsX3_traced ({ frames := 2, cells := 0, slots := 0, locals := 43 } : Room) (va_Pc [.ref (ad 0), .int i] (sg_U D Y σ sz)) (va_Ql (fun r σ' => (tMem M i = 0 → r = sL M 8 (tN i) + (sI M 6 (tN i)).toInt64 + (sI M 7 (tN i)).toInt64) ∧ MF Y ad σ (uS M 19 (tMem M i)) σ') (sg_B D σ sz) (sg_A σ sz)) 0 0 (sg_A σ sz) := by
  refine sg_met (cc := cX3_traced) (maxL := 2) (ret := (some .long)) (by decide) rfl (Nat.le_of_ble_eq_true rfl) ?_
  intro p e s m below meth c ls hx hb hml hr hown hts hlocks hnm hP hK hD hN hX hA hS hsz hl
  have hl : lv_has ls 2 [(0, .ref (ad 0)), (1, .int i)] := hl
  refine lv_aload_n hx hb dX3_traced_0 rfl (lv_at hl 0 rfl) ?_
  refine lv_aload_n hx hb dX3_traced_1 rfl (lv_at hl 0 rfl) ?_
  refine lv_iload_n hx hb dX3_traced_2 rfl (lv_at hl 1 rfl) ?_
  refine sg_calli hD hS hA (va_runV (As := [.int i]) (rest := [.ref (ad 0)]) ⟨hx, hb, hml, hown, hts⟩ (c_X3_isMember l D Y _ _ ad M i hM.self) (cwV 1 hts gX3_traced_X3_isMember rfl rfl rfl (by decide +kernel) ⟨Nat.le_of_ble_eq_true rfl, Nat.le_of_ble_eq_true rfl⟩) (sg_preV (q := (RX3, TX3, 20)) (hM.1 0 rfl) rfl hK hP hD hN hX hS hA) rfl rfl hl.1 rfl (lv_room (Nat.le_of_ble_eq_true rfl)) dX3_traced_3 ⟨Nat.le_of_ble_eq_true rfl, Nat.le_of_ble_eq_true rfl⟩) (fun r3 σ' H locs hw hP hD hS => ?_)
  obtain ⟨rfl, rfl⟩ := hw
  refine sg_calli hD hS hA (va_runV (As := [.int (bI (qM M i))]) (rest := []) ⟨hx, hb, hml, hown, hts⟩ (c_X3_may l D Y _ _ ad M ((bI (qM M i))) (bI_01) hM.self) (cwV 1 hts gX3_traced_X3_may rfl rfl rfl (by decide +kernel) ⟨Nat.le_of_ble_eq_true rfl, Nat.le_of_ble_eq_true rfl⟩) (sg_preV (q := (RX3, TX3, 20)) (hM.1 0 rfl) rfl hK hP hD hN hX hS hA) rfl rfl hl.1 rfl (lv_room (Nat.le_of_ble_eq_true rfl)) dX3_traced_6 ⟨Nat.le_of_ble_eq_true rfl, Nat.le_of_ble_eq_true rfl⟩) (fun r6 σ' H locs hw hP hD hS => ?_)
  obtain ⟨rfl, hw⟩ := hw
  have hM := hM.trans hw
  refine lv_if_eq (tgt := 37) hx hb dX3_traced_9 (by decide) (fun c9 => ?_) (fun c9 => ?_)
  · skip
    refine lv_lconst (v := 0) hx hb dX3_traced_37 (by decide) ?_
    exact sg_lret hx hb hr hlocks hP hD hS (Nat.le_of_ble_eq_true rfl) (Nat.le_of_ble_eq_true rfl) dX3_traced_38 (⟨by grind -ring [tMem, t1, bI, xI_uS, xL_uS], hM⟩)
  · skip
    refine lv_aload_n hx hb dX3_traced_12 rfl (lv_at hl 0 rfl) ?_
    refine va_get (ref := RX3) (v := .ref (ad 8)) hx hb hts wi_X3_traced hown hK (sg_one hP (hM.1 0 rfl)) 0 rfl rfl 8 (by decide) (hts (.fieldLink RX3 34 RX3 "spent" "[J") (by decide +kernel)) (fun _ h => h) rfl dX3_traced_13 ?_
    refine lv_iload_n hx hb dX3_traced_16 rfl (lv_at hl 1 rfl) ?_
    refine va_lald hx hb hK (sg_one hP (hM.1 8 rfl)) 0 1 rfl rfl (qM_in h6 (by grind [bI])) dX3_traced_17 ?_
    refine lv_aload_n hx hb dX3_traced_18 rfl (lv_at hl 0 rfl) ?_
    refine va_get (ref := RX3) (v := .ref (ad 6)) hx hb hts wi_X3_traced hown hK (sg_one hP (hM.1 0 rfl)) 0 rfl rfl 6 (by decide) (hts (.fieldLink RX3 28 RX3 "money" "[I") (by decide +kernel)) (fun _ h => h) rfl dX3_traced_19 ?_
    refine lv_iload_n hx hb dX3_traced_22 rfl (lv_at hl 1 rfl) ?_
    refine va_iald hx hb hK (sg_one hP (hM.1 6 rfl)) 0 0 rfl rfl (qM_in h6 (by grind [bI])) dX3_traced_23 ?_
    refine lv_i2l hx hb dX3_traced_24 rfl ?_
    refine lv_ladd hx hb dX3_traced_25 ?_
    refine lv_aload_n hx hb dX3_traced_26 rfl (lv_at hl 0 rfl) ?_
    refine va_get (ref := RX3) (v := .ref (ad 7)) hx hb hts wi_X3_traced hown hK (sg_one hP (hM.1 0 rfl)) 0 rfl rfl 7 (by decide) (hts (.fieldLink RX3 31 RX3 "back" "[I") (by decide +kernel)) (fun _ h => h) rfl dX3_traced_27 ?_
    refine lv_iload_n hx hb dX3_traced_30 rfl (lv_at hl 1 rfl) ?_
    refine va_iald hx hb hK (sg_one hP (hM.1 7 rfl)) 0 0 rfl rfl (qM_in h6 (by grind [bI])) dX3_traced_31 ?_
    refine lv_i2l hx hb dX3_traced_32 rfl ?_
    refine lv_ladd hx hb dX3_traced_33 ?_
    refine lv_goto (tgt := 38) hx hb dX3_traced_34 (by decide) ?_
    exact sg_lret hx hb hr hlocks hP hD hS (Nat.le_of_ble_eq_true rfl) (Nat.le_of_ble_eq_true rfl) dX3_traced_38 (⟨by grind -ring [tMem, t1, bI, xI_uS, xL_uS], hM⟩)

set_option maxHeartbeats 4000000 in
set_option maxRecDepth 100000 in
theorem c_X3_shares (l : Launch) (D : va_G) (Y : Nat → ClassId) (σ : sg_W) (sz : Nat) (ad : Nat → Nat) (M : MS) (i : Int32) (h6 : mem6 M) (hM : MW Y ad M σ) : Met l yX3_shares wsX3_shares ({ frames := 2, cells := 0, slots := 0, locals := 43 } : Room) (va_Pc [.ref (ad 0), .int i] (sg_U D Y σ sz)) (va_Qi (fun r σ' => (tMem M i = 0 → r = sH M (tN i) 10) ∧ MF Y ad σ (uS M 19 (tMem M i)) σ') (sg_B D σ sz) (sg_A σ sz)) 0 0 (sg_A σ sz) := by
  refine sg_met (cc := cX3_shares) (maxL := 2) (ret := (some .int)) (by decide) rfl (Nat.le_of_ble_eq_true rfl) ?_
  intro p e s m below meth c ls hx hb hml hr hown hts hlocks hnm hP hK hD hN hX hA hS hsz hl
  have hl : lv_has ls 2 [(0, .ref (ad 0)), (1, .int i)] := hl
  refine lv_aload_n hx hb dX3_shares_0 rfl (lv_at hl 0 rfl) ?_
  refine lv_aload_n hx hb dX3_shares_1 rfl (lv_at hl 0 rfl) ?_
  refine lv_iload_n hx hb dX3_shares_2 rfl (lv_at hl 1 rfl) ?_
  refine sg_calli hD hS hA (va_runV (As := [.int i]) (rest := [.ref (ad 0)]) ⟨hx, hb, hml, hown, hts⟩ (c_X3_isMember l D Y _ _ ad M i hM.self) (cwV 1 hts gX3_shares_X3_isMember rfl rfl rfl (by decide +kernel) ⟨Nat.le_of_ble_eq_true rfl, Nat.le_of_ble_eq_true rfl⟩) (sg_preV (q := (RX3, TX3, 20)) (hM.1 0 rfl) rfl hK hP hD hN hX hS hA) rfl rfl hl.1 rfl (lv_room (Nat.le_of_ble_eq_true rfl)) dX3_shares_3 ⟨Nat.le_of_ble_eq_true rfl, Nat.le_of_ble_eq_true rfl⟩) (fun r3 σ' H locs hw hP hD hS => ?_)
  obtain ⟨rfl, rfl⟩ := hw
  refine sg_calli hD hS hA (va_runV (As := [.int (bI (qM M i))]) (rest := []) ⟨hx, hb, hml, hown, hts⟩ (c_X3_may l D Y _ _ ad M ((bI (qM M i))) (bI_01) hM.self) (cwV 1 hts gX3_shares_X3_may rfl rfl rfl (by decide +kernel) ⟨Nat.le_of_ble_eq_true rfl, Nat.le_of_ble_eq_true rfl⟩) (sg_preV (q := (RX3, TX3, 20)) (hM.1 0 rfl) rfl hK hP hD hN hX hS hA) rfl rfl hl.1 rfl (lv_room (Nat.le_of_ble_eq_true rfl)) dX3_shares_6 ⟨Nat.le_of_ble_eq_true rfl, Nat.le_of_ble_eq_true rfl⟩) (fun r6 σ' H locs hw hP hD hS => ?_)
  obtain ⟨rfl, hw⟩ := hw
  have hM := hM.trans hw
  refine lv_if_eq (tgt := 20) hx hb dX3_shares_9 (by decide) (fun c9 => ?_) (fun c9 => ?_)
  · skip
    refine lv_iconst (v := 0) hx hb dX3_shares_20 (by decide) ?_
    exact sg_iret hx hb hr rfl hlocks hP hD hS (Nat.le_of_ble_eq_true rfl) (Nat.le_of_ble_eq_true rfl) dX3_shares_21 (⟨by grind [tMem, t1, bI, sH_uS], hM⟩)
  · skip
    have hi6 : vp_in i 6 := qM_in h6 (by grind [bI])
    have ei := vp_eq hi6 (by decide)
    rw [ei] at hl
    refine lv_aload_n hx hb dX3_shares_12 rfl (lv_at hl 0 rfl) ?_
    refine lv_iload_n hx hb dX3_shares_13 rfl (lv_at hl 1 rfl) ?_
    refine sg_calli hD hS hA (va_runV (As := [.int (nI (tN i))]) (rest := []) ⟨hx, hb, hml, hown, hts⟩ (c_X3_sharesOf l D Y _ _ ad (uS M 19 (t1 ((bI (qM M i))))) (tN i) (vp_lt hi6) hM.self) (cwV 1 hts gX3_shares_X3_sharesOf rfl rfl rfl (by decide +kernel) ⟨Nat.le_of_ble_eq_true rfl, Nat.le_of_ble_eq_true rfl⟩) (sg_preV (q := (RX3, TX3, 20)) (hM.1 0 rfl) rfl hK hP hD hN hX hS hA) rfl rfl hl.1 rfl (lv_room (Nat.le_of_ble_eq_true rfl)) dX3_shares_14 ⟨Nat.le_of_ble_eq_true rfl, Nat.le_of_ble_eq_true rfl⟩) (fun r14 σ' H locs hw hP hD hS => ?_)
    obtain ⟨er14, rfl⟩ := hw
    refine lv_goto (tgt := 21) hx hb dX3_shares_17 (by decide) ?_
    exact sg_iret hx hb hr rfl hlocks hP hD hS (Nat.le_of_ble_eq_true rfl) (Nat.le_of_ble_eq_true rfl) dX3_shares_21 (⟨by grind [tMem, t1, bI, sH_uS], hM⟩)

theorem wi_X3_month : ∀ w ∈ wsX30, w ∈ wsX3_month := by decide +kernel
set_option maxHeartbeats 4000000 in
set_option maxRecDepth 100000 in
theorem c_X3_month (l : Launch) (D : va_G) (Y : Nat → ClassId) (σ : sg_W) (sz : Nat) (ad : Nat → Nat) (M : MS) (hM : MW Y ad M σ) : Met l yX3_month wsX3_month ({ frames := 0, cells := 0, slots := 0, locals := 0 } : Room) (va_Pc [.ref (ad 0)] (sg_U D Y σ sz)) (va_Qi (fun r σ' => r = sS M 0 ∧ MF Y ad σ (uS M 19 0) σ') (sg_B D σ sz) (sg_A σ sz)) 0 0 (sg_A σ sz) := by
  refine sg_met (cc := cX3_month) (maxL := 1) (ret := (some .int)) (by decide) rfl (Nat.le_of_ble_eq_true rfl) ?_
  intro p e s m below meth c ls hx hb hml hr hown hts hlocks hnm hP hK hD hN hX hA hS hsz hl
  have hl : lv_has ls 1 [(0, .ref (ad 0))] := hl
  refine lv_aload_n hx hb dX3_month_0 rfl (lv_at hl 0 rfl) ?_
  refine lv_iconst (v := 0) hx hb dX3_month_1 (by decide) ?_
  refine sg_put (ref := RX3) (ty := .int) (v := .int 0) hx hb hts wi_X3_month tyX3 tyX3_ok nmX3 hown hK hP hD hS (hM.1 0 rfl) rfl 19 (by decide) (hts (.fieldLink RX3 68 RX3 "thrown" "I") (by decide +kernel)) (fun _ h => h) rfl (by decide +kernel) rfl rfl (Nat.le_of_ble_eq_true rfl) dX3_month_2 (fun H locs hP hD hS => ?_)
  have hM := hM.s19 (v := 0)
  refine lv_aload_n hx hb dX3_month_5 rfl (lv_at hl 0 rfl) ?_
  refine va_get (ref := RX3) (v := .int (sS (uS M 19 0) 0)) hx hb hts wi_X3_month hown hK (sg_one hP (hM.1 0 rfl)) 0 rfl rfl 0 (by decide) (hts (.fieldLink RX3 9 RX3 "month" "I") (by decide +kernel)) (fun _ h => h) rfl dX3_month_6 ?_
  exact sg_iret hx hb hr rfl hlocks hP hD hS (Nat.le_of_ble_eq_true rfl) (Nat.le_of_ble_eq_true rfl) dX3_month_9 (⟨rfl, hM⟩)

theorem wi_X3_ceiling : ∀ w ∈ wsX30, w ∈ wsX3_ceiling := by decide +kernel
set_option maxHeartbeats 4000000 in
set_option maxRecDepth 100000 in
theorem c_X3_ceiling (l : Launch) (D : va_G) (Y : Nat → ClassId) (σ : sg_W) (sz : Nat) (ad : Nat → Nat) (M : MS) (x : Int32) (hM : MW Y ad M σ) : Met l yX3_ceiling wsX3_ceiling ({ frames := 1, cells := 0, slots := 0, locals := 22 } : Room) (va_Pc [.ref (ad 0), .int x] (sg_U D Y σ sz)) (va_Qi (fun r σ' => (tCeil x = 0 → r = sS M 2) ∧ MF Y ad σ (if tCeil x = 0 then uS (uS M 19 0) 2 x else uS M 19 (tCeil x)) σ') (sg_B D σ sz) (sg_A σ sz)) 0 0 (sg_A σ sz) := by
  refine sg_met (cc := cX3_ceiling) (maxL := 3) (ret := (some .int)) (by decide) rfl (Nat.le_of_ble_eq_true rfl) ?_
  intro p e s m below meth c ls hx hb hml hr hown hts hlocks hnm hP hK hD hN hX hA hS hsz hl
  have hl : lv_has ls 3 [(0, .ref (ad 0)), (1, .int x)] := hl
  refine lv_aload_n hx hb dX3_ceiling_0 rfl (lv_at hl 0 rfl) ?_
  refine lv_iload_n hx hb dX3_ceiling_1 rfl (lv_at hl 1 rfl) ?_
  refine lv_iconst (v := 0) hx hb dX3_ceiling_2 (by decide) ?_
  refine lv_ldc (v := 10000000) hx hb hown (hts (.constant RX3 91 10000000) (by decide +kernel)) dX3_ceiling_3 ?_
  refine sg_calli hD hS hA (va_runS (As := [.int x, .int 0, .int 10000000]) (rest := [.ref (ad 0)]) ⟨hx, hb, hml, hown, hts⟩ (c_X3_isIn l D Y _ _ x 0 10000000) (va_cwS 3 hts gX3_ceiling_X3_isIn rfl rfl rfl (by decide +kernel) ⟨Nat.le_of_ble_eq_true rfl, Nat.le_of_ble_eq_true rfl⟩) (sg_preS hK hP hD hN hX hS hA) rfl rfl hl.1 rfl (lv_room (Nat.le_of_ble_eq_true rfl)) dX3_ceiling_5 ⟨Nat.le_of_ble_eq_true rfl, Nat.le_of_ble_eq_true rfl⟩) (fun r5 σ' H locs hw hP hD hS => ?_)
  obtain ⟨rfl, rfl⟩ := hw
  refine sg_calli hD hS hA (va_runV (As := [.int (bI (qIn x 0 10000000))]) (rest := []) ⟨hx, hb, hml, hown, hts⟩ (c_X3_may l D Y _ _ ad M ((bI (qIn x 0 10000000))) (bI_01) hM.self) (cwV 1 hts gX3_ceiling_X3_may rfl rfl rfl (by decide +kernel) ⟨Nat.le_of_ble_eq_true rfl, Nat.le_of_ble_eq_true rfl⟩) (sg_preV (q := (RX3, TX3, 20)) (hM.1 0 rfl) rfl hK hP hD hN hX hS hA) rfl rfl hl.1 rfl (lv_room (Nat.le_of_ble_eq_true rfl)) dX3_ceiling_8 ⟨Nat.le_of_ble_eq_true rfl, Nat.le_of_ble_eq_true rfl⟩) (fun r8 σ' H locs hw hP hD hS => ?_)
  obtain ⟨rfl, hw⟩ := hw
  have hM := hM.trans hw
  refine lv_if_ne (tgt := 16) hx hb dX3_ceiling_11 (by decide) (fun c11 => ?_) (fun c11 => ?_)
  · skip
    have h0 : t1 (bI (qIn x 0 10000000)) = 0 := by rw [t1, if_neg c11]
    rw [h0] at hM
    refine lv_aload_n hx hb dX3_ceiling_16 rfl (lv_at hl 0 rfl) ?_
    refine va_get (ref := RX3) (v := .int (sS (uS M 19 0) 2)) hx hb hts wi_X3_ceiling hown hK (sg_one hP (hM.1 0 rfl)) 0 rfl rfl 2 (by decide) (hts (.fieldLink RX3 18 RX3 "ceiling" "I") (by decide +kernel)) (fun _ h => h) rfl dX3_ceiling_17 ?_
    refine lv_topi (fun v20 ev20 => ?_)
    refine lv_istore_n (lv' := [(2, .int v20), (0, .ref (ad 0)), (1, .int x)]) hx hb dX3_ceiling_20 rfl hl (by decide) rfl (fun ls hl => ?_)
    refine lv_aload_n hx hb dX3_ceiling_21 rfl (lv_at hl 1 rfl) ?_
    refine lv_iload_n hx hb dX3_ceiling_22 rfl (lv_at hl 2 rfl) ?_
    refine sg_put (ref := RX3) (ty := .int) (v := .int x) hx hb hts wi_X3_ceiling tyX3 tyX3_ok nmX3 hown hK hP hD hS (hM.1 0 rfl) rfl 2 (by decide) (hts (.fieldLink RX3 18 RX3 "ceiling" "I") (by decide +kernel)) (fun _ h => h) rfl (by decide +kernel) rfl rfl (Nat.le_of_ble_eq_true rfl) dX3_ceiling_23 (fun H locs hP hD hS => ?_)
    have hM := hM.s2 (v := x)
    refine lv_iload_n hx hb dX3_ceiling_26 rfl (lv_at hl 0 rfl) ?_
    exact sg_iret hx hb hr rfl hlocks hP hD hS (Nat.le_of_ble_eq_true rfl) (Nat.le_of_ble_eq_true rfl) dX3_ceiling_27 (⟨fun _ => by rw [ev20]; rfl, by rw [if_pos (show tCeil x = 0 from h0)]; exact hM⟩)
  · skip
    have h0 : ¬ tCeil x = 0 := by show ¬ t1 _ = 0; rw [t1, if_pos c11]; decide
    refine lv_iconst (v := 0) hx hb dX3_ceiling_14 (by decide) ?_
    exact sg_iret hx hb hr rfl hlocks hP hD hS (Nat.le_of_ble_eq_true rfl) (Nat.le_of_ble_eq_true rfl) dX3_ceiling_15 (⟨fun h => absurd h h0, by rw [if_neg h0]; exact hM⟩)

theorem wi_X3_rate : ∀ w ∈ wsX30, w ∈ wsX3_rate := by decide +kernel
set_option maxHeartbeats 4000000 in
set_option maxRecDepth 100000 in
theorem c_X3_rate (l : Launch) (D : va_G) (Y : Nat → ClassId) (σ : sg_W) (sz : Nat) (ad : Nat → Nat) (M : MS) (i x : Int32) (h6 : mem6 M) (hM : MW Y ad M σ) : Met l yX3_rate wsX3_rate ({ frames := 3, cells := 0, slots := 0, locals := 64 } : Room) (va_Pc [.ref (ad 0), .int i, .int x] (sg_U D Y σ sz)) (va_Qi (fun r σ' => (tRate M i x = 0 → r = sI M 4 (tN i)) ∧ MF Y ad σ (if tRate M i x = 0 then nRate (uS M 19 0) i x else uS M 19 (tRate M i x)) σ') (sg_B D σ sz) (sg_A σ sz)) 0 0 (sg_A σ sz) := by
  refine sg_met (cc := cX3_rate) (maxL := 4) (ret := (some .int)) (by decide) rfl (Nat.le_of_ble_eq_true rfl) ?_
  intro p e s m below meth c ls hx hb hml hr hown hts hlocks hnm hP hK hD hN hX hA hS hsz hl
  have hl : lv_has ls 4 [(0, .ref (ad 0)), (1, .int i), (2, .int x)] := hl
  refine lv_aload_n hx hb dX3_rate_0 rfl (lv_at hl 0 rfl) ?_
  refine lv_aload_n hx hb dX3_rate_1 rfl (lv_at hl 0 rfl) ?_
  refine lv_iload_n hx hb dX3_rate_2 rfl (lv_at hl 1 rfl) ?_
  refine sg_calli hD hS hA (va_runV (As := [.int i]) (rest := [.ref (ad 0)]) ⟨hx, hb, hml, hown, hts⟩ (c_X3_isMember l D Y _ _ ad M i hM.self) (cwV 1 hts gX3_rate_X3_isMember rfl rfl rfl (by decide +kernel) ⟨Nat.le_of_ble_eq_true rfl, Nat.le_of_ble_eq_true rfl⟩) (sg_preV (q := (RX3, TX3, 20)) (hM.1 0 rfl) rfl hK hP hD hN hX hS hA) rfl rfl hl.1 rfl (lv_room (Nat.le_of_ble_eq_true rfl)) dX3_rate_3 ⟨Nat.le_of_ble_eq_true rfl, Nat.le_of_ble_eq_true rfl⟩) (fun r3 σ' H locs hw hP hD hS => ?_)
  obtain ⟨rfl, rfl⟩ := hw
  refine lv_iload_n hx hb dX3_rate_6 rfl (lv_at hl 2 rfl) ?_
  refine lv_iconst (v := 1) hx hb dX3_rate_7 (by decide) ?_
  refine lv_bipush (v := 15) hx hb dX3_rate_8 (by decide) ?_
  refine sg_calli hD hS hA (va_runS (As := [.int x, .int 1, .int 15]) (rest := [.int (bI (qM M i)), .ref (ad 0)]) ⟨hx, hb, hml, hown, hts⟩ (c_X3_isIn l D Y _ _ x 1 15) (va_cwS 3 hts gX3_rate_X3_isIn rfl rfl rfl (by decide +kernel) ⟨Nat.le_of_ble_eq_true rfl, Nat.le_of_ble_eq_true rfl⟩) (sg_preS hK hP hD hN hX hS hA) rfl rfl hl.1 rfl (lv_room (Nat.le_of_ble_eq_true rfl)) dX3_rate_10 ⟨Nat.le_of_ble_eq_true rfl, Nat.le_of_ble_eq_true rfl⟩) (fun r10 σ' H locs hw hP hD hS => ?_)
  obtain ⟨rfl, rfl⟩ := hw
  refine lv_aload_n hx hb dX3_rate_13 rfl (lv_at hl 0 rfl) ?_
  refine lv_iload_n hx hb dX3_rate_14 rfl (lv_at hl 1 rfl) ?_
  refine sg_calli hD hS hA (va_runV (As := [.int i]) (rest := [.int (bI (qIn x 1 15)), .int (bI (qM M i)), .ref (ad 0)]) ⟨hx, hb, hml, hown, hts⟩ (c_X3_isStaying l D Y _ _ ad M i h6 hM.self) (cwV 1 hts gX3_rate_X3_isStaying rfl rfl rfl (by decide +kernel) ⟨Nat.le_of_ble_eq_true rfl, Nat.le_of_ble_eq_true rfl⟩) (sg_preV (q := (RX3, TX3, 20)) (hM.1 0 rfl) rfl hK hP hD hN hX hS hA) rfl rfl hl.1 rfl (lv_room (Nat.le_of_ble_eq_true rfl)) dX3_rate_15 ⟨Nat.le_of_ble_eq_true rfl, Nat.le_of_ble_eq_true rfl⟩) (fun r15 σ' H locs hw hP hD hS => ?_)
  obtain ⟨rfl, rfl⟩ := hw
  refine sg_calli hD hS hA (va_runV (As := [.int (bI (qM M i)), .int (bI (qIn x 1 15)), .int (bI (qT M i))]) (rest := []) ⟨hx, hb, hml, hown, hts⟩ (c_X3_mayAll l D Y _ _ ad M ((bI (qM M i))) ((bI (qIn x 1 15))) ((bI (qT M i))) hM.self) (cwV 3 hts gX3_rate_X3_mayAll rfl rfl rfl (by decide +kernel) ⟨Nat.le_of_ble_eq_true rfl, Nat.le_of_ble_eq_true rfl⟩) (sg_preV (q := (RX3, TX3, 20)) (hM.1 0 rfl) rfl hK hP hD hN hX hS hA) rfl rfl hl.1 rfl (lv_room (Nat.le_of_ble_eq_true rfl)) dX3_rate_18 ⟨Nat.le_of_ble_eq_true rfl, Nat.le_of_ble_eq_true rfl⟩) (fun r18 σ' H locs hw hP hD hS => ?_)
  obtain ⟨rfl, hw⟩ := hw
  have hM := hM.trans hw
  refine lv_if_ne (tgt := 26) hx hb dX3_rate_21 (by decide) (fun c21 => ?_) (fun c21 => ?_)
  · skip
    have h0 : t3 (bI (qM M i)) (bI (qIn x 1 15)) (bI (qT M i)) = 0 := by rw [bI_0] at c21; exact Classical.not_not.mp c21
    rw [h0] at hM
    refine lv_aload_n hx hb dX3_rate_26 rfl (lv_at hl 0 rfl) ?_
    have hi : vp_in i 6 := qM_in h6 (by grind [bI, t3])
    refine va_get (ref := RX3) (v := .ref (ad 4)) hx hb hts wi_X3_rate hown hK (sg_one hP (hM.1 0 rfl)) 0 rfl rfl 4 (by decide) (hts (.fieldLink RX3 21 RX3 "rate" "[I") (by decide +kernel)) (fun _ h => h) rfl dX3_rate_27 ?_
    refine lv_iload_n hx hb dX3_rate_30 rfl (lv_at hl 1 rfl) ?_
    refine va_iald hx hb hK (sg_one hP (hM.1 4 rfl)) 0 0 rfl rfl (hi) dX3_rate_31 ?_
    refine lv_topi (fun v32 ev32 => ?_)
    refine lv_istore_n (lv' := [(3, .int v32), (0, .ref (ad 0)), (1, .int i), (2, .int x)]) hx hb dX3_rate_32 rfl hl (by decide) rfl (fun ls hl => ?_)
    refine lv_aload_n hx hb dX3_rate_33 rfl (lv_at hl 1 rfl) ?_
    refine va_get (ref := RX3) (v := .ref (ad 4)) hx hb hts wi_X3_rate hown hK (sg_one hP (hM.1 0 rfl)) 0 rfl rfl 4 (by decide) (hts (.fieldLink RX3 21 RX3 "rate" "[I") (by decide +kernel)) (fun _ h => h) rfl dX3_rate_34 ?_
    refine lv_iload_n hx hb dX3_rate_37 rfl (lv_at hl 2 rfl) ?_
    refine lv_iload_n hx hb dX3_rate_38 rfl (lv_at hl 3 rfl) ?_
    refine sg_iast hx hb hK hP hD hS (hM.1 4 rfl) (hi) dX3_rate_39 (fun H locs hP hD hS => ?_)
    have hM := hM.a4 (k := (i).toNatClampNeg) (v := x)
    refine lv_iload_n hx hb dX3_rate_40 rfl (lv_at hl 0 rfl) ?_
    exact sg_iret hx hb hr rfl hlocks hP hD hS (Nat.le_of_ble_eq_true rfl) (Nat.le_of_ble_eq_true rfl) dX3_rate_41 (⟨fun _ => by rw [ev32]; rfl, by rw [if_pos (show tRate M i x = 0 from h0)]; exact hM⟩)
  · skip
    have h0 : ¬ tRate M i x = 0 := bI_0.mp c21
    refine lv_iconst (v := 0) hx hb dX3_rate_24 (by decide) ?_
    exact sg_iret hx hb hr rfl hlocks hP hD hS (Nat.le_of_ble_eq_true rfl) (Nat.le_of_ble_eq_true rfl) dX3_rate_25 (⟨fun h => absurd h h0, by rw [if_neg h0]; exact hM⟩)

theorem wi_X3_slip : ∀ w ∈ wsX30, w ∈ wsX3_slip := by decide +kernel
set_option maxHeartbeats 4000000 in
set_option maxRecDepth 100000 in
theorem c_X3_slip (l : Launch) (D : va_G) (Y : Nat → ClassId) (σ : sg_W) (sz : Nat) (ad : Nat → Nat) (M : MS) (i x : Int32) (h6 : mem6 M) (hM : MW Y ad M σ) : Met l yX3_slip wsX3_slip ({ frames := 3, cells := 0, slots := 0, locals := 64 } : Room) (va_Pc [.ref (ad 0), .int i, .int x] (sg_U D Y σ sz)) (va_Qi (fun r σ' => (tSlip M i x = 0 → r = rSlip M i x) ∧ MF Y ad σ (if tSlip M i x = 0 then nSlip (uS M 19 0) i x else uS M 19 (tSlip M i x)) σ') (sg_B D σ sz) (sg_A σ sz)) 0 0 (sg_A σ sz) := by
  refine sg_met (cc := cX3_slip) (maxL := 4) (ret := (some .int)) (by decide) rfl (Nat.le_of_ble_eq_true rfl) ?_
  intro p e s m below meth c ls hx hb hml hr hown hts hlocks hnm hP hK hD hN hX hA hS hsz hl
  have hl : lv_has ls 4 [(0, .ref (ad 0)), (1, .int i), (2, .int x)] := hl
  refine lv_aload_n hx hb dX3_slip_0 rfl (lv_at hl 0 rfl) ?_
  refine lv_aload_n hx hb dX3_slip_1 rfl (lv_at hl 0 rfl) ?_
  refine lv_iload_n hx hb dX3_slip_2 rfl (lv_at hl 1 rfl) ?_
  refine sg_calli hD hS hA (va_runV (As := [.int i]) (rest := [.ref (ad 0)]) ⟨hx, hb, hml, hown, hts⟩ (c_X3_isMember l D Y _ _ ad M i hM.self) (cwV 1 hts gX3_slip_X3_isMember rfl rfl rfl (by decide +kernel) ⟨Nat.le_of_ble_eq_true rfl, Nat.le_of_ble_eq_true rfl⟩) (sg_preV (q := (RX3, TX3, 20)) (hM.1 0 rfl) rfl hK hP hD hN hX hS hA) rfl rfl hl.1 rfl (lv_room (Nat.le_of_ble_eq_true rfl)) dX3_slip_3 ⟨Nat.le_of_ble_eq_true rfl, Nat.le_of_ble_eq_true rfl⟩) (fun r3 σ' H locs hw hP hD hS => ?_)
  obtain ⟨rfl, rfl⟩ := hw
  refine lv_iload_n hx hb dX3_slip_6 rfl (lv_at hl 2 rfl) ?_
  refine lv_iconst (v := 0) hx hb dX3_slip_7 (by decide) ?_
  refine lv_ldc (v := 5000000) hx hb hown (hts (.constant RX3 107 5000000) (by decide +kernel)) dX3_slip_8 ?_
  refine sg_calli hD hS hA (va_runS (As := [.int x, .int 0, .int 5000000]) (rest := [.int (bI (qM M i)), .ref (ad 0)]) ⟨hx, hb, hml, hown, hts⟩ (c_X3_isIn l D Y _ _ x 0 5000000) (va_cwS 3 hts gX3_slip_X3_isIn rfl rfl rfl (by decide +kernel) ⟨Nat.le_of_ble_eq_true rfl, Nat.le_of_ble_eq_true rfl⟩) (sg_preS hK hP hD hN hX hS hA) rfl rfl hl.1 rfl (lv_room (Nat.le_of_ble_eq_true rfl)) dX3_slip_10 ⟨Nat.le_of_ble_eq_true rfl, Nat.le_of_ble_eq_true rfl⟩) (fun r10 σ' H locs hw hP hD hS => ?_)
  obtain ⟨rfl, rfl⟩ := hw
  refine lv_aload_n hx hb dX3_slip_13 rfl (lv_at hl 0 rfl) ?_
  refine lv_iload_n hx hb dX3_slip_14 rfl (lv_at hl 1 rfl) ?_
  refine sg_calli hD hS hA (va_runV (As := [.int i]) (rest := [.int (bI (qIn x 0 5000000)), .int (bI (qM M i)), .ref (ad 0)]) ⟨hx, hb, hml, hown, hts⟩ (c_X3_isStaying l D Y _ _ ad M i h6 hM.self) (cwV 1 hts gX3_slip_X3_isStaying rfl rfl rfl (by decide +kernel) ⟨Nat.le_of_ble_eq_true rfl, Nat.le_of_ble_eq_true rfl⟩) (sg_preV (q := (RX3, TX3, 20)) (hM.1 0 rfl) rfl hK hP hD hN hX hS hA) rfl rfl hl.1 rfl (lv_room (Nat.le_of_ble_eq_true rfl)) dX3_slip_15 ⟨Nat.le_of_ble_eq_true rfl, Nat.le_of_ble_eq_true rfl⟩) (fun r15 σ' H locs hw hP hD hS => ?_)
  obtain ⟨rfl, rfl⟩ := hw
  refine sg_calli hD hS hA (va_runV (As := [.int (bI (qM M i)), .int (bI (qIn x 0 5000000)), .int (bI (qT M i))]) (rest := []) ⟨hx, hb, hml, hown, hts⟩ (c_X3_mayAll l D Y _ _ ad M ((bI (qM M i))) ((bI (qIn x 0 5000000))) ((bI (qT M i))) hM.self) (cwV 3 hts gX3_slip_X3_mayAll rfl rfl rfl (by decide +kernel) ⟨Nat.le_of_ble_eq_true rfl, Nat.le_of_ble_eq_true rfl⟩) (sg_preV (q := (RX3, TX3, 20)) (hM.1 0 rfl) rfl hK hP hD hN hX hS hA) rfl rfl hl.1 rfl (lv_room (Nat.le_of_ble_eq_true rfl)) dX3_slip_18 ⟨Nat.le_of_ble_eq_true rfl, Nat.le_of_ble_eq_true rfl⟩) (fun r18 σ' H locs hw hP hD hS => ?_)
  obtain ⟨rfl, hw⟩ := hw
  have hM := hM.trans hw
  refine lv_if_ne (tgt := 26) hx hb dX3_slip_21 (by decide) (fun c21 => ?_) (fun c21 => ?_)
  · skip
    have h0 : t3 (bI (qM M i)) (bI (qIn x 0 5000000)) (bI (qT M i)) = 0 := by rw [bI_0] at c21; exact Classical.not_not.mp c21
    rw [h0] at hM
    refine lv_iload_n hx hb dX3_slip_26 rfl (lv_at hl 2 rfl) ?_
    have hi : vp_in i 6 := qM_in h6 (by grind [bI, t3])
    refine lv_aload_n hx hb dX3_slip_27 rfl (lv_at hl 0 rfl) ?_
    refine va_get (ref := RX3) (v := .ref (ad 4)) hx hb hts wi_X3_slip hown hK (sg_one hP (hM.1 0 rfl)) 0 rfl rfl 4 (by decide) (hts (.fieldLink RX3 21 RX3 "rate" "[I") (by decide +kernel)) (fun _ h => h) rfl dX3_slip_28 ?_
    refine lv_iload_n hx hb dX3_slip_31 rfl (lv_at hl 1 rfl) ?_
    refine va_iald hx hb hK (sg_one hP (hM.1 4 rfl)) 0 0 rfl rfl (hi) dX3_slip_32 ?_
    refine lv_imul hx hb dX3_slip_33 ?_
    refine lv_bipush (v := 100) hx hb dX3_slip_34 (by decide) ?_
    refine lv_idiv hx hb dX3_slip_36 (by decide) ?_
    refine lv_topi (fun v37 ev37 => ?_)
    refine lv_istore_n (lv' := [(3, .int v37), (0, .ref (ad 0)), (1, .int i), (2, .int x)]) hx hb dX3_slip_37 rfl hl (by decide) rfl (fun ls hl => ?_)
    refine lv_aload_n hx hb dX3_slip_38 rfl (lv_at hl 1 rfl) ?_
    refine va_get (ref := RX3) (v := .ref (ad 6)) hx hb hts wi_X3_slip hown hK (sg_one hP (hM.1 0 rfl)) 0 rfl rfl 6 (by decide) (hts (.fieldLink RX3 28 RX3 "money" "[I") (by decide +kernel)) (fun _ h => h) rfl dX3_slip_39 ?_
    refine lv_iload_n hx hb dX3_slip_42 rfl (lv_at hl 2 rfl) ?_
    refine lv_dup2_11 hx hb dX3_slip_43 rfl rfl ?_
    refine va_iald hx hb hK (sg_one hP (hM.1 6 rfl)) 0 0 rfl rfl (hi) dX3_slip_44 ?_
    refine lv_iload_n hx hb dX3_slip_45 rfl (lv_at hl 0 rfl) ?_
    refine lv_iadd hx hb dX3_slip_46 ?_
    refine sg_iast hx hb hK hP hD hS (hM.1 6 rfl) (hi) dX3_slip_47 (fun H locs hP hD hS => ?_)
    have hM := hM.a6 (k := (i).toNatClampNeg) (v := ((sI (uS M 19 0) 6 (i).toNatClampNeg) + v37))
    refine lv_aload_n hx hb dX3_slip_48 rfl (lv_at hl 1 rfl) ?_
    refine va_get (ref := RX3) (v := .ref (ad 9)) hx hb hts wi_X3_slip hown hK (sg_one hP (hM.1 0 rfl)) 0 rfl rfl 9 (by decide) (hts (.fieldLink RX3 38 RX3 "kept" "[J") (by decide +kernel)) (fun _ h => h) rfl dX3_slip_49 ?_
    refine lv_iload_n hx hb dX3_slip_52 rfl (lv_at hl 2 rfl) ?_
    refine lv_dup2_11 hx hb dX3_slip_53 rfl rfl ?_
    refine va_lald hx hb hK (sg_one hP (hM.1 9 rfl)) 0 1 rfl rfl (hi) dX3_slip_54 ?_
    refine lv_iload_n hx hb dX3_slip_55 rfl (lv_at hl 0 rfl) ?_
    refine lv_i2l hx hb dX3_slip_56 rfl ?_
    refine lv_ladd hx hb dX3_slip_57 ?_
    refine sg_last hx hb hK hP hD hS (hM.1 9 rfl) (hi) dX3_slip_58 (fun H locs hP hD hS => ?_)
    have hM := hM.a9 (k := (i).toNatClampNeg) (v := ((sL (uI (uS M 19 0) 6 (i).toNatClampNeg (((sI (uS M 19 0) 6 (i).toNatClampNeg) + v37))) 9 (i).toNatClampNeg) + v37.toInt64))
    refine lv_iload_n hx hb dX3_slip_59 rfl (lv_at hl 0 rfl) ?_
    exact sg_iret hx hb hr rfl hlocks hP hD hS (Nat.le_of_ble_eq_true rfl) (Nat.le_of_ble_eq_true rfl) dX3_slip_60 (by subst ev37; exact ⟨fun _ => rfl, by rw [if_pos (show tSlip M i x = 0 from h0)]; exact hM⟩)
  · skip
    have h0 : ¬ tSlip M i x = 0 := bI_0.mp c21
    refine lv_iconst (v := 0) hx hb dX3_slip_24 (by decide) ?_
    exact sg_iret hx hb hr rfl hlocks hP hD hS (Nat.le_of_ble_eq_true rfl) (Nat.le_of_ble_eq_true rfl) dX3_slip_25 (⟨fun h => absurd h h0, by rw [if_neg h0]; exact hM⟩)

theorem wi_X3_leave : ∀ w ∈ wsX30, w ∈ wsX3_leave := by decide +kernel
set_option maxHeartbeats 4000000 in
set_option maxRecDepth 100000 in
theorem c_X3_leave (l : Launch) (D : va_G) (Y : Nat → ClassId) (σ : sg_W) (sz : Nat) (ad : Nat → Nat) (M : MS) (i : Int32) (h6 : mem6 M) (hM : MW Y ad M σ) : Met l yX3_leave wsX3_leave ({ frames := 3, cells := 0, slots := 0, locals := 64 } : Room) (va_Pc [.ref (ad 0), .int i] (sg_U D Y σ sz)) (va_Qi (fun r σ' => (tLeave M i = 0 → r = sI M 6 (tN i)) ∧ MF Y ad σ (if tLeave M i = 0 then nLeave (uS M 19 0) i else uS M 19 (tLeave M i)) σ') (sg_B D σ sz) (sg_A σ sz)) 0 0 (sg_A σ sz) := by
  refine sg_met (cc := cX3_leave) (maxL := 2) (ret := (some .int)) (by decide) rfl (Nat.le_of_ble_eq_true rfl) ?_
  intro p e s m below meth c ls hx hb hml hr hown hts hlocks hnm hP hK hD hN hX hA hS hsz hl
  have hl : lv_has ls 2 [(0, .ref (ad 0)), (1, .int i)] := hl
  refine lv_aload_n hx hb dX3_leave_0 rfl (lv_at hl 0 rfl) ?_
  refine lv_aload_n hx hb dX3_leave_1 rfl (lv_at hl 0 rfl) ?_
  refine lv_iload_n hx hb dX3_leave_2 rfl (lv_at hl 1 rfl) ?_
  refine sg_calli hD hS hA (va_runV (As := [.int i]) (rest := [.ref (ad 0)]) ⟨hx, hb, hml, hown, hts⟩ (c_X3_isMember l D Y _ _ ad M i hM.self) (cwV 1 hts gX3_leave_X3_isMember rfl rfl rfl (by decide +kernel) ⟨Nat.le_of_ble_eq_true rfl, Nat.le_of_ble_eq_true rfl⟩) (sg_preV (q := (RX3, TX3, 20)) (hM.1 0 rfl) rfl hK hP hD hN hX hS hA) rfl rfl hl.1 rfl (lv_room (Nat.le_of_ble_eq_true rfl)) dX3_leave_3 ⟨Nat.le_of_ble_eq_true rfl, Nat.le_of_ble_eq_true rfl⟩) (fun r3 σ' H locs hw hP hD hS => ?_)
  obtain ⟨rfl, rfl⟩ := hw
  refine lv_aload_n hx hb dX3_leave_6 rfl (lv_at hl 0 rfl) ?_
  refine lv_iload_n hx hb dX3_leave_7 rfl (lv_at hl 1 rfl) ?_
  refine sg_calli hD hS hA (va_runV (As := [.int i]) (rest := [.int (bI (qM M i)), .ref (ad 0)]) ⟨hx, hb, hml, hown, hts⟩ (c_X3_isStaying l D Y _ _ ad M i h6 hM.self) (cwV 1 hts gX3_leave_X3_isStaying rfl rfl rfl (by decide +kernel) ⟨Nat.le_of_ble_eq_true rfl, Nat.le_of_ble_eq_true rfl⟩) (sg_preV (q := (RX3, TX3, 20)) (hM.1 0 rfl) rfl hK hP hD hN hX hS hA) rfl rfl hl.1 rfl (lv_room (Nat.le_of_ble_eq_true rfl)) dX3_leave_8 ⟨Nat.le_of_ble_eq_true rfl, Nat.le_of_ble_eq_true rfl⟩) (fun r8 σ' H locs hw hP hD hS => ?_)
  obtain ⟨rfl, rfl⟩ := hw
  refine sg_calli hD hS hA (va_runV (As := [.int (bI (qM M i)), .int (bI (qT M i))]) (rest := []) ⟨hx, hb, hml, hown, hts⟩ (c_X3_mayBoth l D Y _ _ ad M ((bI (qM M i))) ((bI (qT M i))) hM.self) (cwV 2 hts gX3_leave_X3_mayBoth rfl rfl rfl (by decide +kernel) ⟨Nat.le_of_ble_eq_true rfl, Nat.le_of_ble_eq_true rfl⟩) (sg_preV (q := (RX3, TX3, 20)) (hM.1 0 rfl) rfl hK hP hD hN hX hS hA) rfl rfl hl.1 rfl (lv_room (Nat.le_of_ble_eq_true rfl)) dX3_leave_11 ⟨Nat.le_of_ble_eq_true rfl, Nat.le_of_ble_eq_true rfl⟩) (fun r11 σ' H locs hw hP hD hS => ?_)
  obtain ⟨rfl, hw⟩ := hw
  have hM := hM.trans hw
  refine lv_if_ne (tgt := 19) hx hb dX3_leave_14 (by decide) (fun c14 => ?_) (fun c14 => ?_)
  · skip
    have h0 : t2 (bI (qM M i)) (bI (qT M i)) = 0 := by rw [bI_0] at c14; exact Classical.not_not.mp c14
    rw [h0] at hM
    refine lv_aload_n hx hb dX3_leave_19 rfl (lv_at hl 0 rfl) ?_
    have hi : vp_in i 6 := qM_in h6 (by grind [bI, t2])
    refine va_get (ref := RX3) (v := .ref (ad 5)) hx hb hts wi_X3_leave hown hK (sg_one hP (hM.1 0 rfl)) 0 rfl rfl 5 (by decide) (hts (.fieldLink RX3 24 RX3 "left" "[Z") (by decide +kernel)) (fun _ h => h) rfl dX3_leave_20 ?_
    refine lv_iload_n hx hb dX3_leave_23 rfl (lv_at hl 1 rfl) ?_
    refine lv_iconst (v := 1) hx hb dX3_leave_24 (by decide) ?_
    refine sg_zast hx hb hK hP hD hS (hM.1 5 rfl) (hi) (by decide) dX3_leave_25 (fun H locs hP hD hS => ?_)
    have hM := hM.a5 (k := (i).toNatClampNeg) (v := 1)
    refine lv_aload_n hx hb dX3_leave_26 rfl (lv_at hl 0 rfl) ?_
    refine va_get (ref := RX3) (v := .ref (ad 7)) hx hb hts wi_X3_leave hown hK (sg_one hP (hM.1 0 rfl)) 0 rfl rfl 7 (by decide) (hts (.fieldLink RX3 31 RX3 "back" "[I") (by decide +kernel)) (fun _ h => h) rfl dX3_leave_27 ?_
    refine lv_iload_n hx hb dX3_leave_30 rfl (lv_at hl 1 rfl) ?_
    refine lv_aload_n hx hb dX3_leave_31 rfl (lv_at hl 0 rfl) ?_
    refine va_get (ref := RX3) (v := .ref (ad 6)) hx hb hts wi_X3_leave hown hK (sg_one hP (hM.1 0 rfl)) 0 rfl rfl 6 (by decide) (hts (.fieldLink RX3 28 RX3 "money" "[I") (by decide +kernel)) (fun _ h => h) rfl dX3_leave_32 ?_
    refine lv_iload_n hx hb dX3_leave_35 rfl (lv_at hl 1 rfl) ?_
    refine va_iald hx hb hK (sg_one hP (hM.1 6 rfl)) 0 0 rfl rfl (hi) dX3_leave_36 ?_
    refine sg_iast hx hb hK hP hD hS (hM.1 7 rfl) (hi) dX3_leave_37 (fun H locs hP hD hS => ?_)
    have hM := hM.a7 (k := (i).toNatClampNeg) (v := (sI (uI (uS M 19 0) 5 (i).toNatClampNeg 1) 6 (i).toNatClampNeg))
    refine lv_aload_n hx hb dX3_leave_38 rfl (lv_at hl 0 rfl) ?_
    refine va_get (ref := RX3) (v := .ref (ad 6)) hx hb hts wi_X3_leave hown hK (sg_one hP (hM.1 0 rfl)) 0 rfl rfl 6 (by decide) (hts (.fieldLink RX3 28 RX3 "money" "[I") (by decide +kernel)) (fun _ h => h) rfl dX3_leave_39 ?_
    refine lv_iload_n hx hb dX3_leave_42 rfl (lv_at hl 1 rfl) ?_
    refine lv_iconst (v := 0) hx hb dX3_leave_43 (by decide) ?_
    refine sg_iast hx hb hK hP hD hS (hM.1 6 rfl) (hi) dX3_leave_44 (fun H locs hP hD hS => ?_)
    have hM := hM.a6 (k := (i).toNatClampNeg) (v := 0)
    refine lv_aload_n hx hb dX3_leave_45 rfl (lv_at hl 0 rfl) ?_
    refine va_get (ref := RX3) (v := .ref (ad 7)) hx hb hts wi_X3_leave hown hK (sg_one hP (hM.1 0 rfl)) 0 rfl rfl 7 (by decide) (hts (.fieldLink RX3 31 RX3 "back" "[I") (by decide +kernel)) (fun _ h => h) rfl dX3_leave_46 ?_
    refine lv_iload_n hx hb dX3_leave_49 rfl (lv_at hl 1 rfl) ?_
    refine va_iald hx hb hK (sg_one hP (hM.1 7 rfl)) 0 0 rfl rfl (hi) dX3_leave_50 ?_
    exact sg_iret hx hb hr rfl hlocks hP hD hS (Nat.le_of_ble_eq_true rfl) (Nat.le_of_ble_eq_true rfl) dX3_leave_51 (⟨fun _ => by simp [sI_uI, sI_uS, upd_at], by rw [if_pos (show tLeave M i = 0 from h0)]; exact hM⟩)
  · skip
    have h0 : ¬ tLeave M i = 0 := bI_0.mp c14
    refine lv_iconst (v := 0) hx hb dX3_leave_17 (by decide) ?_
    exact sg_iret hx hb hr rfl hlocks hP hD hS (Nat.le_of_ble_eq_true rfl) (Nat.le_of_ble_eq_true rfl) dX3_leave_18 (⟨fun h => absurd h h0, by rw [if_neg h0]; exact hM⟩)
