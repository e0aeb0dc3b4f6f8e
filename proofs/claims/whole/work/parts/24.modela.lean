set_option maxHeartbeats 4000000 in
set_option maxRecDepth 100000 in
theorem c_X3_isIn (l : Launch) (D : va_G) (Y : Nat → ClassId) (σ : sg_W) (sz : Nat) (v a b : Int32) : Met l yX3_isIn wsX3_isIn ({ frames := 0, cells := 0, slots := 0, locals := 0 } : Room) (va_Pc [.int v, .int a, .int b] (sg_U D Y σ sz)) (va_Qi (fun r σ' => r = bI (qIn v a b) ∧ σ = σ') (sg_B D σ sz) (sg_A σ sz)) 0 0 (sg_A σ sz) := by
  refine sg_met (cc := cX3_isIn) (maxL := 3) (ret := (some .boolean)) (by decide) rfl (Nat.le_of_ble_eq_true rfl) ?_
  intro p e s m below meth c ls hx hb hml hr hown hts hlocks hnm hP hK hD hN hX hA hS hsz hl
  have hl : lv_has ls 3 [(0, .int v), (1, .int a), (2, .int b)] := hl
  refine lv_iload_n hx hb dX3_isIn_0 rfl (lv_at hl 0 rfl) ?_
  refine lv_iload_n hx hb dX3_isIn_1 rfl (lv_at hl 1 rfl) ?_
  refine lv_icmp_lt (tgt := 14) hx hb dX3_isIn_2 (by decide) (fun c2_0 => ?_) (fun c2_0 => ?_)
  · skip
    refine lv_iconst (v := 0) hx hb dX3_isIn_14 (by decide) ?_
    exact sg_iret hx hb hr rfl hlocks hP hD hS (Nat.le_of_ble_eq_true rfl) (Nat.le_of_ble_eq_true rfl) dX3_isIn_15 (⟨by unfold bI; simp only [qIn, Int32.lt_iff_toInt_lt, Int32.le_iff_toInt_le] at *; split <;> first | rfl | (exfalso; omega), rfl⟩)
  · skip
    refine lv_iload_n hx hb dX3_isIn_5 rfl (lv_at hl 0 rfl) ?_
    refine lv_iload_n hx hb dX3_isIn_6 rfl (lv_at hl 2 rfl) ?_
    refine lv_icmp_gt (tgt := 14) hx hb dX3_isIn_7 (by decide) (fun c7_1 => ?_) (fun c7_1 => ?_)
    · skip
      refine lv_iconst (v := 0) hx hb dX3_isIn_14 (by decide) ?_
      exact sg_iret hx hb hr rfl hlocks hP hD hS (Nat.le_of_ble_eq_true rfl) (Nat.le_of_ble_eq_true rfl) dX3_isIn_15 (⟨by unfold bI; simp only [qIn, Int32.lt_iff_toInt_lt, Int32.le_iff_toInt_le] at *; split <;> first | rfl | (exfalso; omega), rfl⟩)
    · skip
      refine lv_iconst (v := 1) hx hb dX3_isIn_10 (by decide) ?_
      refine lv_goto (tgt := 15) hx hb dX3_isIn_11 (by decide) ?_
      exact sg_iret hx hb hr rfl hlocks hP hD hS (Nat.le_of_ble_eq_true rfl) (Nat.le_of_ble_eq_true rfl) dX3_isIn_15 (⟨by unfold bI; simp only [qIn, Int32.lt_iff_toInt_lt, Int32.le_iff_toInt_le] at *; split <;> first | rfl | (exfalso; omega), rfl⟩)

theorem wi_X3_thrown : ∀ w ∈ wsX30, w ∈ wsX3_thrown := by decide +kernel
set_option maxHeartbeats 4000000 in
set_option maxRecDepth 100000 in
theorem c_X3_thrown (l : Launch) (D : va_G) (Y : Nat → ClassId) (σ : sg_W) (sz : Nat) (ad : Nat → Nat) (M : MS) (hM : MW Y ad M σ) : Met l yX3_thrown wsX3_thrown ({ frames := 0, cells := 0, slots := 0, locals := 0 } : Room) (va_Pc [.ref (ad 0)] (sg_U D Y σ sz)) (va_Qi (fun r σ' => r = sS M 19 ∧ σ = σ') (sg_B D σ sz) (sg_A σ sz)) 0 0 (sg_A σ sz) := by
  refine sg_met (cc := cX3_thrown) (maxL := 1) (ret := (some .int)) (by decide) rfl (Nat.le_of_ble_eq_true rfl) ?_
  intro p e s m below meth c ls hx hb hml hr hown hts hlocks hnm hP hK hD hN hX hA hS hsz hl
  have hl : lv_has ls 1 [(0, .ref (ad 0))] := hl
  refine lv_aload_n hx hb dX3_thrown_0 rfl (lv_at hl 0 rfl) ?_
  refine va_get (ref := RX3) (v := .int (sS M 19)) hx hb hts wi_X3_thrown hown hK (sg_one hP (hM.1 0 rfl)) 0 rfl rfl 19 (by decide) (hts (.fieldLink RX3 68 RX3 "thrown" "I") (by decide +kernel)) (fun _ h => h) rfl dX3_thrown_1 ?_
  exact sg_iret hx hb hr rfl hlocks hP hD hS (Nat.le_of_ble_eq_true rfl) (Nat.le_of_ble_eq_true rfl) dX3_thrown_4 (⟨rfl, rfl⟩)

theorem wi_X3_may : ∀ w ∈ wsX30, w ∈ wsX3_may := by decide +kernel
set_option maxHeartbeats 4000000 in
set_option maxRecDepth 100000 in
theorem c_X3_may (l : Launch) (D : va_G) (Y : Nat → ClassId) (σ : sg_W) (sz : Nat) (ad : Nat → Nat) (M : MS) (b : Int32) (hb0 : b = 0 ∨ b = 1) (hM : MW Y ad M σ) : Met l yX3_may wsX3_may ({ frames := 0, cells := 0, slots := 0, locals := 0 } : Room) (va_Pc [.ref (ad 0), .int b] (sg_U D Y σ sz)) (va_Qi (fun r σ' => r = b ∧ MF Y ad σ (uS M 19 (t1 b)) σ') (sg_B D σ sz) (sg_A σ sz)) 0 0 (sg_A σ sz) := by
  refine sg_met (cc := cX3_may) (maxL := 2) (ret := (some .boolean)) (by decide) rfl (Nat.le_of_ble_eq_true rfl) ?_
  intro p e s m below meth c ls hx hb hml hr hown hts hlocks hnm hP hK hD hN hX hA hS hsz hl
  have hl : lv_has ls 2 [(0, .ref (ad 0)), (1, .int b)] := hl
  refine lv_aload_n hx hb dX3_may_0 rfl (lv_at hl 0 rfl) ?_
  refine lv_iload_n hx hb dX3_may_1 rfl (lv_at hl 1 rfl) ?_
  refine lv_if_eq (tgt := 9) hx hb dX3_may_2 (by decide) (fun c2_0 => ?_) (fun c2_0 => ?_)
  · skip
    refine lv_iconst (v := 1) hx hb dX3_may_9 (by decide) ?_
    refine sg_put (ref := RX3) (ty := .int) (v := .int 1) hx hb hts wi_X3_may tyX3 tyX3_ok nmX3 hown hK hP hD hS (hM.1 0 rfl) rfl 19 (by decide) (hts (.fieldLink RX3 68 RX3 "thrown" "I") (by decide +kernel)) (fun _ h => h) rfl (by decide +kernel) rfl rfl (Nat.le_of_ble_eq_true rfl) dX3_may_10 (fun H locs hP hD hS => ?_)
    have hM := hM.s19 (v := 1)
    refine lv_iload_n hx hb dX3_may_13 rfl (lv_at hl 1 rfl) ?_
    exact sg_iret hx hb hr (nar_z hb0) hlocks hP hD hS (Nat.le_of_ble_eq_true rfl) (Nat.le_of_ble_eq_true rfl) dX3_may_14 (⟨rfl, by simpa [t1, *] using hM⟩)
  · skip
    refine lv_iconst (v := 0) hx hb dX3_may_5 (by decide) ?_
    refine lv_goto (tgt := 10) hx hb dX3_may_6 (by decide) ?_
    refine sg_put (ref := RX3) (ty := .int) (v := .int 0) hx hb hts wi_X3_may tyX3 tyX3_ok nmX3 hown hK hP hD hS (hM.1 0 rfl) rfl 19 (by decide) (hts (.fieldLink RX3 68 RX3 "thrown" "I") (by decide +kernel)) (fun _ h => h) rfl (by decide +kernel) rfl rfl (Nat.le_of_ble_eq_true rfl) dX3_may_10 (fun H locs hP hD hS => ?_)
    have hM := hM.s19 (v := 0)
    refine lv_iload_n hx hb dX3_may_13 rfl (lv_at hl 1 rfl) ?_
    exact sg_iret hx hb hr (nar_z hb0) hlocks hP hD hS (Nat.le_of_ble_eq_true rfl) (Nat.le_of_ble_eq_true rfl) dX3_may_14 (⟨rfl, by simpa [t1, *] using hM⟩)

theorem wi_X3_mayBoth : ∀ w ∈ wsX30, w ∈ wsX3_mayBoth := by decide +kernel
set_option maxHeartbeats 4000000 in
set_option maxRecDepth 100000 in
theorem c_X3_mayBoth (l : Launch) (D : va_G) (Y : Nat → ClassId) (σ : sg_W) (sz : Nat) (ad : Nat → Nat) (M : MS) (a b : Int32) (hM : MW Y ad M σ) : Met l yX3_mayBoth wsX3_mayBoth ({ frames := 0, cells := 0, slots := 0, locals := 0 } : Room) (va_Pc [.ref (ad 0), .int a, .int b] (sg_U D Y σ sz)) (va_Qi (fun r σ' => r = bI (t2 a b = 0) ∧ MF Y ad σ (uS M 19 (t2 a b)) σ') (sg_B D σ sz) (sg_A σ sz)) 0 0 (sg_A σ sz) := by
  refine sg_met (cc := cX3_mayBoth) (maxL := 3) (ret := (some .boolean)) (by decide) rfl (Nat.le_of_ble_eq_true rfl) ?_
  intro p e s m below meth c ls hx hb hml hr hown hts hlocks hnm hP hK hD hN hX hA hS hsz hl
  have hl : lv_has ls 3 [(0, .ref (ad 0)), (1, .int a), (2, .int b)] := hl
  refine lv_aload_n hx hb dX3_mayBoth_0 rfl (lv_at hl 0 rfl) ?_
  refine lv_iload_n hx hb dX3_mayBoth_1 rfl (lv_at hl 1 rfl) ?_
  refine lv_if_ne (tgt := 9) hx hb dX3_mayBoth_2 (by decide) (fun c2_0 => ?_) (fun c2_0 => ?_)
  · skip
    refine lv_iload_n hx hb dX3_mayBoth_9 rfl (lv_at hl 2 rfl) ?_
    refine lv_if_ne (tgt := 17) hx hb dX3_mayBoth_10 (by decide) (fun c10_1 => ?_) (fun c10_1 => ?_)
    · skip
      refine lv_iconst (v := 0) hx hb dX3_mayBoth_17 (by decide) ?_
      refine sg_put (ref := RX3) (ty := .int) (v := .int 0) hx hb hts wi_X3_mayBoth tyX3 tyX3_ok nmX3 hown hK hP hD hS (hM.1 0 rfl) rfl 19 (by decide) (hts (.fieldLink RX3 68 RX3 "thrown" "I") (by decide +kernel)) (fun _ h => h) rfl (by decide +kernel) rfl rfl (Nat.le_of_ble_eq_true rfl) dX3_mayBoth_18 (fun H locs hP hD hS => ?_)
      have hM := hM.s19 (v := 0)
      refine lv_aload_n hx hb dX3_mayBoth_21 rfl (lv_at hl 0 rfl) ?_
      refine va_get (ref := RX3) (v := .int (sS (uS M 19 0) 19)) hx hb hts wi_X3_mayBoth hown hK (sg_one hP (hM.1 0 rfl)) 0 rfl rfl 19 (by decide) (hts (.fieldLink RX3 68 RX3 "thrown" "I") (by decide +kernel)) (fun _ h => h) rfl dX3_mayBoth_22 ?_
      refine lv_if_ne (tgt := 32) hx hb dX3_mayBoth_25 (by decide) (fun c25_2 => ?_) (fun c25_2 => ?_)
      · skip
        refine lv_iconst (v := 0) hx hb dX3_mayBoth_32 (by decide) ?_
        exact sg_iret hx hb hr rfl hlocks hP hD hS (Nat.le_of_ble_eq_true rfl) (Nat.le_of_ble_eq_true rfl) dX3_mayBoth_33 (⟨by simp_all [t2, bI, sS_uS], by simpa [t2, *] using hM⟩)
      · skip
        refine lv_iconst (v := 1) hx hb dX3_mayBoth_28 (by decide) ?_
        refine lv_goto (tgt := 33) hx hb dX3_mayBoth_29 (by decide) ?_
        exact sg_iret hx hb hr rfl hlocks hP hD hS (Nat.le_of_ble_eq_true rfl) (Nat.le_of_ble_eq_true rfl) dX3_mayBoth_33 (⟨by simp_all [t2, bI, sS_uS], by simpa [t2, *] using hM⟩)
    · skip
      refine lv_iconst (v := 2) hx hb dX3_mayBoth_13 (by decide) ?_
      refine lv_goto (tgt := 18) hx hb dX3_mayBoth_14 (by decide) ?_
      refine sg_put (ref := RX3) (ty := .int) (v := .int 2) hx hb hts wi_X3_mayBoth tyX3 tyX3_ok nmX3 hown hK hP hD hS (hM.1 0 rfl) rfl 19 (by decide) (hts (.fieldLink RX3 68 RX3 "thrown" "I") (by decide +kernel)) (fun _ h => h) rfl (by decide +kernel) rfl rfl (Nat.le_of_ble_eq_true rfl) dX3_mayBoth_18 (fun H locs hP hD hS => ?_)
      have hM := hM.s19 (v := 2)
      refine lv_aload_n hx hb dX3_mayBoth_21 rfl (lv_at hl 0 rfl) ?_
      refine va_get (ref := RX3) (v := .int (sS (uS M 19 2) 19)) hx hb hts wi_X3_mayBoth hown hK (sg_one hP (hM.1 0 rfl)) 0 rfl rfl 19 (by decide) (hts (.fieldLink RX3 68 RX3 "thrown" "I") (by decide +kernel)) (fun _ h => h) rfl dX3_mayBoth_22 ?_
      refine lv_if_ne (tgt := 32) hx hb dX3_mayBoth_25 (by decide) (fun c25_3 => ?_) (fun c25_3 => ?_)
      · skip
        refine lv_iconst (v := 0) hx hb dX3_mayBoth_32 (by decide) ?_
        exact sg_iret hx hb hr rfl hlocks hP hD hS (Nat.le_of_ble_eq_true rfl) (Nat.le_of_ble_eq_true rfl) dX3_mayBoth_33 (⟨by simp_all [t2, bI, sS_uS], by simpa [t2, *] using hM⟩)
      · skip
        refine lv_iconst (v := 1) hx hb dX3_mayBoth_28 (by decide) ?_
        refine lv_goto (tgt := 33) hx hb dX3_mayBoth_29 (by decide) ?_
        exact sg_iret hx hb hr rfl hlocks hP hD hS (Nat.le_of_ble_eq_true rfl) (Nat.le_of_ble_eq_true rfl) dX3_mayBoth_33 (⟨by simp_all [t2, bI, sS_uS], by simpa [t2, *] using hM⟩)
  · skip
    refine lv_iconst (v := 1) hx hb dX3_mayBoth_5 (by decide) ?_
    refine lv_goto (tgt := 18) hx hb dX3_mayBoth_6 (by decide) ?_
    refine sg_put (ref := RX3) (ty := .int) (v := .int 1) hx hb hts wi_X3_mayBoth tyX3 tyX3_ok nmX3 hown hK hP hD hS (hM.1 0 rfl) rfl 19 (by decide) (hts (.fieldLink RX3 68 RX3 "thrown" "I") (by decide +kernel)) (fun _ h => h) rfl (by decide +kernel) rfl rfl (Nat.le_of_ble_eq_true rfl) dX3_mayBoth_18 (fun H locs hP hD hS => ?_)
    have hM := hM.s19 (v := 1)
    refine lv_aload_n hx hb dX3_mayBoth_21 rfl (lv_at hl 0 rfl) ?_
    refine va_get (ref := RX3) (v := .int (sS (uS M 19 1) 19)) hx hb hts wi_X3_mayBoth hown hK (sg_one hP (hM.1 0 rfl)) 0 rfl rfl 19 (by decide) (hts (.fieldLink RX3 68 RX3 "thrown" "I") (by decide +kernel)) (fun _ h => h) rfl dX3_mayBoth_22 ?_
    refine lv_if_ne (tgt := 32) hx hb dX3_mayBoth_25 (by decide) (fun c25_4 => ?_) (fun c25_4 => ?_)
    · skip
      refine lv_iconst (v := 0) hx hb dX3_mayBoth_32 (by decide) ?_
      exact sg_iret hx hb hr rfl hlocks hP hD hS (Nat.le_of_ble_eq_true rfl) (Nat.le_of_ble_eq_true rfl) dX3_mayBoth_33 (⟨by simp_all [t2, bI, sS_uS], by simpa [t2, *] using hM⟩)
    · skip
      refine lv_iconst (v := 1) hx hb dX3_mayBoth_28 (by decide) ?_
      refine lv_goto (tgt := 33) hx hb dX3_mayBoth_29 (by decide) ?_
      exact sg_iret hx hb hr rfl hlocks hP hD hS (Nat.le_of_ble_eq_true rfl) (Nat.le_of_ble_eq_true rfl) dX3_mayBoth_33 (⟨by simp_all [t2, bI, sS_uS], by simpa [t2, *] using hM⟩)

theorem wi_X3_mayAll : ∀ w ∈ wsX30, w ∈ wsX3_mayAll := by decide +kernel
set_option maxHeartbeats 4000000 in
set_option maxRecDepth 100000 in
theorem c_X3_mayAll (l : Launch) (D : va_G) (Y : Nat → ClassId) (σ : sg_W) (sz : Nat) (ad : Nat → Nat) (M : MS) (a b d : Int32) (hM : MW Y ad M σ) : Met l yX3_mayAll wsX3_mayAll ({ frames := 0, cells := 0, slots := 0, locals := 0 } : Room) (va_Pc [.ref (ad 0), .int a, .int b, .int d] (sg_U D Y σ sz)) (va_Qi (fun r σ' => r = bI (t3 a b d = 0) ∧ MF Y ad σ (uS M 19 (t3 a b d)) σ') (sg_B D σ sz) (sg_A σ sz)) 0 0 (sg_A σ sz) := by
  refine sg_met (cc := cX3_mayAll) (maxL := 4) (ret := (some .boolean)) (by decide) rfl (Nat.le_of_ble_eq_true rfl) ?_
  intro p e s m below meth c ls hx hb hml hr hown hts hlocks hnm hP hK hD hN hX hA hS hsz hl
  have hl : lv_has ls 4 [(0, .ref (ad 0)), (1, .int a), (2, .int b), (3, .int d)] := hl
  refine lv_aload_n hx hb dX3_mayAll_0 rfl (lv_at hl 0 rfl) ?_
  refine lv_iload_n hx hb dX3_mayAll_1 rfl (lv_at hl 1 rfl) ?_
  refine lv_if_ne (tgt := 9) hx hb dX3_mayAll_2 (by decide) (fun c2_0 => ?_) (fun c2_0 => ?_)
  · skip
    refine lv_iload_n hx hb dX3_mayAll_9 rfl (lv_at hl 2 rfl) ?_
    refine lv_if_ne (tgt := 17) hx hb dX3_mayAll_10 (by decide) (fun c10_1 => ?_) (fun c10_1 => ?_)
    · skip
      refine lv_iload_n hx hb dX3_mayAll_17 rfl (lv_at hl 3 rfl) ?_
      refine lv_if_ne (tgt := 25) hx hb dX3_mayAll_18 (by decide) (fun c18_2 => ?_) (fun c18_2 => ?_)
      · skip
        refine lv_iconst (v := 0) hx hb dX3_mayAll_25 (by decide) ?_
        refine sg_put (ref := RX3) (ty := .int) (v := .int 0) hx hb hts wi_X3_mayAll tyX3 tyX3_ok nmX3 hown hK hP hD hS (hM.1 0 rfl) rfl 19 (by decide) (hts (.fieldLink RX3 68 RX3 "thrown" "I") (by decide +kernel)) (fun _ h => h) rfl (by decide +kernel) rfl rfl (Nat.le_of_ble_eq_true rfl) dX3_mayAll_26 (fun H locs hP hD hS => ?_)
        have hM := hM.s19 (v := 0)
        refine lv_aload_n hx hb dX3_mayAll_29 rfl (lv_at hl 0 rfl) ?_
        refine va_get (ref := RX3) (v := .int (sS (uS M 19 0) 19)) hx hb hts wi_X3_mayAll hown hK (sg_one hP (hM.1 0 rfl)) 0 rfl rfl 19 (by decide) (hts (.fieldLink RX3 68 RX3 "thrown" "I") (by decide +kernel)) (fun _ h => h) rfl dX3_mayAll_30 ?_
        refine lv_if_ne (tgt := 40) hx hb dX3_mayAll_33 (by decide) (fun c33_3 => ?_) (fun c33_3 => ?_)
        · skip
          refine lv_iconst (v := 0) hx hb dX3_mayAll_40 (by decide) ?_
          exact sg_iret hx hb hr rfl hlocks hP hD hS (Nat.le_of_ble_eq_true rfl) (Nat.le_of_ble_eq_true rfl) dX3_mayAll_41 (⟨by simp_all [t3, bI, sS_uS], by simpa [t3, *] using hM⟩)
        · skip
          refine lv_iconst (v := 1) hx hb dX3_mayAll_36 (by decide) ?_
          refine lv_goto (tgt := 41) hx hb dX3_mayAll_37 (by decide) ?_
          exact sg_iret hx hb hr rfl hlocks hP hD hS (Nat.le_of_ble_eq_true rfl) (Nat.le_of_ble_eq_true rfl) dX3_mayAll_41 (⟨by simp_all [t3, bI, sS_uS], by simpa [t3, *] using hM⟩)
      · skip
        refine lv_iconst (v := 3) hx hb dX3_mayAll_21 (by decide) ?_
        refine lv_goto (tgt := 26) hx hb dX3_mayAll_22 (by decide) ?_
        refine sg_put (ref := RX3) (ty := .int) (v := .int 3) hx hb hts wi_X3_mayAll tyX3 tyX3_ok nmX3 hown hK hP hD hS (hM.1 0 rfl) rfl 19 (by decide) (hts (.fieldLink RX3 68 RX3 "thrown" "I") (by decide +kernel)) (fun _ h => h) rfl (by decide +kernel) rfl rfl (Nat.le_of_ble_eq_true rfl) dX3_mayAll_26 (fun H locs hP hD hS => ?_)
        have hM := hM.s19 (v := 3)
        refine lv_aload_n hx hb dX3_mayAll_29 rfl (lv_at hl 0 rfl) ?_
        refine va_get (ref := RX3) (v := .int (sS (uS M 19 3) 19)) hx hb hts wi_X3_mayAll hown hK (sg_one hP (hM.1 0 rfl)) 0 rfl rfl 19 (by decide) (hts (.fieldLink RX3 68 RX3 "thrown" "I") (by decide +kernel)) (fun _ h => h) rfl dX3_mayAll_30 ?_
        refine lv_if_ne (tgt := 40) hx hb dX3_mayAll_33 (by decide) (fun c33_4 => ?_) (fun c33_4 => ?_)
        · skip
          refine lv_iconst (v := 0) hx hb dX3_mayAll_40 (by decide) ?_
          exact sg_iret hx hb hr rfl hlocks hP hD hS (Nat.le_of_ble_eq_true rfl) (Nat.le_of_ble_eq_true rfl) dX3_mayAll_41 (⟨by simp_all [t3, bI, sS_uS], by simpa [t3, *] using hM⟩)
        · skip
          refine lv_iconst (v := 1) hx hb dX3_mayAll_36 (by decide) ?_
          refine lv_goto (tgt := 41) hx hb dX3_mayAll_37 (by decide) ?_
          exact sg_iret hx hb hr rfl hlocks hP hD hS (Nat.le_of_ble_eq_true rfl) (Nat.le_of_ble_eq_true rfl) dX3_mayAll_41 (⟨by simp_all [t3, bI, sS_uS], by simpa [t3, *] using hM⟩)
    · skip
      refine lv_iconst (v := 2) hx hb dX3_mayAll_13 (by decide) ?_
      refine lv_goto (tgt := 26) hx hb dX3_mayAll_14 (by decide) ?_
      refine sg_put (ref := RX3) (ty := .int) (v := .int 2) hx hb hts wi_X3_mayAll tyX3 tyX3_ok nmX3 hown hK hP hD hS (hM.1 0 rfl) rfl 19 (by decide) (hts (.fieldLink RX3 68 RX3 "thrown" "I") (by decide +kernel)) (fun _ h => h) rfl (by decide +kernel) rfl rfl (Nat.le_of_ble_eq_true rfl) dX3_mayAll_26 (fun H locs hP hD hS => ?_)
      have hM := hM.s19 (v := 2)
      refine lv_aload_n hx hb dX3_mayAll_29 rfl (lv_at hl 0 rfl) ?_
      refine va_get (ref := RX3) (v := .int (sS (uS M 19 2) 19)) hx hb hts wi_X3_mayAll hown hK (sg_one hP (hM.1 0 rfl)) 0 rfl rfl 19 (by decide) (hts (.fieldLink RX3 68 RX3 "thrown" "I") (by decide +kernel)) (fun _ h => h) rfl dX3_mayAll_30 ?_
      refine lv_if_ne (tgt := 40) hx hb dX3_mayAll_33 (by decide) (fun c33_5 => ?_) (fun c33_5 => ?_)
      · skip
        refine lv_iconst (v := 0) hx hb dX3_mayAll_40 (by decide) ?_
        exact sg_iret hx hb hr rfl hlocks hP hD hS (Nat.le_of_ble_eq_true rfl) (Nat.le_of_ble_eq_true rfl) dX3_mayAll_41 (⟨by simp_all [t3, bI, sS_uS], by simpa [t3, *] using hM⟩)
      · skip
        refine lv_iconst (v := 1) hx hb dX3_mayAll_36 (by decide) ?_
        refine lv_goto (tgt := 41) hx hb dX3_mayAll_37 (by decide) ?_
        exact sg_iret hx hb hr rfl hlocks hP hD hS (Nat.le_of_ble_eq_true rfl) (Nat.le_of_ble_eq_true rfl) dX3_mayAll_41 (⟨by simp_all [t3, bI, sS_uS], by simpa [t3, *] using hM⟩)
  · skip
    refine lv_iconst (v := 1) hx hb dX3_mayAll_5 (by decide) ?_
    refine lv_goto (tgt := 26) hx hb dX3_mayAll_6 (by decide) ?_
    refine sg_put (ref := RX3) (ty := .int) (v := .int 1) hx hb hts wi_X3_mayAll tyX3 tyX3_ok nmX3 hown hK hP hD hS (hM.1 0 rfl) rfl 19 (by decide) (hts (.fieldLink RX3 68 RX3 "thrown" "I") (by decide +kernel)) (fun _ h => h) rfl (by decide +kernel) rfl rfl (Nat.le_of_ble_eq_true rfl) dX3_mayAll_26 (fun H locs hP hD hS => ?_)
    have hM := hM.s19 (v := 1)
    refine lv_aload_n hx hb dX3_mayAll_29 rfl (lv_at hl 0 rfl) ?_
    refine va_get (ref := RX3) (v := .int (sS (uS M 19 1) 19)) hx hb hts wi_X3_mayAll hown hK (sg_one hP (hM.1 0 rfl)) 0 rfl rfl 19 (by decide) (hts (.fieldLink RX3 68 RX3 "thrown" "I") (by decide +kernel)) (fun _ h => h) rfl dX3_mayAll_30 ?_
    refine lv_if_ne (tgt := 40) hx hb dX3_mayAll_33 (by decide) (fun c33_6 => ?_) (fun c33_6 => ?_)
    · skip
      refine lv_iconst (v := 0) hx hb dX3_mayAll_40 (by decide) ?_
      exact sg_iret hx hb hr rfl hlocks hP hD hS (Nat.le_of_ble_eq_true rfl) (Nat.le_of_ble_eq_true rfl) dX3_mayAll_41 (⟨by simp_all [t3, bI, sS_uS], by simpa [t3, *] using hM⟩)
    · skip
      refine lv_iconst (v := 1) hx hb dX3_mayAll_36 (by decide) ?_
      refine lv_goto (tgt := 41) hx hb dX3_mayAll_37 (by decide) ?_
      exact sg_iret hx hb hr rfl hlocks hP hD hS (Nat.le_of_ble_eq_true rfl) (Nat.le_of_ble_eq_true rfl) dX3_mayAll_41 (⟨by simp_all [t3, bI, sS_uS], by simpa [t3, *] using hM⟩)

theorem wi_X3_isMember : ∀ w ∈ wsX30, w ∈ wsX3_isMember := by decide +kernel
set_option maxHeartbeats 4000000 in
set_option maxRecDepth 100000 in
theorem c_X3_isMember (l : Launch) (D : va_G) (Y : Nat → ClassId) (σ : sg_W) (sz : Nat) (ad : Nat → Nat) (M : MS) (i : Int32) (hM : MW Y ad M σ) : Met l yX3_isMember wsX3_isMember ({ frames := 1, cells := 0, slots := 0, locals := 22 } : Room) (va_Pc [.ref (ad 0), .int i] (sg_U D Y σ sz)) (va_Qi (fun r σ' => r = bI (qM M i) ∧ σ = σ') (sg_B D σ sz) (sg_A σ sz)) 0 0 (sg_A σ sz) := by
  refine sg_met (cc := cX3_isMember) (maxL := 2) (ret := (some .boolean)) (by decide) rfl (Nat.le_of_ble_eq_true rfl) ?_
  intro p e s m below meth c ls hx hb hml hr hown hts hlocks hnm hP hK hD hN hX hA hS hsz hl
  have hl : lv_has ls 2 [(0, .ref (ad 0)), (1, .int i)] := hl
  refine lv_iload_n hx hb dX3_isMember_0 rfl (lv_at hl 1 rfl) ?_
  refine lv_iconst (v := 0) hx hb dX3_isMember_1 (by decide) ?_
  refine lv_aload_n hx hb dX3_isMember_2 rfl (lv_at hl 0 rfl) ?_
  refine va_get (ref := RX3) (v := .int (sS M 3)) hx hb hts wi_X3_isMember hown hK (sg_one hP (hM.1 0 rfl)) 0 rfl rfl 3 (by decide) (hts (.fieldLink RX3 71 RX3 "members" "I") (by decide +kernel)) (fun _ h => h) rfl dX3_isMember_3 ?_
  refine lv_iconst (v := 1) hx hb dX3_isMember_6 (by decide) ?_
  refine lv_isub hx hb dX3_isMember_7 ?_
  refine sg_calli hD hS hA (va_runS (As := [.int i, .int 0, .int ((sS M 3) - 1)]) (rest := []) ⟨hx, hb, hml, hown, hts⟩ (c_X3_isIn l D Y _ _ i 0 (((sS M 3) - 1))) (va_cwS 3 hts gX3_isMember_X3_isIn rfl rfl rfl (by decide +kernel) ⟨Nat.le_of_ble_eq_true rfl, Nat.le_of_ble_eq_true rfl⟩) (sg_preS hK hP hD hN hX hS hA) rfl rfl hl.1 rfl (lv_room (Nat.le_of_ble_eq_true rfl)) dX3_isMember_8 ⟨Nat.le_of_ble_eq_true rfl, Nat.le_of_ble_eq_true rfl⟩) (fun r8_0 σ' H locs hw hP hD hS => ?_)
  obtain ⟨er8_0, rfl⟩ := hw
  exact sg_iret hx hb hr (nar_z (by rw [er8_0]; exact bI_01)) hlocks hP hD hS (Nat.le_of_ble_eq_true rfl) (Nat.le_of_ble_eq_true rfl) dX3_isMember_11 (⟨er8_0, rfl⟩)

theorem wi_X3_isStaying : ∀ w ∈ wsX30, w ∈ wsX3_isStaying := by decide +kernel
set_option maxHeartbeats 4000000 in
set_option maxRecDepth 100000 in
theorem c_X3_isStaying (l : Launch) (D : va_G) (Y : Nat → ClassId) (σ : sg_W) (sz : Nat) (ad : Nat → Nat) (M : MS) (i : Int32) (h6 : mem6 M) (hM : MW Y ad M σ) : Met l yX3_isStaying wsX3_isStaying ({ frames := 2, cells := 0, slots := 0, locals := 43 } : Room) (va_Pc [.ref (ad 0), .int i] (sg_U D Y σ sz)) (va_Qi (fun r σ' => r = bI (qT M i) ∧ σ = σ') (sg_B D σ sz) (sg_A σ sz)) 0 0 (sg_A σ sz) := by
  refine sg_met (cc := cX3_isStaying) (maxL := 2) (ret := (some .boolean)) (by decide) rfl (Nat.le_of_ble_eq_true rfl) ?_
  intro p e s m below meth c ls hx hb hml hr hown hts hlocks hnm hP hK hD hN hX hA hS hsz hl
  have hl : lv_has ls 2 [(0, .ref (ad 0)), (1, .int i)] := hl
  refine lv_aload_n hx hb dX3_isStaying_0 rfl (lv_at hl 0 rfl) ?_
  refine lv_iload_n hx hb dX3_isStaying_1 rfl (lv_at hl 1 rfl) ?_
  refine sg_calli hD hS hA (va_runV (As := [.int i]) (rest := []) ⟨hx, hb, hml, hown, hts⟩ (c_X3_isMember l D Y _ _ ad M i hM.self) (cwV 1 hts gX3_isStaying_X3_isMember rfl rfl rfl (by decide +kernel) ⟨Nat.le_of_ble_eq_true rfl, Nat.le_of_ble_eq_true rfl⟩) (sg_preV (q := (RX3, TX3, 20)) (hM.1 0 rfl) rfl hK hP hD hN hX hS hA) rfl rfl hl.1 rfl (lv_room (Nat.le_of_ble_eq_true rfl)) dX3_isStaying_2 ⟨Nat.le_of_ble_eq_true rfl, Nat.le_of_ble_eq_true rfl⟩) (fun r2_0 σ' H locs hw hP hD hS => ?_)
  obtain ⟨er2_0, rfl⟩ := hw
  refine lv_if_eq (tgt := 21) hx hb dX3_isStaying_5 (by decide) (fun c5_1 => ?_) (fun c5_1 => ?_)
  · skip
    refine lv_iconst (v := 0) hx hb dX3_isStaying_21 (by decide) ?_
    exact sg_iret hx hb hr rfl hlocks hP hD hS (Nat.le_of_ble_eq_true rfl) (Nat.le_of_ble_eq_true rfl) dX3_isStaying_22 (⟨by grind [bI], rfl⟩)
  · skip
    refine lv_aload_n hx hb dX3_isStaying_8 rfl (lv_at hl 0 rfl) ?_
    refine va_get (ref := RX3) (v := .ref (ad 5)) hx hb hts wi_X3_isStaying hown hK (sg_one hP (hM.1 0 rfl)) 0 rfl rfl 5 (by decide) (hts (.fieldLink RX3 24 RX3 "left" "[Z") (by decide +kernel)) (fun _ h => h) rfl dX3_isStaying_9 ?_
    refine lv_iload_n hx hb dX3_isStaying_12 rfl (lv_at hl 1 rfl) ?_
    refine va_zald hx hb hK (sg_one hP (hM.1 5 rfl)) 0 2 rfl rfl (qM_in h6 (by grind [bI])) dX3_isStaying_13 ?_
    refine lv_if_ne (tgt := 21) hx hb dX3_isStaying_14 (by decide) (fun c14_2 => ?_) (fun c14_2 => ?_)
    · skip
      refine lv_iconst (v := 0) hx hb dX3_isStaying_21 (by decide) ?_
      exact sg_iret hx hb hr rfl hlocks hP hD hS (Nat.le_of_ble_eq_true rfl) (Nat.le_of_ble_eq_true rfl) dX3_isStaying_22 (⟨by grind [bI], rfl⟩)
    · skip
      refine lv_iconst (v := 1) hx hb dX3_isStaying_17 (by decide) ?_
      refine lv_goto (tgt := 22) hx hb dX3_isStaying_18 (by decide) ?_
      exact sg_iret hx hb hr rfl hlocks hP hD hS (Nat.le_of_ble_eq_true rfl) (Nat.le_of_ble_eq_true rfl) dX3_isStaying_22 (⟨by grind [bI], rfl⟩)
