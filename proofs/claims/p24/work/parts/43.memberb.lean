def kLot (c : CS) (d : Int32) : Option Nat := if irem d 6 = 5 then (if d / 6 < 0 ∨ 10 ≤ d / 6 then none else kR c (tN (d / 6))) else none
theorem vp_10 {y : Int32} (h : ¬ y < 0) (h2 : y < 10) : vp_in y 10 := by
  obtain ⟨j, hj, rfl⟩ := nI_of h
  rw [show (10 : Int32) = nI 10 from rfl, nI_ltI hj (by omega)] at h2
  exact vp_in_nI h2 (by decide)
set_option maxHeartbeats 4000000 in
set_option maxRecDepth 100000 in
theorem c_X2_isPurchaseMonth (l : Launch) (D : va_G) (Y : Nat → ClassId) (σ : sg_W) (sz : Nat) (d : Int32) : Met l yX2_isPurchaseMonth wsX2_isPurchaseMonth ({ frames := 0, cells := 0, slots := 0, locals := 0 } : Room) (va_Pc [.int d] (sg_U D Y σ sz)) (va_Qi (fun r σ' => r = bI (irem d 6 = 5) ∧ σ = σ') (sg_B D σ sz) (sg_A σ sz)) 0 0 (sg_A σ sz) := by
  refine sg_met (cc := cX2_isPurchaseMonth) (maxL := 1) (ret := (some .boolean)) (by decide) rfl (Nat.le_of_ble_eq_true rfl) ?_
  intro p e s m below meth cd9 ls hx hb hml hr hown hts hlocks hnm hP hK hD hN hX hA hS hsz hl
  have hl : lv_has ls 1 [(0, .int d)] := hl
  refine lv_iload_n hx hb dX2_isPurchaseMonth_0 rfl (lv_at hl 0 rfl) ?_
  refine lv_bipush (v := 6) hx hb dX2_isPurchaseMonth_1 (by decide) ?_
  refine lv_irem hx hb dX2_isPurchaseMonth_3 (by decide) ?_
  refine lv_iconst (v := 5) hx hb dX2_isPurchaseMonth_4 (by decide) ?_
  refine lv_icmp_ne (tgt := 12) hx hb dX2_isPurchaseMonth_5 (by decide) (fun c5 => ?_) (fun c5 => ?_)
  · skip
    refine lv_iconst (v := 0) hx hb dX2_isPurchaseMonth_12 (by decide) ?_
    exact sg_iret hx hb hr rfl hlocks hP hD hS (Nat.le_of_ble_eq_true rfl) (Nat.le_of_ble_eq_true rfl) dX2_isPurchaseMonth_13 (⟨by grind [bI], rfl⟩)
  · skip
    refine lv_iconst (v := 1) hx hb dX2_isPurchaseMonth_8 (by decide) ?_
    refine lv_goto (tgt := 13) hx hb dX2_isPurchaseMonth_9 (by decide) ?_
    exact sg_iret hx hb hr rfl hlocks hP hD hS (Nat.le_of_ble_eq_true rfl) (Nat.le_of_ble_eq_true rfl) dX2_isPurchaseMonth_13 (⟨by grind [bI], rfl⟩)

theorem wi_X1_lotOf_X1 : ∀ w ∈ wsX10, w ∈ wsX1_lotOf := by decide +kernel
set_option maxHeartbeats 4000000 in
set_option maxRecDepth 100000 in
theorem c_X1_lotOf (l : Launch) (D : va_G) (Y : Nat → ClassId) (σ : sg_W) (sz : Nat) (n aO aL aC : Nat) (c : CS) (d : Int32) (hC : KF Y n aO aL aC σ c σ) : Met l yX1_lotOf wsX1_lotOf ({ frames := 1, cells := 0, slots := 0, locals := 20 } : Room) (va_Pc [.ref aO, .int d] (sg_U D Y σ sz)) (va_Qq (fun r σ' => r = kLot c d ∧ σ = σ') (sg_B D σ sz) (sg_A σ sz)) 0 0 (sg_A σ sz) := by
  refine sg_met (cc := cX1_lotOf) (maxL := 3) (ret := (some (.object "LookbackPlan$Lot"))) (by decide) rfl (Nat.le_of_ble_eq_true rfl) ?_
  intro p e s m below meth cd9 ls hx hb hml hr hown hts hlocks hnm hP hK hD hN hX hA hS hsz hl
  have hl : lv_has ls 3 [(0, .ref aO), (1, .int d)] := hl
  refine lv_iload_n hx hb dX1_lotOf_0 rfl (lv_at hl 1 rfl) ?_
  refine sg_calli hD hS hA (va_runSN (As := [.int d]) (rest := []) ⟨hx, hb, hml, hown, hts⟩ (c_X2_isPurchaseMonth l D Y _ _ d) ⟨(va_cnB 1 hts gX1_lotOf_X2_isPurchaseMonth_n89 rfl rfl rfl (hN.2.1 (.methodLinkNest RX1 89 yX2_isPurchaseMonth RX2) (List.mem_of_getElem? (i := 13) rfl)) (hts (.initialized RX2) (by decide +kernel)) (by decide +kernel) ⟨Nat.le_of_ble_eq_true rfl, Nat.le_of_ble_eq_true rfl⟩), (hts (.static yX2_isPurchaseMonth) (by decide +kernel)), trivial⟩ (sg_preS hK hP hD hN hX hS hA) rfl rfl hl.1 rfl (lv_room (Nat.le_of_ble_eq_true rfl)) dX1_lotOf_1 ⟨Nat.le_of_ble_eq_true rfl, Nat.le_of_ble_eq_true rfl⟩) (fun r1 σ' H locs hw hP hD hS => ?_)
  obtain ⟨rfl, rfl⟩ := hw
  refine lv_if_ne (tgt := 9) hx hb dX1_lotOf_4 (by decide) (fun c4 => ?_) (fun c4 => ?_)
  · skip
    refine lv_iload_n hx hb dX1_lotOf_9 rfl (lv_at hl 1 rfl) ?_
    refine lv_bipush (v := 6) hx hb dX1_lotOf_10 (by decide) ?_
    refine lv_idiv hx hb dX1_lotOf_12 (by decide) ?_
    refine lv_topi (fun v13 ev13 => ?_)
    obtain rfl : v13 = d / 6 := by exact ev13
    refine lv_istore_n (lv' := [(2, .int (d / 6)), (0, .ref aO), (1, .int d)]) hx hb dX1_lotOf_13 rfl hl (by decide) rfl (fun ls hl => ?_)
    refine lv_iload_n hx hb dX1_lotOf_14 rfl (lv_at hl 0 rfl) ?_
    refine lv_if_lt (tgt := 27) hx hb dX1_lotOf_15 (by decide) (fun c15 => ?_) (fun c15 => ?_)
    · skip
      refine lv_null hx hb dX1_lotOf_27 ?_
      refine lv_goto (tgt := 37) hx hb dX1_lotOf_28 (by decide) ?_
      exact sg_qret (v := none) hx hb hr hlocks hP hD hS (Nat.le_of_ble_eq_true rfl) (Nat.le_of_ble_eq_true rfl) dX1_lotOf_37 (⟨by grind [kLot, bI, Int32.not_le, Int32.not_lt], rfl⟩)
    · skip
      refine lv_iload_n hx hb dX1_lotOf_18 rfl (lv_at hl 0 rfl) ?_
      refine lv_aload_n hx hb dX1_lotOf_19 rfl (lv_at hl 1 rfl) ?_
      refine va_get (ref := RX1) (v := .ref aL) hx hb hts wi_X1_lotOf_X1 hown hK (sg_one hP (hC.1)) 0 rfl rfl 0 (by decide) (hts (.fieldLink RX1 11 RX1 "lots" "[LLookbackPlan$Lot;") (by decide +kernel)) (fun _ h => h) rfl dX1_lotOf_20 ?_
      refine va_alen (v := 10) hx hb hK (sg_one hP (hC.2.1)) 0 3 rfl rfl rfl dX1_lotOf_23 ?_
      refine lv_icmp_lt (tgt := 31) hx hb dX1_lotOf_24 (by decide) (fun c24 => ?_) (fun c24 => ?_)
      · skip
        refine lv_aload_n hx hb dX1_lotOf_31 rfl (lv_at hl 1 rfl) ?_
        refine va_get (ref := RX1) (v := .ref aL) hx hb hts wi_X1_lotOf_X1 hown hK (sg_one hP (hC.1)) 0 rfl rfl 0 (by decide) (hts (.fieldLink RX1 11 RX1 "lots" "[LLookbackPlan$Lot;") (by decide +kernel)) (fun _ h => h) rfl dX1_lotOf_32 ?_
        refine lv_iload_n hx hb dX1_lotOf_35 rfl (lv_at hl 0 rfl) ?_
        refine va_aldq hx hb hK (sg_one hP (hC.2.1)) 0 3 rfl rfl (vp_10 c15 c24) dX1_lotOf_36 ?_
        exact sg_qret (v := (kR c ((d / 6)).toNatClampNeg)) hx hb hr hlocks hP hD hS (Nat.le_of_ble_eq_true rfl) (Nat.le_of_ble_eq_true rfl) dX1_lotOf_37 (⟨by grind [kLot, bI, Int32.not_le, Int32.not_lt], rfl⟩)
      · skip
        refine lv_null hx hb dX1_lotOf_27 ?_
        refine lv_goto (tgt := 37) hx hb dX1_lotOf_28 (by decide) ?_
        exact sg_qret (v := none) hx hb hr hlocks hP hD hS (Nat.le_of_ble_eq_true rfl) (Nat.le_of_ble_eq_true rfl) dX1_lotOf_37 (⟨by grind [kLot, bI, Int32.not_le, Int32.not_lt], rfl⟩)
  · skip
    refine lv_null hx hb dX1_lotOf_7 ?_
    exact sg_qret (v := none) hx hb hr hlocks hP hD hS (Nat.le_of_ble_eq_true rfl) (Nat.le_of_ble_eq_true rfl) dX1_lotOf_8 (⟨by grind [kLot, bI, Int32.not_le, Int32.not_lt], rfl⟩)

theorem wi_X1_putLot_X0 : ∀ w ∈ wsX00, w ∈ wsX1_putLot := by decide +kernel
theorem wi_X1_putLot_X1 : ∀ w ∈ wsX10, w ∈ wsX1_putLot := by decide +kernel
set_option maxHeartbeats 4000000 in
set_option maxRecDepth 100000 in
theorem c_X1_putLot (l : Launch) (D : va_G) (Y : Nat → ClassId) (σ : sg_W) (sz : Nat) (n aO aL aC : Nat) (c : CS) (k q : Nat) (v : Nat → Int32) (hC : KF Y n aO aL aC σ c σ) (hv : σ (n + 3 + k) = some (q, .inr (0, lotF v))) (hk : k < 10) (hkv : v 0 / 6 = nI k) : Met l yX1_putLot wsX1_putLot ({ frames := 0, cells := 0, slots := 0, locals := 0 } : Room) (va_Pc [.ref aO, .ref q] (sg_U D Y σ sz)) (va_Qv (fun σ' => KF Y n aO aL aC σ (uKT c k q v) σ') (sg_B D σ sz) (sg_A σ sz)) 0 0 (sg_A σ sz) := by
  refine sg_met (cc := cX1_putLot) (maxL := 3) (ret := none) (by decide) rfl (Nat.le_of_ble_eq_true rfl) ?_
  intro p e s m below meth cd9 ls hx hb hml hr hown hts hlocks hnm hP hK hD hN hX hA hS hsz hl
  have hl : lv_has ls 3 [(0, .ref aO), (1, .ref q)] := hl
  have hck : (nI k).toNatClampNeg = k := nI_clamp (by omega)
  refine lv_aload_n hx hb dX1_putLot_0 rfl (lv_at hl 1 rfl) ?_
  refine va_getN (ref := RX0) (host := RX2) (v := .int (v 0)) hx hb hts wi_X1_putLot_X0 hown hK (sg_one hP (hv)) 0 rfl rfl 0 (by decide) (va_Nw.use rfl (hN.1 (.fieldLinkNest RX1 93 RX0 "month" "I" RX2) (List.mem_of_getElem? (i := 0) rfl))) (fun _ h => h) rfl dX1_putLot_1 ?_
  refine lv_bipush (v := 6) hx hb dX1_putLot_4 (by decide) ?_
  refine lv_idiv hx hb dX1_putLot_6 (by decide) ?_
  refine lv_topi (fun v7 ev7 => ?_)
  obtain rfl : v7 = nI k := by rw [ev7, hkv]
  refine lv_istore_n (lv' := [(2, .int (nI k)), (0, .ref aO), (1, .ref q)]) hx hb dX1_putLot_7 rfl hl (by decide) rfl (fun ls hl => ?_)
  refine lv_iload_n hx hb dX1_putLot_8 rfl (lv_at hl 0 rfl) ?_
  refine lv_if_lt (tgt := 28) hx hb dX1_putLot_9 (by decide) (fun c9 => ?_) (fun c9 => ?_)
  · exact absurd c9 (nI_pos (by omega))
  · skip
    refine lv_iload_n hx hb dX1_putLot_12 rfl (lv_at hl 0 rfl) ?_
    refine lv_aload_n hx hb dX1_putLot_13 rfl (lv_at hl 1 rfl) ?_
    refine va_get (ref := RX1) (v := .ref aL) hx hb hts wi_X1_putLot_X1 hown hK (sg_one hP (hC.1)) 0 rfl rfl 0 (by decide) (hts (.fieldLink RX1 11 RX1 "lots" "[LLookbackPlan$Lot;") (by decide +kernel)) (fun _ h => h) rfl dX1_putLot_14 ?_
    refine va_alen (v := 10) hx hb hK (sg_one hP (hC.2.1)) 0 3 rfl rfl rfl dX1_putLot_17 ?_
    refine lv_icmp_ge (tgt := 28) hx hb dX1_putLot_18 (by decide) (fun c18 => ?_) (fun c18 => ?_)
    · exact absurd c18 (nI_ge (a := k) (b := 10) hk (by omega))
    · skip
      refine lv_aload_n hx hb dX1_putLot_21 rfl (lv_at hl 1 rfl) ?_
      refine va_get (ref := RX1) (v := .ref aL) hx hb hts wi_X1_putLot_X1 hown hK (sg_one hP (hC.1)) 0 rfl rfl 0 (by decide) (hts (.fieldLink RX1 11 RX1 "lots" "[LLookbackPlan$Lot;") (by decide +kernel)) (fun _ h => h) rfl dX1_putLot_22 ?_
      refine lv_iload_n hx hb dX1_putLot_25 rfl (lv_at hl 0 rfl) ?_
      refine lv_aload_n hx hb dX1_putLot_26 rfl (lv_at hl 2 rfl) ?_
      refine sg_aast hx hb hK hP hD hS 3 0 (r := vwCl[0]) (hC.2.1) rfl (hv) rfl (vp_in_nI hk (by decide)) dX1_putLot_27 (fun H locs hP hD hS => ?_)
      have hC := hC.put (k := (nI k).toNatClampNeg) (by rw [hck]; exact hv)
      exact sg_vret hx hb hr hlocks hP hD hS (Nat.le_of_ble_eq_true rfl) (Nat.le_of_ble_eq_true rfl) dX1_putLot_28 (hC.to (by rw [hck]))

theorem wi_X1_sharesHeld_X0 : ∀ w ∈ wsX00, w ∈ wsX1_sharesHeld := by decide +kernel
theorem wi_X1_sharesHeld_X1 : ∀ w ∈ wsX10, w ∈ wsX1_sharesHeld := by decide +kernel
set_option maxHeartbeats 4000000 in
set_option maxRecDepth 100000 in
theorem c_X1_sharesHeld (l : Launch) (D : va_G) (Y : Nat → ClassId) (σ : sg_W) (sz : Nat) (n aO aL aC : Nat) (c : CS) (hC : KF Y n aO aL aC σ c σ) : Met l yX1_sharesHeld wsX1_sharesHeld ({ frames := 0, cells := 0, slots := 0, locals := 0 } : Room) (va_Pc [.ref aO] (sg_U D Y σ sz)) (va_Qi (fun r σ' => r = kSum c 10 ∧ σ = σ') (sg_B D σ sz) (sg_A σ sz)) 0 0 (sg_A σ sz) := by
  refine sg_met (cc := cX1_sharesHeld) (maxL := 4) (ret := (some .int)) (by decide) rfl (Nat.le_of_ble_eq_true rfl) ?_
  intro p e s m below meth cd9 ls hx hb hml hr hown hts hlocks hnm hP hK hD hN hX hA hS hsz hl
  have hl : lv_has ls 4 [(0, .ref aO)] := hl
  refine lv_iconst (v := 0) hx hb dX1_sharesHeld_0 (by decide) ?_
  refine lv_istore_n (lv' := [(1, .int 0), (0, .ref aO)]) hx hb dX1_sharesHeld_1 rfl hl (by decide) rfl (fun ls hl => ?_)
  refine lv_iconst (v := 0) hx hb dX1_sharesHeld_2 (by decide) ?_
  refine lv_istore_n (lv' := [(2, .int 0), (1, .int 0), (0, .ref aO)]) hx hb dX1_sharesHeld_3 rfl hl (by decide) rfl (fun ls hl => ?_)
  refine sg_loop (D := D) (H0 := s.heap) (T := Nat) 4 4 (fun n1 t σ' c' s' => n1 + t = 10 ∧ σ = σ' ∧ c' = 0 ∧ s' = 0) (fun t => [(2, .int (nI t)), (1, .int (kSum c t)), (0, .ref aO)]) ?_ (10) (0) _ _ _ _ _ _ ?_ hP hD hS (lv_sub hl [0, 1, 2] rfl)
  · intro n1 t σ' cells slots H locs ls ih hI hP hD hS hl
    obtain ⟨q, rfl⟩ : ∃ q, q = t := ⟨_, rfl⟩
    obtain ⟨hn, rfl, rfl, rfl⟩ := hI
    have hl : lv_has ls 4 [(2, .int (nI q)), (1, .int (kSum c q)), (0, .ref aO)] := hl
    refine lv_iload_n hx hb dX1_sharesHeld_4 rfl (lv_at hl 0 rfl) ?_
    refine lv_aload_n hx hb dX1_sharesHeld_5 rfl (lv_at hl 2 rfl) ?_
    refine va_get (ref := RX1) (v := .ref aL) hx hb hts wi_X1_sharesHeld_X1 hown hK (sg_one hP (hC.1)) 0 rfl rfl 0 (by decide) (hts (.fieldLink RX1 11 RX1 "lots" "[LLookbackPlan$Lot;") (by decide +kernel)) (fun _ h => h) rfl dX1_sharesHeld_6 ?_
    refine va_alen (v := 10) hx hb hK (sg_one hP (hC.2.1)) 0 3 rfl rfl rfl dX1_sharesHeld_9 ?_
    refine lv_icmp_ge (tgt := 37) hx hb dX1_sharesHeld_10 (by decide) (fun c10 => ?_) (fun c10 => ?_)
    · skip
      rw [show (10 : Int32) = nI 10 from rfl, nI_leI (by omega) (by omega)] at c10
      obtain rfl : q = 10 := by omega
      refine lv_iload_n hx hb dX1_sharesHeld_37 rfl (lv_at hl 1 rfl) ?_
      exact sg_iret hx hb hr rfl hlocks hP hD hS (Nat.le_of_ble_eq_true rfl) (Nat.le_of_ble_eq_true rfl) dX1_sharesHeld_38 (⟨rfl, rfl⟩)
    · skip
      have hq10 : q < 10 := by rw [show (10 : Int32) = nI 10 from rfl, nI_leI (by omega) (by omega)] at c10; omega
      have hcq : (nI q).toNatClampNeg = q := nI_clamp (by omega)
      refine lv_aload_n hx hb dX1_sharesHeld_13 rfl (lv_at hl 2 rfl) ?_
      refine va_get (ref := RX1) (v := .ref aL) hx hb hts wi_X1_sharesHeld_X1 hown hK (sg_one hP (hC.1)) 0 rfl rfl 0 (by decide) (hts (.fieldLink RX1 11 RX1 "lots" "[LLookbackPlan$Lot;") (by decide +kernel)) (fun _ h => h) rfl dX1_sharesHeld_14 ?_
      refine lv_iload_n hx hb dX1_sharesHeld_17 rfl (lv_at hl 0 rfl) ?_
      refine va_aldq hx hb hK (sg_one hP (hC.2.1)) 0 3 rfl rfl (vp_in_nI hq10 (by decide)) dX1_sharesHeld_18 ?_
      rw [hcq]
      rcases hla : kR c q with _ | la
      · skip
        refine lv_astore_nN (lv' := [(3, .null), (2, .int (nI q)), (1, .int (kSum c q)), (0, .ref aO)]) hx hb dX1_sharesHeld_19 rfl hl (by decide) rfl (fun ls hl => ?_)
        refine lv_aload_nN hx hb dX1_sharesHeld_20 rfl (lv_at hl 0 rfl) ?_
        refine lv_ifnullN (tgt := 31) hx hb dX1_sharesHeld_21 (by decide) ?_
        have hs9 : kSum c q = kSum c (q + 1) := by rw [kSum, hla, if_pos rfl]
        rw [hs9] at hl
        obtain ⟨v31, ev31⟩ : ∃ zz9 : Int32, zz9 = (nI q) + 1 := ⟨_, rfl⟩
        obtain rfl : v31 = nI (q + 1) := by rw [ev31]; exact nI_1 _
        refine lv_iinc (v := (nI (q + 1))) (lv' := [(2, .int (nI (q + 1))), (3, .null), (1, .int (kSum c (q + 1))), (0, .ref aO)]) hx hb dX1_sharesHeld_31 hl (k := 1) rfl (nI_1 _) (by decide) rfl (fun ls hl => ?_)
        refine lv_goto (tgt := 4) hx hb dX1_sharesHeld_34 (by decide) ?_
        exact ih (n1 - 1) (q + 1) _ _ _ _ _ _ (by omega) ⟨by omega, rfl, rfl, rfl⟩ hP hD hS (lv_sub hl [0, 2, 3] rfl)
      · skip
        refine lv_astore_n (lv' := [(3, .ref la), (2, .int (nI q)), (1, .int (kSum c q)), (0, .ref aO)]) hx hb dX1_sharesHeld_19 rfl hl (by decide) rfl (fun ls hl => ?_)
        refine lv_aload_n hx hb dX1_sharesHeld_20 rfl (lv_at hl 0 rfl) ?_
        refine lv_ifnull hx hb dX1_sharesHeld_21 ?_
        refine lv_iload_n hx hb dX1_sharesHeld_24 rfl (lv_at hl 2 rfl) ?_
        refine lv_aload_n hx hb dX1_sharesHeld_25 rfl (lv_at hl 0 rfl) ?_
        refine va_getN (ref := RX0) (host := RX2) (v := .int (kV c q 6)) hx hb hts wi_X1_sharesHeld_X0 hown hK (sg_one hP (hC.lot hq10 hla)) 0 rfl rfl 6 (by decide) (va_Nw.use rfl (hN.1 (.fieldLinkNest RX1 96 RX0 "left" "I" RX2) (List.mem_of_getElem? (i := 3) rfl))) (fun _ h => h) rfl dX1_sharesHeld_26 ?_
        refine lv_iadd hx hb dX1_sharesHeld_29 ?_
        refine lv_topi (fun v30 ev30 => ?_)
        obtain rfl : v30 = kSum c (q + 1) := by rw [ev30, kSum, hla, if_neg (by simp)]
        refine lv_istore_n (lv' := [(1, .int (kSum c (q + 1))), (3, .ref la), (2, .int (nI q)), (0, .ref aO)]) hx hb dX1_sharesHeld_30 rfl hl (by decide) rfl (fun ls hl => ?_)
        obtain ⟨v31, ev31⟩ : ∃ zz9 : Int32, zz9 = (nI q) + 1 := ⟨_, rfl⟩
        obtain rfl : v31 = nI (q + 1) := by rw [ev31]; exact nI_1 _
        refine lv_iinc (v := (nI (q + 1))) (lv' := [(2, .int (nI (q + 1))), (1, .int (kSum c (q + 1))), (3, .ref la), (0, .ref aO)]) hx hb dX1_sharesHeld_31 hl (k := 2) rfl (nI_1 _) (by decide) rfl (fun ls hl => ?_)
        refine lv_goto (tgt := 4) hx hb dX1_sharesHeld_34 (by decide) ?_
        exact ih (n1 - 1) (q + 1) _ _ _ _ _ _ (by omega) ⟨by omega, rfl, rfl, rfl⟩ hP hD hS (lv_sub hl [0, 1, 3] rfl)
  · exact ⟨rfl, rfl, rfl, rfl⟩

theorem wi_X1_gainIfAllSold_X0 : ∀ w ∈ wsX00, w ∈ wsX1_gainIfAllSold := by decide +kernel
theorem wi_X1_gainIfAllSold_X1 : ∀ w ∈ wsX10, w ∈ wsX1_gainIfAllSold := by decide +kernel
set_option maxHeartbeats 4000000 in
set_option maxRecDepth 100000 in
theorem c_X1_gainIfAllSold (l : Launch) (D : va_G) (Y : Nat → ClassId) (σ : sg_W) (sz : Nat) (n aO aL aC : Nat) (c : CS) (now price : Int32) (hC : KF Y n aO aL aC σ c σ) : Met l yX1_gainIfAllSold wsX1_gainIfAllSold ({ frames := 3, cells := 0, slots := 0, locals := 66 } : Room) (va_Pc [.ref aO, .int now, .int price] (sg_U D Y σ sz)) (va_Ql (fun r σ' => r = kGN c now price 10 ∧ σ = σ') (sg_B D σ sz) (sg_A σ sz)) 0 0 (sg_A σ sz) := by
  refine sg_met (cc := cX1_gainIfAllSold) (maxL := 7) (ret := (some .long)) (by decide) rfl (Nat.le_of_ble_eq_true rfl) ?_
  intro p e s m below meth cd9 ls hx hb hml hr hown hts hlocks hnm hP hK hD hN hX hA hS hsz hl
  have hl : lv_has ls 7 [(0, .ref aO), (1, .int now), (2, .int price)] := hl
  refine lv_lconst (v := 0) hx hb dX1_gainIfAllSold_0 (by decide) ?_
  refine lv_lstore_n (lv' := [(3, .long 0), (0, .ref aO), (1, .int now), (2, .int price)]) hx hb dX1_gainIfAllSold_1 rfl hl (by decide) rfl (fun ls hl => ?_)
  refine lv_iconst (v := 0) hx hb dX1_gainIfAllSold_2 (by decide) ?_
  refine lv_istore (lv' := [(5, .int 0), (3, .long 0), (0, .ref aO), (1, .int now), (2, .int price)]) hx hb dX1_gainIfAllSold_3 hl (by decide) rfl (fun ls hl => ?_)
  refine sg_loop (D := D) (H0 := s.heap) (T := Nat) 5 7 (fun n1 t σ' c' s' => n1 + t = 10 ∧ σ = σ' ∧ c' = 0 ∧ s' = 0) (fun t => [(5, .int (nI t)), (3, .long (kGN c now price t)), (0, .ref aO), (1, .int now), (2, .int price)]) ?_ (10) (0) _ _ _ _ _ _ ?_ hP hD hS (lv_sub hl [0, 1, 2, 3, 4] rfl)
  · intro n1 t σ' cells slots H locs ls ih hI hP hD hS hl
    obtain ⟨q, rfl⟩ : ∃ q, q = t := ⟨_, rfl⟩
    obtain ⟨hn, rfl, rfl, rfl⟩ := hI
    have hl : lv_has ls 7 [(5, .int (nI q)), (3, .long (kGN c now price q)), (0, .ref aO), (1, .int now), (2, .int price)] := hl
    refine lv_iload hx hb dX1_gainIfAllSold_5 (lv_at hl 0 rfl) ?_
    refine lv_aload_n hx hb dX1_gainIfAllSold_7 rfl (lv_at hl 2 rfl) ?_
    refine va_get (ref := RX1) (v := .ref aL) hx hb hts wi_X1_gainIfAllSold_X1 hown hK (sg_one hP (hC.1)) 0 rfl rfl 0 (by decide) (hts (.fieldLink RX1 11 RX1 "lots" "[LLookbackPlan$Lot;") (by decide +kernel)) (fun _ h => h) rfl dX1_gainIfAllSold_8 ?_
    refine va_alen (v := 10) hx hb hK (sg_one hP (hC.2.1)) 0 3 rfl rfl rfl dX1_gainIfAllSold_11 ?_
    refine lv_icmp_ge (tgt := 52) hx hb dX1_gainIfAllSold_12 (by decide) (fun c12 => ?_) (fun c12 => ?_)
    · skip
      rw [show (10 : Int32) = nI 10 from rfl, nI_leI (by omega) (by omega)] at c12
      obtain rfl : q = 10 := by omega
      refine lv_lload_n hx hb dX1_gainIfAllSold_52 rfl (lv_at hl 1 rfl) ?_
      exact sg_lret hx hb hr hlocks hP hD hS (Nat.le_of_ble_eq_true rfl) (Nat.le_of_ble_eq_true rfl) dX1_gainIfAllSold_53 (⟨rfl, rfl⟩)
    · skip
      have hq10 : q < 10 := by rw [show (10 : Int32) = nI 10 from rfl, nI_leI (by omega) (by omega)] at c12; omega
      have hcq : (nI q).toNatClampNeg = q := nI_clamp (by omega)
      refine lv_aload_n hx hb dX1_gainIfAllSold_15 rfl (lv_at hl 2 rfl) ?_
      refine va_get (ref := RX1) (v := .ref aL) hx hb hts wi_X1_gainIfAllSold_X1 hown hK (sg_one hP (hC.1)) 0 rfl rfl 0 (by decide) (hts (.fieldLink RX1 11 RX1 "lots" "[LLookbackPlan$Lot;") (by decide +kernel)) (fun _ h => h) rfl dX1_gainIfAllSold_16 ?_
      refine lv_iload hx hb dX1_gainIfAllSold_19 (lv_at hl 0 rfl) ?_
      refine va_aldq hx hb hK (sg_one hP (hC.2.1)) 0 3 rfl rfl (vp_in_nI hq10 (by decide)) dX1_gainIfAllSold_21 ?_
      rw [hcq]
      rcases hla : kR c q with _ | la
      · skip
        refine lv_astoreN (lv' := [(6, .null), (5, .int (nI q)), (3, .long (kGN c now price q)), (0, .ref aO), (1, .int now), (2, .int price)]) hx hb dX1_gainIfAllSold_22 hl (by decide) rfl (fun ls hl => ?_)
        refine lv_aloadN hx hb dX1_gainIfAllSold_24 (lv_at hl 0 rfl) ?_
        refine lv_ifnullN (tgt := 46) hx hb dX1_gainIfAllSold_26 (by decide) ?_
        have hs9 : kGN c now price q = kGN c now price (q + 1) := by rw [kGN, hla, if_pos rfl]
        rw [hs9] at hl
        obtain ⟨v46, ev46⟩ : ∃ zz9 : Int32, zz9 = (nI q) + 1 := ⟨_, rfl⟩
        obtain rfl : v46 = nI (q + 1) := by rw [ev46]; exact nI_1 _
        refine lv_iinc (v := (nI (q + 1))) (lv' := [(5, .int (nI (q + 1))), (6, .null), (3, .long (kGN c now price (q + 1))), (0, .ref aO), (1, .int now), (2, .int price)]) hx hb dX1_gainIfAllSold_46 hl (k := 1) rfl (nI_1 _) (by decide) rfl (fun ls hl => ?_)
        refine lv_goto (tgt := 5) hx hb dX1_gainIfAllSold_49 (by decide) ?_
        exact ih (n1 - 1) (q + 1) _ _ _ _ _ _ (by omega) ⟨by omega, rfl, rfl, rfl⟩ hP hD hS (lv_sub hl [0, 2, 3, 4, 5] rfl)
      · skip
        refine lv_astore (lv' := [(6, .ref la), (5, .int (nI q)), (3, .long (kGN c now price q)), (0, .ref aO), (1, .int now), (2, .int price)]) hx hb dX1_gainIfAllSold_22 hl (by decide) rfl (fun ls hl => ?_)
        refine lv_aload hx hb dX1_gainIfAllSold_24 (lv_at hl 0 rfl) ?_
        refine lv_ifnull hx hb dX1_gainIfAllSold_26 ?_
        refine lv_lload_n hx hb dX1_gainIfAllSold_29 rfl (lv_at hl 2 rfl) ?_
        refine lv_aload hx hb dX1_gainIfAllSold_30 (lv_at hl 0 rfl) ?_
        refine va_getN (ref := RX0) (host := RX2) (v := .int (kV c q 6)) hx hb hts wi_X1_gainIfAllSold_X0 hown hK (sg_one hP (hC.lot hq10 hla)) 0 rfl rfl 6 (by decide) (va_Nw.use rfl (hN.1 (.fieldLinkNest RX1 96 RX0 "left" "I" RX2) (List.mem_of_getElem? (i := 3) rfl))) (fun _ h => h) rfl dX1_gainIfAllSold_32 ?_
        refine lv_i2l hx hb dX1_gainIfAllSold_35 rfl ?_
        refine lv_aload hx hb dX1_gainIfAllSold_36 (lv_at hl 0 rfl) ?_
        refine lv_iload_n hx hb dX1_gainIfAllSold_38 rfl (lv_at hl 4 rfl) ?_
        refine lv_iload_n hx hb dX1_gainIfAllSold_39 rfl (lv_at hl 5 rfl) ?_
        refine sg_calll hD hS hA (va_runVN (As := [.int now, .int price]) (rest := [.long ((kV c q 6)).toInt64, .long (kGN c now price q)]) ⟨hx, hb, hml, hown, hts⟩ (c_X0_gainEach l D Y _ _ (n + 3 + q) la (kV c q) now price (hC.lot hq10 hla)) ⟨(va_cnB 2 hts gX1_gainIfAllSold_X0_gainEach_n109 rfl rfl rfl (hN.2.1 (.methodLinkNest RX1 109 yX0_gainEach RX2) (List.mem_of_getElem? (i := 10) rfl)) (hts (.initialized RX0) (by decide +kernel)) (by decide +kernel) ⟨Nat.le_of_ble_eq_true rfl, Nat.le_of_ble_eq_true rfl⟩), (hts (.instanceMethod yX0_gainEach) (by decide +kernel)), (hts (.selects RX0 yX0_gainEach yX0_gainEach) (by decide +kernel))⟩ (sg_preV (q := (RX0, TX0, 7)) (hC.lot hq10 hla) rfl hK hP hD hN hX hS hA) rfl rfl hl.1 rfl (lv_room (Nat.le_of_ble_eq_true rfl)) dX1_gainIfAllSold_40 ⟨Nat.le_of_ble_eq_true rfl, Nat.le_of_ble_eq_true rfl⟩) (fun r40 σ' H locs hw hP hD hS => ?_)
        obtain ⟨rfl, rfl⟩ := hw
        refine lv_lmul hx hb dX1_gainIfAllSold_43 ?_
        refine lv_ladd hx hb dX1_gainIfAllSold_44 ?_
        refine lv_topl (fun v45 ev45 => ?_)
        obtain rfl : v45 = kGN c now price (q + 1) := by rw [ev45, kGN, hla, if_neg (by simp)]
        refine lv_lstore_n (lv' := [(3, .long (kGN c now price (q + 1))), (6, .ref la), (5, .int (nI q)), (0, .ref aO), (1, .int now), (2, .int price)]) hx hb dX1_gainIfAllSold_45 rfl hl (by decide) rfl (fun ls hl => ?_)
        obtain ⟨v46, ev46⟩ : ∃ zz9 : Int32, zz9 = (nI q) + 1 := ⟨_, rfl⟩
        obtain rfl : v46 = nI (q + 1) := by rw [ev46]; exact nI_1 _
        refine lv_iinc (v := (nI (q + 1))) (lv' := [(5, .int (nI (q + 1))), (3, .long (kGN c now price (q + 1))), (6, .ref la), (0, .ref aO), (1, .int now), (2, .int price)]) hx hb dX1_gainIfAllSold_46 hl (k := 2) rfl (nI_1 _) (by decide) rfl (fun ls hl => ?_)
        refine lv_goto (tgt := 5) hx hb dX1_gainIfAllSold_49 (by decide) ?_
        exact ih (n1 - 1) (q + 1) _ _ _ _ _ _ (by omega) ⟨by omega, rfl, rfl, rfl⟩ hP hD hS (lv_sub hl [0, 1, 3, 4, 5] rfl)
  · exact ⟨rfl, rfl, rfl, rfl⟩

theorem wi_X1_sellOldest_X0 : ∀ w ∈ wsX00, w ∈ wsX1_sellOldest := by decide +kernel
theorem wi_X1_sellOldest_X1 : ∀ w ∈ wsX10, w ∈ wsX1_sellOldest := by decide +kernel
set_option maxHeartbeats 4000000 in
set_option maxRecDepth 100000 in
theorem c_X1_sellOldest (l : Launch) (D : va_G) (Y : Nat → ClassId) (σ : sg_W) (sz : Nat) (n aO aL aC : Nat) (c : CS) (cnt now price : Int32) (hC : KF Y n aO aL aC σ c σ) : Met l yX1_sellOldest wsX1_sellOldest ({ frames := 3, cells := 0, slots := 0, locals := 66 } : Room) (va_Pc [.ref aO, .int cnt, .int now, .int price] (sg_U D Y σ sz)) (va_Qi (fun r σ' => r = (kSellN now price 10 (c, cnt, 0)).2.2 ∧ KF Y n aO aL aC σ (kSellN now price 10 (c, cnt, 0)).1 σ') (sg_B D σ sz) (sg_A σ sz)) 0 0 (sg_A σ sz) := by
  refine sg_met (cc := cX1_sellOldest) (maxL := 9) (ret := (some .int)) (by decide) rfl (Nat.le_of_ble_eq_true rfl) ?_
  intro p e s m below meth cd9 ls hx hb hml hr hown hts hlocks hnm hP hK hD hN hX hA hS hsz hl
  have hl : lv_has ls 9 [(0, .ref aO), (1, .int cnt), (2, .int now), (3, .int price)] := hl
  refine lv_iconst (v := 0) hx hb dX1_sellOldest_0 (by decide) ?_
  refine lv_istore (lv' := [(4, .int 0), (0, .ref aO), (1, .int cnt), (2, .int now), (3, .int price)]) hx hb dX1_sellOldest_1 hl (by decide) rfl (fun ls hl => ?_)
  refine lv_iload_n hx hb dX1_sellOldest_3 rfl (lv_at hl 2 rfl) ?_
  refine lv_istore (lv' := [(5, .int cnt), (4, .int 0), (0, .ref aO), (1, .int cnt), (2, .int now), (3, .int price)]) hx hb dX1_sellOldest_4 hl (by decide) rfl (fun ls hl => ?_)
  refine lv_iconst (v := 0) hx hb dX1_sellOldest_6 (by decide) ?_
  refine lv_istore (lv' := [(6, .int 0), (5, .int cnt), (4, .int 0), (0, .ref aO), (1, .int cnt), (2, .int now), (3, .int price)]) hx hb dX1_sellOldest_7 hl (by decide) rfl (fun ls hl => ?_)
  refine sg_loop (D := D) (H0 := s.heap) (T := Nat) 9 9 (fun n1 t σ' c' s' => n1 + t = 10 ∧ KF Y n aO aL aC σ (kSellN now price t (c, cnt, 0)).1 σ' ∧ c' = 0 ∧ s' = 0) (fun t => [(6, .int (nI t)), (5, .int (kSellN now price t (c, cnt, 0)).2.1), (4, .int (kSellN now price t (c, cnt, 0)).2.2), (0, .ref aO), (1, .int cnt), (2, .int now), (3, .int price)]) ?_ (10) (0) _ _ _ _ _ _ ?_ hP hD hS (lv_sub hl [0, 1, 2, 3, 4, 5, 6] rfl)
  · intro n1 t σ' cells slots H locs ls ih hI hP hD hS hl
    obtain ⟨q, rfl⟩ : ∃ q, q = t := ⟨_, rfl⟩
    obtain ⟨hn, hC, rfl, rfl⟩ := hI
    obtain ⟨X, hXX⟩ : ∃ X, X = kSellN now price q (c, cnt, 0) := ⟨_, rfl⟩
    rw [← hXX] at hC
    have hl : lv_has ls 9 [(6, .int (nI q)), (5, .int (kSellN now price q (c, cnt, 0)).2.1), (4, .int (kSellN now price q (c, cnt, 0)).2.2), (0, .ref aO), (1, .int cnt), (2, .int now), (3, .int price)] := hl
    rw [← hXX] at hl
    have hl : lv_has ls 9 [(6, .int (nI q)), (5, .int X.2.1), (4, .int X.2.2), (0, .ref aO), (1, .int cnt), (2, .int now), (3, .int price)] := hl
    refine lv_iload hx hb dX1_sellOldest_9 (lv_at hl 0 rfl) ?_
    refine lv_aload_n hx hb dX1_sellOldest_11 rfl (lv_at hl 3 rfl) ?_
    refine va_get (ref := RX1) (v := .ref aL) hx hb hts wi_X1_sellOldest_X1 hown hK (sg_one hP (hC.1)) 0 rfl rfl 0 (by decide) (hts (.fieldLink RX1 11 RX1 "lots" "[LLookbackPlan$Lot;") (by decide +kernel)) (fun _ h => h) rfl dX1_sellOldest_12 ?_
    refine va_alen (v := 10) hx hb hK (sg_one hP (hC.2.1)) 0 3 rfl rfl rfl dX1_sellOldest_15 ?_
    refine lv_icmp_ge (tgt := 130) hx hb dX1_sellOldest_16 (by decide) (fun c16 => ?_) (fun c16 => ?_)
    · skip
      rw [show (10 : Int32) = nI 10 from rfl, nI_leI (by omega) (by omega)] at c16
      obtain rfl : q = 10 := by omega
      subst hXX
      refine lv_iload hx hb dX1_sellOldest_130 (lv_at hl 2 rfl) ?_
      exact sg_iret hx hb hr rfl hlocks hP hD hS (Nat.le_of_ble_eq_true rfl) (Nat.le_of_ble_eq_true rfl) dX1_sellOldest_132 (⟨rfl, hC⟩)
    · skip
      have hq10 : q < 10 := by rw [show (10 : Int32) = nI 10 from rfl, nI_leI (by omega) (by omega)] at c16; omega
      have hcq : (nI q).toNatClampNeg = q := nI_clamp (by omega)
      refine lv_aload_n hx hb dX1_sellOldest_19 rfl (lv_at hl 3 rfl) ?_
      refine va_get (ref := RX1) (v := .ref aL) hx hb hts wi_X1_sellOldest_X1 hown hK (sg_one hP (hC.1)) 0 rfl rfl 0 (by decide) (hts (.fieldLink RX1 11 RX1 "lots" "[LLookbackPlan$Lot;") (by decide +kernel)) (fun _ h => h) rfl dX1_sellOldest_20 ?_
      refine lv_iload hx hb dX1_sellOldest_23 (lv_at hl 0 rfl) ?_
      refine va_aldq hx hb hK (sg_one hP (hC.2.1)) 0 3 rfl rfl (vp_in_nI hq10 (by decide)) dX1_sellOldest_25 ?_
      rw [hcq]
      rcases hla : kR X.1 q with _ | la
      · skip
        refine lv_astoreN (lv' := [(7, .null), (6, .int (nI q)), (5, .int X.2.1), (4, .int X.2.2), (0, .ref aO), (1, .int cnt), (2, .int now), (3, .int price)]) hx hb dX1_sellOldest_26 hl (by decide) rfl (fun ls hl => ?_)
        refine lv_aloadN hx hb dX1_sellOldest_28 (lv_at hl 0 rfl) ?_
        refine lv_ifnullN (tgt := 124) hx hb dX1_sellOldest_30 (by decide) ?_
        have hs2 : kSellS now price q X = X := by rw [kSellS, if_pos hla]
        have hs1 : (kSellS now price q X).1 = X.1 := by rw [hs2]
        rw [← hs2] at hl
        obtain ⟨v124, ev124⟩ : ∃ zz9 : Int32, zz9 = (nI q) + 1 := ⟨_, rfl⟩
        obtain rfl : v124 = nI (q + 1) := by rw [ev124]; exact nI_1 _
        refine lv_iinc (v := (nI (q + 1))) (lv' := [(6, .int (nI (q + 1))), (7, .null), (5, .int (kSellS now price q X).2.1), (4, .int (kSellS now price q X).2.2), (0, .ref aO), (1, .int cnt), (2, .int now), (3, .int price)]) hx hb dX1_sellOldest_124 hl (k := 1) rfl (nI_1 _) (by decide) rfl (fun ls hl => ?_)
        refine lv_goto (tgt := 9) hx hb dX1_sellOldest_127 (by decide) ?_
        exact ih (n1 - 1) (q + 1) _ _ _ _ _ _ (by omega) ⟨by omega, by rw [kSellN, ← hXX]; exact hC.to hs1.symm, rfl, rfl⟩ hP hD hS (by have hz := lv_sub hl [0, 2, 3, 4, 5, 6, 7] rfl; rw [kSellN, ← hXX]; exact hz)
      · skip
        refine lv_astore (lv' := [(7, .ref la), (6, .int (nI q)), (5, .int X.2.1), (4, .int X.2.2), (0, .ref aO), (1, .int cnt), (2, .int now), (3, .int price)]) hx hb dX1_sellOldest_26 hl (by decide) rfl (fun ls hl => ?_)
        refine lv_aload hx hb dX1_sellOldest_28 (lv_at hl 0 rfl) ?_
        refine lv_ifnull hx hb dX1_sellOldest_30 ?_
        refine lv_iload hx hb dX1_sellOldest_33 (lv_at hl 2 rfl) ?_
        refine lv_aload hx hb dX1_sellOldest_35 (lv_at hl 0 rfl) ?_
        refine va_getN (ref := RX0) (host := RX2) (v := .int (kV X.1 q 6)) hx hb hts wi_X1_sellOldest_X0 hown hK (sg_one hP (hC.lot hq10 hla)) 0 rfl rfl 6 (by decide) (va_Nw.use rfl (hN.1 (.fieldLinkNest RX1 96 RX0 "left" "I" RX2) (List.mem_of_getElem? (i := 3) rfl))) (fun _ h => h) rfl dX1_sellOldest_37 ?_
        refine va_mmin hx hb (hml.trans hl.1.symm) hown (hts (.methodLink RX1 45 Lib.Math.min.name) (by decide +kernel)) (hts (.static Lib.Math.min.name) (by decide +kernel)) (hts (.initialized "java/lang/Math") (by decide +kernel)) (hts (.code Lib.Math.min.name Lib.Math.min.code 2 (some .int)) (by decide +kernel)) (Nat.le_of_ble_eq_true rfl) (Nat.le_of_ble_eq_true rfl) (Nat.le_of_ble_eq_true rfl) (Nat.le_of_ble_eq_true rfl) dX1_sellOldest_40 ?_
        refine lv_topi (fun v43 ev43 => ?_)
        obtain rfl : v43 = kSo X.1 q X.2.1 := by exact ev43
        refine lv_istore (lv' := [(8, .int (kSo X.1 q X.2.1)), (7, .ref la), (6, .int (nI q)), (5, .int X.2.1), (4, .int X.2.2), (0, .ref aO), (1, .int cnt), (2, .int now), (3, .int price)]) hx hb dX1_sellOldest_43 hl (by decide) rfl (fun ls hl => ?_)
        refine lv_aload_n hx hb dX1_sellOldest_45 rfl (lv_at hl 5 rfl) ?_
        refine lv_dup hx hb dX1_sellOldest_46 rfl ?_
        refine va_get (ref := RX1) (v := .long (kL X.1 12)) hx hb hts wi_X1_sellOldest_X1 hown hK (sg_one hP (hC.1)) 0 rfl rfl 12 (by decide) (hts (.fieldLink RX1 99 RX1 "payOfSales" "J") (by decide +kernel)) (fun _ h => h) rfl dX1_sellOldest_47 ?_
        refine lv_iload hx hb dX1_sellOldest_50 (lv_at hl 0 rfl) ?_
        refine lv_i2l hx hb dX1_sellOldest_52 rfl ?_
        refine lv_aload hx hb dX1_sellOldest_53 (lv_at hl 1 rfl) ?_
        refine lv_iload_n hx hb dX1_sellOldest_55 rfl (lv_at hl 7 rfl) ?_
        refine lv_iload_n hx hb dX1_sellOldest_56 rfl (lv_at hl 8 rfl) ?_
        refine sg_calll hD hS hA (va_runVN (As := [.int now, .int price]) (rest := [.long ((kSo X.1 q X.2.1)).toInt64, .long (kL X.1 12), .ref aO]) ⟨hx, hb, hml, hown, hts⟩ (c_X0_payEach l D Y _ _ (n + 3 + q) la (kV X.1 q) now price (hC.lot hq10 hla)) ⟨(va_cnB 2 hts gX1_sellOldest_X0_payEach_n102 rfl rfl rfl (hN.2.1 (.methodLinkNest RX1 102 yX0_payEach RX2) (List.mem_of_getElem? (i := 9) rfl)) (hts (.initialized RX0) (by decide +kernel)) (by decide +kernel) ⟨Nat.le_of_ble_eq_true rfl, Nat.le_of_ble_eq_true rfl⟩), (hts (.instanceMethod yX0_payEach) (by decide +kernel)), (hts (.selects RX0 yX0_payEach yX0_payEach) (by decide +kernel))⟩ (sg_preV (q := (RX0, TX0, 7)) (hC.lot hq10 hla) rfl hK hP hD hN hX hS hA) rfl rfl hl.1 rfl (lv_room (Nat.le_of_ble_eq_true rfl)) dX1_sellOldest_57 ⟨Nat.le_of_ble_eq_true rfl, Nat.le_of_ble_eq_true rfl⟩) (fun r57 σ' H locs hw hP hD hS => ?_)
        obtain ⟨rfl, rfl⟩ := hw
        refine lv_lmul hx hb dX1_sellOldest_60 ?_
        refine lv_ladd hx hb dX1_sellOldest_61 ?_
        refine sg_put (ref := RX1) (ty := .long) (v := .long ((kL X.1 12) + (((kSo X.1 q X.2.1)).toInt64 * (lP (kV X.1 q) now price)))) hx hb hts wi_X1_sellOldest_X1 tyX1 tyX1_ok nmX1 hown hK hP hD hS (hC.1) rfl 12 (by decide) (hts (.fieldLink RX1 99 RX1 "payOfSales" "J") (by decide +kernel)) (fun _ h => h) rfl (by decide +kernel) rfl rfl (Nat.le_of_ble_eq_true rfl) dX1_sellOldest_62 (fun H locs hP hD hS => ?_)
        have hC := hC.l12 (v := ((kL X.1 12) + (((kSo X.1 q X.2.1)).toInt64 * (lP (kV X.1 q) now price))))
        refine lv_aload_n hx hb dX1_sellOldest_65 rfl (lv_at hl 5 rfl) ?_
        refine lv_dup hx hb dX1_sellOldest_66 rfl ?_
        refine va_get (ref := RX1) (v := .long (kL (uKL X.1 12 (((kL X.1 12) + (((kSo X.1 q X.2.1)).toInt64 * (lP (kV X.1 q) now price))))) 13)) hx hb hts wi_X1_sellOldest_X1 hown hK (sg_one hP (hC.1)) 0 rfl rfl 13 (by decide) (hts (.fieldLink RX1 106 RX1 "gainOfSales" "J") (by decide +kernel)) (fun _ h => h) rfl dX1_sellOldest_67 ?_
        refine lv_iload hx hb dX1_sellOldest_70 (lv_at hl 0 rfl) ?_
        refine lv_i2l hx hb dX1_sellOldest_72 rfl ?_
        refine lv_aload hx hb dX1_sellOldest_73 (lv_at hl 1 rfl) ?_
        refine lv_iload_n hx hb dX1_sellOldest_75 rfl (lv_at hl 7 rfl) ?_
        refine lv_iload_n hx hb dX1_sellOldest_76 rfl (lv_at hl 8 rfl) ?_
        refine sg_calll hD hS hA (va_runVN (As := [.int now, .int price]) (rest := [.long ((kSo X.1 q X.2.1)).toInt64, .long (kL (uKL X.1 12 (((kL X.1 12) + (((kSo X.1 q X.2.1)).toInt64 * (lP (kV X.1 q) now price))))) 13), .ref aO]) ⟨hx, hb, hml, hown, hts⟩ (c_X0_gainEach l D Y _ _ (n + 3 + q) la (kV (uKL X.1 12 (((kL X.1 12) + (((kSo X.1 q X.2.1)).toInt64 * (lP (kV X.1 q) now price))))) q) now price (hC.lot hq10 hla)) ⟨(va_cnB 2 hts gX1_sellOldest_X0_gainEach_n109 rfl rfl rfl (hN.2.1 (.methodLinkNest RX1 109 yX0_gainEach RX2) (List.mem_of_getElem? (i := 10) rfl)) (hts (.initialized RX0) (by decide +kernel)) (by decide +kernel) ⟨Nat.le_of_ble_eq_true rfl, Nat.le_of_ble_eq_true rfl⟩), (hts (.instanceMethod yX0_gainEach) (by decide +kernel)), (hts (.selects RX0 yX0_gainEach yX0_gainEach) (by decide +kernel))⟩ (sg_preV (q := (RX0, TX0, 7)) (hC.lot hq10 hla) rfl hK hP hD hN hX hS hA) rfl rfl hl.1 rfl (lv_room (Nat.le_of_ble_eq_true rfl)) dX1_sellOldest_77 ⟨Nat.le_of_ble_eq_true rfl, Nat.le_of_ble_eq_true rfl⟩) (fun r77 σ' H locs hw hP hD hS => ?_)
        obtain ⟨rfl, rfl⟩ := hw
        refine lv_lmul hx hb dX1_sellOldest_80 ?_
        refine lv_ladd hx hb dX1_sellOldest_81 ?_
        refine sg_put (ref := RX1) (ty := .long) (v := .long ((kL (uKL X.1 12 (((kL X.1 12) + (((kSo X.1 q X.2.1)).toInt64 * (lP (kV X.1 q) now price))))) 13) + (((kSo X.1 q X.2.1)).toInt64 * (lG (kV (uKL X.1 12 (((kL X.1 12) + (((kSo X.1 q X.2.1)).toInt64 * (lP (kV X.1 q) now price))))) q) now price)))) hx hb hts wi_X1_sellOldest_X1 tyX1 tyX1_ok nmX1 hown hK hP hD hS (hC.1) rfl 13 (by decide) (hts (.fieldLink RX1 106 RX1 "gainOfSales" "J") (by decide +kernel)) (fun _ h => h) rfl (by decide +kernel) rfl rfl (Nat.le_of_ble_eq_true rfl) dX1_sellOldest_82 (fun H locs hP hD hS => ?_)
        have hC := hC.l13 (v := ((kL (uKL X.1 12 (((kL X.1 12) + (((kSo X.1 q X.2.1)).toInt64 * (lP (kV X.1 q) now price))))) 13) + (((kSo X.1 q X.2.1)).toInt64 * (lG (kV (uKL X.1 12 (((kL X.1 12) + (((kSo X.1 q X.2.1)).toInt64 * (lP (kV X.1 q) now price))))) q) now price))))
        refine lv_iload hx hb dX1_sellOldest_85 (lv_at hl 4 rfl) ?_
        refine lv_aload hx hb dX1_sellOldest_87 (lv_at hl 1 rfl) ?_
        refine lv_iload_n hx hb dX1_sellOldest_89 rfl (lv_at hl 7 rfl) ?_
        refine sg_calli hD hS hA (va_runVN (As := [.int now]) (rest := [.int X.2.2]) ⟨hx, hb, hml, hown, hts⟩ (c_X0_isEarly l D Y _ _ (n + 3 + q) la (kV (uKL (uKL X.1 12 (((kL X.1 12) + (((kSo X.1 q X.2.1)).toInt64 * (lP (kV X.1 q) now price))))) 13 (((kL (uKL X.1 12 (((kL X.1 12) + (((kSo X.1 q X.2.1)).toInt64 * (lP (kV X.1 q) now price))))) 13) + (((kSo X.1 q X.2.1)).toInt64 * (lG (kV (uKL X.1 12 (((kL X.1 12) + (((kSo X.1 q X.2.1)).toInt64 * (lP (kV X.1 q) now price))))) q) now price))))) q) now (hC.lot hq10 hla)) ⟨(va_cnB 1 hts gX1_sellOldest_X0_isEarly_n112 rfl rfl rfl (hN.2.1 (.methodLinkNest RX1 112 yX0_isEarly RX2) (List.mem_of_getElem? (i := 11) rfl)) (hts (.initialized RX0) (by decide +kernel)) (by decide +kernel) ⟨Nat.le_of_ble_eq_true rfl, Nat.le_of_ble_eq_true rfl⟩), (hts (.instanceMethod yX0_isEarly) (by decide +kernel)), (hts (.selects RX0 yX0_isEarly yX0_isEarly) (by decide +kernel))⟩ (sg_preV (q := (RX0, TX0, 7)) (hC.lot hq10 hla) rfl hK hP hD hN hX hS hA) rfl rfl hl.1 rfl (lv_room (Nat.le_of_ble_eq_true rfl)) dX1_sellOldest_90 ⟨Nat.le_of_ble_eq_true rfl, Nat.le_of_ble_eq_true rfl⟩) (fun r90 σ' H locs hw hP hD hS => ?_)
        obtain ⟨rfl, rfl⟩ := hw
        refine lv_if_eq (tgt := 101) hx hb dX1_sellOldest_93 (by decide) (fun c93 => ?_) (fun c93 => ?_)
        · skip
          refine lv_iconst (v := 0) hx hb dX1_sellOldest_101 (by decide) ?_
          refine lv_iadd hx hb dX1_sellOldest_102 ?_
          refine lv_topi (fun v103 ev103 => ?_)
          obtain rfl : v103 = (kSellS now price q X).2.2 := by rw [ev103, kSellS, if_neg (by rw [hla]; simp)]; show _ = X.2.2 + (if lE (kV X.1 q) now = 0 then 0 else kSo X.1 q X.2.1); first | rw [if_pos (show lE (kV X.1 q) now = 0 from c93)] | rw [if_neg (show ¬ lE (kV X.1 q) now = 0 from c93)]
          refine lv_istore (lv' := [(4, .int ((kSellS now price q X).2.2)), (8, .int (kSo X.1 q X.2.1)), (7, .ref la), (6, .int (nI q)), (5, .int X.2.1), (0, .ref aO), (1, .int cnt), (2, .int now), (3, .int price)]) hx hb dX1_sellOldest_103 hl (by decide) rfl (fun ls hl => ?_)
          refine lv_aload hx hb dX1_sellOldest_105 (lv_at hl 2 rfl) ?_
          refine lv_dup hx hb dX1_sellOldest_107 rfl ?_
          refine va_getN (ref := RX0) (host := RX2) (v := .int (kV (uKL (uKL X.1 12 (((kL X.1 12) + (((kSo X.1 q X.2.1)).toInt64 * (lP (kV X.1 q) now price))))) 13 (((kL (uKL X.1 12 (((kL X.1 12) + (((kSo X.1 q X.2.1)).toInt64 * (lP (kV X.1 q) now price))))) 13) + (((kSo X.1 q X.2.1)).toInt64 * (lG (kV (uKL X.1 12 (((kL X.1 12) + (((kSo X.1 q X.2.1)).toInt64 * (lP (kV X.1 q) now price))))) q) now price))))) q 6)) hx hb hts wi_X1_sellOldest_X0 hown hK (sg_one hP (hC.lot hq10 hla)) 0 rfl rfl 6 (by decide) (va_Nw.use rfl (hN.1 (.fieldLinkNest RX1 96 RX0 "left" "I" RX2) (List.mem_of_getElem? (i := 3) rfl))) (fun _ h => h) rfl dX1_sellOldest_108 ?_
          refine lv_iload hx hb dX1_sellOldest_111 (lv_at hl 1 rfl) ?_
          refine lv_isub hx hb dX1_sellOldest_113 ?_
          refine sg_putN (ref := RX0) (host := RX2) (ty := .int) (v := .int ((kV (uKL (uKL X.1 12 (((kL X.1 12) + (((kSo X.1 q X.2.1)).toInt64 * (lP (kV X.1 q) now price))))) 13 (((kL (uKL X.1 12 (((kL X.1 12) + (((kSo X.1 q X.2.1)).toInt64 * (lP (kV X.1 q) now price))))) 13) + (((kSo X.1 q X.2.1)).toInt64 * (lG (kV (uKL X.1 12 (((kL X.1 12) + (((kSo X.1 q X.2.1)).toInt64 * (lP (kV X.1 q) now price))))) q) now price))))) q 6) - (kSo X.1 q X.2.1))) hx hb hts wi_X1_sellOldest_X0 tyX0 tyX0_ok nmX0 hown hK hP hD hS (hC.lot hq10 hla) rfl 6 (by decide) (va_Nw.use rfl (hN.1 (.fieldLinkNest RX1 96 RX0 "left" "I" RX2) (List.mem_of_getElem? (i := 3) rfl))) (fun _ h => h) rfl (by decide +kernel) rfl rfl (Nat.le_of_ble_eq_true rfl) dX1_sellOldest_114 (fun H locs hP hD hS => ?_)
          have hC := hC.left hq10 hla (v := ((kV (uKL (uKL X.1 12 (((kL X.1 12) + (((kSo X.1 q X.2.1)).toInt64 * (lP (kV X.1 q) now price))))) 13 (((kL (uKL X.1 12 (((kL X.1 12) + (((kSo X.1 q X.2.1)).toInt64 * (lP (kV X.1 q) now price))))) 13) + (((kSo X.1 q X.2.1)).toInt64 * (lG (kV (uKL X.1 12 (((kL X.1 12) + (((kSo X.1 q X.2.1)).toInt64 * (lP (kV X.1 q) now price))))) q) now price))))) q 6) - (kSo X.1 q X.2.1)))
          have hs1 : (kSellS now price q X).1 = uK6 (uKL (uKL X.1 12 (((kL X.1 12) + (((kSo X.1 q X.2.1)).toInt64 * (lP (kV X.1 q) now price))))) 13 (((kL (uKL X.1 12 (((kL X.1 12) + (((kSo X.1 q X.2.1)).toInt64 * (lP (kV X.1 q) now price))))) 13) + (((kSo X.1 q X.2.1)).toInt64 * (lG (kV (uKL X.1 12 (((kL X.1 12) + (((kSo X.1 q X.2.1)).toInt64 * (lP (kV X.1 q) now price))))) q) now price))))) q (((kV (uKL (uKL X.1 12 (((kL X.1 12) + (((kSo X.1 q X.2.1)).toInt64 * (lP (kV X.1 q) now price))))) 13 (((kL (uKL X.1 12 (((kL X.1 12) + (((kSo X.1 q X.2.1)).toInt64 * (lP (kV X.1 q) now price))))) 13) + (((kSo X.1 q X.2.1)).toInt64 * (lG (kV (uKL X.1 12 (((kL X.1 12) + (((kSo X.1 q X.2.1)).toInt64 * (lP (kV X.1 q) now price))))) q) now price))))) q 6) - (kSo X.1 q X.2.1))) := by rw [kSellS, if_neg (by rw [hla]; simp)]; rfl
          refine lv_iload hx hb dX1_sellOldest_117 (lv_at hl 4 rfl) ?_
          refine lv_iload hx hb dX1_sellOldest_119 (lv_at hl 1 rfl) ?_
          refine lv_isub hx hb dX1_sellOldest_121 ?_
          refine lv_topi (fun v122 ev122 => ?_)
          obtain rfl : v122 = (kSellS now price q X).2.1 := by rw [ev122, kSellS, if_neg (by rw [hla]; simp)]
          refine lv_istore (lv' := [(5, .int ((kSellS now price q X).2.1)), (4, .int ((kSellS now price q X).2.2)), (8, .int (kSo X.1 q X.2.1)), (7, .ref la), (6, .int (nI q)), (0, .ref aO), (1, .int cnt), (2, .int now), (3, .int price)]) hx hb dX1_sellOldest_122 hl (by decide) rfl (fun ls hl => ?_)
          obtain ⟨v124, ev124⟩ : ∃ zz9 : Int32, zz9 = (nI q) + 1 := ⟨_, rfl⟩
          obtain rfl : v124 = nI (q + 1) := by rw [ev124]; exact nI_1 _
          refine lv_iinc (v := (nI (q + 1))) (lv' := [(6, .int (nI (q + 1))), (5, .int ((kSellS now price q X).2.1)), (4, .int ((kSellS now price q X).2.2)), (8, .int (kSo X.1 q X.2.1)), (7, .ref la), (0, .ref aO), (1, .int cnt), (2, .int now), (3, .int price)]) hx hb dX1_sellOldest_124 hl (k := 4) rfl (nI_1 _) (by decide) rfl (fun ls hl => ?_)
          refine lv_goto (tgt := 9) hx hb dX1_sellOldest_127 (by decide) ?_
          exact ih (n1 - 1) (q + 1) _ _ _ _ _ _ (by omega) ⟨by omega, by rw [kSellN, ← hXX]; exact hC.to hs1.symm, rfl, rfl⟩ hP hD hS (by have hz := lv_sub hl [0, 1, 2, 5, 6, 7, 8] rfl; rw [kSellN, ← hXX]; exact hz)
        · skip
          refine lv_iload hx hb dX1_sellOldest_96 (lv_at hl 0 rfl) ?_
          refine lv_goto (tgt := 102) hx hb dX1_sellOldest_98 (by decide) ?_
          refine lv_iadd hx hb dX1_sellOldest_102 ?_
          refine lv_topi (fun v103 ev103 => ?_)
          obtain rfl : v103 = (kSellS now price q X).2.2 := by rw [ev103, kSellS, if_neg (by rw [hla]; simp)]; show _ = X.2.2 + (if lE (kV X.1 q) now = 0 then 0 else kSo X.1 q X.2.1); first | rw [if_pos (show lE (kV X.1 q) now = 0 from c93)] | rw [if_neg (show ¬ lE (kV X.1 q) now = 0 from c93)]
          refine lv_istore (lv' := [(4, .int ((kSellS now price q X).2.2)), (8, .int (kSo X.1 q X.2.1)), (7, .ref la), (6, .int (nI q)), (5, .int X.2.1), (0, .ref aO), (1, .int cnt), (2, .int now), (3, .int price)]) hx hb dX1_sellOldest_103 hl (by decide) rfl (fun ls hl => ?_)
          refine lv_aload hx hb dX1_sellOldest_105 (lv_at hl 2 rfl) ?_
          refine lv_dup hx hb dX1_sellOldest_107 rfl ?_
          refine va_getN (ref := RX0) (host := RX2) (v := .int (kV (uKL (uKL X.1 12 (((kL X.1 12) + (((kSo X.1 q X.2.1)).toInt64 * (lP (kV X.1 q) now price))))) 13 (((kL (uKL X.1 12 (((kL X.1 12) + (((kSo X.1 q X.2.1)).toInt64 * (lP (kV X.1 q) now price))))) 13) + (((kSo X.1 q X.2.1)).toInt64 * (lG (kV (uKL X.1 12 (((kL X.1 12) + (((kSo X.1 q X.2.1)).toInt64 * (lP (kV X.1 q) now price))))) q) now price))))) q 6)) hx hb hts wi_X1_sellOldest_X0 hown hK (sg_one hP (hC.lot hq10 hla)) 0 rfl rfl 6 (by decide) (va_Nw.use rfl (hN.1 (.fieldLinkNest RX1 96 RX0 "left" "I" RX2) (List.mem_of_getElem? (i := 3) rfl))) (fun _ h => h) rfl dX1_sellOldest_108 ?_
          refine lv_iload hx hb dX1_sellOldest_111 (lv_at hl 1 rfl) ?_
          refine lv_isub hx hb dX1_sellOldest_113 ?_
          refine sg_putN (ref := RX0) (host := RX2) (ty := .int) (v := .int ((kV (uKL (uKL X.1 12 (((kL X.1 12) + (((kSo X.1 q X.2.1)).toInt64 * (lP (kV X.1 q) now price))))) 13 (((kL (uKL X.1 12 (((kL X.1 12) + (((kSo X.1 q X.2.1)).toInt64 * (lP (kV X.1 q) now price))))) 13) + (((kSo X.1 q X.2.1)).toInt64 * (lG (kV (uKL X.1 12 (((kL X.1 12) + (((kSo X.1 q X.2.1)).toInt64 * (lP (kV X.1 q) now price))))) q) now price))))) q 6) - (kSo X.1 q X.2.1))) hx hb hts wi_X1_sellOldest_X0 tyX0 tyX0_ok nmX0 hown hK hP hD hS (hC.lot hq10 hla) rfl 6 (by decide) (va_Nw.use rfl (hN.1 (.fieldLinkNest RX1 96 RX0 "left" "I" RX2) (List.mem_of_getElem? (i := 3) rfl))) (fun _ h => h) rfl (by decide +kernel) rfl rfl (Nat.le_of_ble_eq_true rfl) dX1_sellOldest_114 (fun H locs hP hD hS => ?_)
          have hC := hC.left hq10 hla (v := ((kV (uKL (uKL X.1 12 (((kL X.1 12) + (((kSo X.1 q X.2.1)).toInt64 * (lP (kV X.1 q) now price))))) 13 (((kL (uKL X.1 12 (((kL X.1 12) + (((kSo X.1 q X.2.1)).toInt64 * (lP (kV X.1 q) now price))))) 13) + (((kSo X.1 q X.2.1)).toInt64 * (lG (kV (uKL X.1 12 (((kL X.1 12) + (((kSo X.1 q X.2.1)).toInt64 * (lP (kV X.1 q) now price))))) q) now price))))) q 6) - (kSo X.1 q X.2.1)))
          have hs1 : (kSellS now price q X).1 = uK6 (uKL (uKL X.1 12 (((kL X.1 12) + (((kSo X.1 q X.2.1)).toInt64 * (lP (kV X.1 q) now price))))) 13 (((kL (uKL X.1 12 (((kL X.1 12) + (((kSo X.1 q X.2.1)).toInt64 * (lP (kV X.1 q) now price))))) 13) + (((kSo X.1 q X.2.1)).toInt64 * (lG (kV (uKL X.1 12 (((kL X.1 12) + (((kSo X.1 q X.2.1)).toInt64 * (lP (kV X.1 q) now price))))) q) now price))))) q (((kV (uKL (uKL X.1 12 (((kL X.1 12) + (((kSo X.1 q X.2.1)).toInt64 * (lP (kV X.1 q) now price))))) 13 (((kL (uKL X.1 12 (((kL X.1 12) + (((kSo X.1 q X.2.1)).toInt64 * (lP (kV X.1 q) now price))))) 13) + (((kSo X.1 q X.2.1)).toInt64 * (lG (kV (uKL X.1 12 (((kL X.1 12) + (((kSo X.1 q X.2.1)).toInt64 * (lP (kV X.1 q) now price))))) q) now price))))) q 6) - (kSo X.1 q X.2.1))) := by rw [kSellS, if_neg (by rw [hla]; simp)]; rfl
          refine lv_iload hx hb dX1_sellOldest_117 (lv_at hl 4 rfl) ?_
          refine lv_iload hx hb dX1_sellOldest_119 (lv_at hl 1 rfl) ?_
          refine lv_isub hx hb dX1_sellOldest_121 ?_
          refine lv_topi (fun v122 ev122 => ?_)
          obtain rfl : v122 = (kSellS now price q X).2.1 := by rw [ev122, kSellS, if_neg (by rw [hla]; simp)]
          refine lv_istore (lv' := [(5, .int ((kSellS now price q X).2.1)), (4, .int ((kSellS now price q X).2.2)), (8, .int (kSo X.1 q X.2.1)), (7, .ref la), (6, .int (nI q)), (0, .ref aO), (1, .int cnt), (2, .int now), (3, .int price)]) hx hb dX1_sellOldest_122 hl (by decide) rfl (fun ls hl => ?_)
          obtain ⟨v124, ev124⟩ : ∃ zz9 : Int32, zz9 = (nI q) + 1 := ⟨_, rfl⟩
          obtain rfl : v124 = nI (q + 1) := by rw [ev124]; exact nI_1 _
          refine lv_iinc (v := (nI (q + 1))) (lv' := [(6, .int (nI (q + 1))), (5, .int ((kSellS now price q X).2.1)), (4, .int ((kSellS now price q X).2.2)), (8, .int (kSo X.1 q X.2.1)), (7, .ref la), (0, .ref aO), (1, .int cnt), (2, .int now), (3, .int price)]) hx hb dX1_sellOldest_124 hl (k := 4) rfl (nI_1 _) (by decide) rfl (fun ls hl => ?_)
          refine lv_goto (tgt := 9) hx hb dX1_sellOldest_127 (by decide) ?_
          exact ih (n1 - 1) (q + 1) _ _ _ _ _ _ (by omega) ⟨by omega, by rw [kSellN, ← hXX]; exact hC.to hs1.symm, rfl, rfl⟩ hP hD hS (by have hz := lv_sub hl [0, 1, 2, 5, 6, 7, 8] rfl; rw [kSellN, ← hXX]; exact hz)
  · exact ⟨rfl, hC, rfl, rfl⟩
