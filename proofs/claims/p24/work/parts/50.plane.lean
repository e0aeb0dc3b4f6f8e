def pNew : PS := (fun k => if k = 2 then -1 else if k = 4 then 2500000 else 0, fun _ => kNew 0 0 0)
theorem pNew_PF {Y : Nat → ClassId} {x q7 : Nat} {σ : sg_W} {z1 z2 z3 z4 z5 : va_E} (hz : z5 = .inr (2, p_f q7 pNew) := by rfl) : PF Y x q7 0 (fun _ => 0) (fun _ => 0) (fun _ => 0) σ pNew (sg_u (sg_u (sg_u (sg_u (sg_u (sg_u σ 1 q7 (.inl (Y 4, 6, .inr (.inr (.inr (.inr (fun _ => none))))))) 0 x z1) 0 x z2) 0 x z3) 0 x z4) 0 x z5) := by
  subst hz
  refine ⟨sg_ue, ?_, fun i hi => absurd hi (Nat.not_lt_zero i), fun j hj => ?_, by omega⟩
  · rw [sg_un (by omega), sg_un (by omega), sg_un (by omega), sg_un (by omega), sg_un (by omega), sg_ue]
    have e : (fun _ => none : Nat → Option Nat) = pR 0 (fun _ => 0) := by funext i; simp [pR]
    rw [e]
  · rw [sg_un (by omega), sg_un (by omega), sg_un (by omega), sg_un (by omega), sg_un (by omega), sg_un (by omega)]
theorem wi_X2_buyForAll_X1 : ∀ w ∈ wsX10, w ∈ wsX2_buyForAll := by decide +kernel
theorem wi_X2_buyForAll_X2 : ∀ w ∈ wsX20, w ∈ wsX2_buyForAll := by decide +kernel
set_option maxHeartbeats 4000000 in
set_option maxRecDepth 100000 in
theorem c_X2_buyForAll (l : Launch) (D : va_G) (Y : Nat → ClassId) (σ : sg_W) (sz : Nat) (x aM N : Nat) (aO aL aC : Nat → Nat) (P : PS) (k : Nat) (hQ : PF Y x aM N aO aL aC σ P σ) (hk : k < 10) (hmo : pS P 2 / 6 = nI k) (hfr : ∀ i, i < N → kR (pC P i) k = none) : Met l yX2_buyForAll wsX2_buyForAll ({ frames := 3, cells := 6, slots := 42, locals := 68 } : Room) (va_Pc [.ref x] (sg_U D Y σ sz)) (va_Qv (fun σ' => ∃ qs : Nat → Nat, PF Y x aM N aO aL aC σ (pAll qs N P 6) σ') (sg_B D σ sz) (sg_A σ sz)) 6 42 (sg_A σ sz) := by
  refine sg_met (cc := cX2_buyForAll) (maxL := 3) (ret := none) (by decide) rfl (Nat.le_of_ble_eq_true rfl) ?_
  intro p e s m below meth cd9 ls hx hb hml hr hown hts hlocks hnm hP hK hD hN hX hA hS hsz hl
  have hl : lv_has ls 3 [(0, .ref x)] := hl
  refine lv_iconst (v := 0) hx hb dX2_buyForAll_0 (by decide) ?_
  refine lv_istore_n (lv' := [(1, .int 0), (0, .ref x)]) hx hb dX2_buyForAll_1 rfl hl (by decide) rfl (fun ls hl => ?_)
  refine sg_loop (D := D) (H0 := s.heap) (T := Nat) 2 3 (fun n1 t σ' c' s' => n1 + t = 6 ∧ (∃ qs : Nat → Nat, PF Y x aM N aO aL aC σ (pAll qs N P t) σ') ∧ c' ≤ t ∧ s' ≤ 7 * t) (fun t => [(1, .int (nI t)), (0, .ref x)]) ?_ (6) (0) _ _ _ _ _ _ ?_ hP hD hS (lv_sub hl [0, 1] rfl)
  · intro n1 t σ' cells slots H locs ls ih hI hP hD hS hl
    obtain ⟨q, rfl⟩ : ∃ q, q = t := ⟨_, rfl⟩
    obtain ⟨hn, ⟨qs, hQ⟩, hc9, hs9⟩ := hI
    have hl : lv_has ls 3 [(1, .int (nI q)), (0, .ref x)] := hl
    refine lv_iload_n hx hb dX2_buyForAll_2 rfl (lv_at hl 0 rfl) ?_
    refine lv_aload_n hx hb dX2_buyForAll_3 rfl (lv_at hl 1 rfl) ?_
    refine va_get (ref := RX2) (v := .ref aM) hx hb hts wi_X2_buyForAll_X2 hown hK (sg_one hP (hQ.1)) 0 rfl rfl 0 (by decide) (hts (.fieldLink RX2 11 RX2 "members" "[LLookbackPlan$Member;") (by decide +kernel)) (fun _ h => h) rfl dX2_buyForAll_4 ?_
    refine va_alen (v := 6) hx hb hK (sg_one hP (hQ.2.1)) 0 4 rfl rfl rfl dX2_buyForAll_7 ?_
    refine lv_icmp_ge (tgt := 51) hx hb dX2_buyForAll_8 (by decide) (fun c8 => ?_) (fun c8 => ?_)
    · skip
      rw [show (6 : Int32) = nI 6 from rfl, nI_leI (by omega) (by omega)] at c8
      obtain rfl : q = 6 := by omega
      exact sg_vret hx hb hr hlocks hP hD hS (by omega) (by omega) dX2_buyForAll_51 (⟨qs, hQ⟩)
    · skip
      have hq10 : q < 6 := by rw [show (6 : Int32) = nI 6 from rfl, nI_leI (by omega) (by omega)] at c8; omega
      have hcq : (nI q).toNatClampNeg = q := nI_clamp (by omega)
      refine lv_aload_n hx hb dX2_buyForAll_11 rfl (lv_at hl 1 rfl) ?_
      refine va_get (ref := RX2) (v := .ref aM) hx hb hts wi_X2_buyForAll_X2 hown hK (sg_one hP (hQ.1)) 0 rfl rfl 0 (by decide) (hts (.fieldLink RX2 11 RX2 "members" "[LLookbackPlan$Member;") (by decide +kernel)) (fun _ h => h) rfl dX2_buyForAll_12 ?_
      refine lv_iload_n hx hb dX2_buyForAll_15 rfl (lv_at hl 0 rfl) ?_
      refine va_aldq hx hb hK (sg_one hP (hQ.2.1)) 0 4 rfl rfl (vp_in_nI hq10 (by decide)) dX2_buyForAll_16 ?_
      rw [hcq]
      rcases hla : pR N aO q with _ | la
      · skip
        refine lv_astore_nN (lv' := [(2, .null), (1, .int (nI q)), (0, .ref x)]) hx hb dX2_buyForAll_17 rfl hl (by decide) rfl (fun ls hl => ?_)
        refine lv_aload_nN hx hb dX2_buyForAll_18 rfl (lv_at hl 0 rfl) ?_
        refine lv_ifnullN (tgt := 45) hx hb dX2_buyForAll_19 (by decide) ?_
        have hQ9 : ∃ qs : Nat → Nat, PF Y x aM N aO aL aC σ (pAll qs N P (q + 1)) _ := ⟨qs, hQ.to (by rw [pAll, if_neg (fun h => pR_none hla h.1)])⟩
        obtain ⟨v45, ev45⟩ : ∃ zz9 : Int32, zz9 = (nI q) + 1 := ⟨_, rfl⟩
        obtain rfl : v45 = nI (q + 1) := by rw [ev45]; exact nI_1 _
        refine lv_iinc (v := (nI (q + 1))) (lv' := [(1, .int (nI (q + 1))), (2, .null), (0, .ref x)]) hx hb dX2_buyForAll_45 hl (k := 1) rfl (nI_1 _) (by decide) rfl (fun ls hl => ?_)
        refine lv_goto (tgt := 2) hx hb dX2_buyForAll_48 (by decide) ?_
        exact ih (n1 - 1) (q + 1) _ _ _ _ _ _ (by omega) ⟨by omega, hQ9, by omega, by omega⟩ hP hD hS (lv_sub hl [0, 2] rfl)
      · obtain ⟨e9, hi9⟩ := pR_some hla
        cases e9
        refine lv_astore_n (lv' := [(2, .ref (aO q)), (1, .int (nI q)), (0, .ref x)]) hx hb dX2_buyForAll_17 rfl hl (by decide) rfl (fun ls hl => ?_)
        refine lv_aload_n hx hb dX2_buyForAll_18 rfl (lv_at hl 0 rfl) ?_
        refine lv_ifnull hx hb dX2_buyForAll_19 ?_
        refine lv_aload_n hx hb dX2_buyForAll_22 rfl (lv_at hl 0 rfl) ?_
        refine va_getN (ref := RX1) (host := RX2) (v := .int (kI (pC (pAll qs N P q) q) 3)) hx hb hts wi_X2_buyForAll_X1 hown hK (sg_one hP ((hQ.2.2.1 _ hi9).1)) 0 rfl rfl 3 (by decide) (va_Nw.use rfl (hN.1 (.fieldLinkNest RX2 160 RX1 "hasLeft" "Z" RX2) (List.mem_of_getElem? (i := 5) rfl))) (fun _ h => h) rfl dX2_buyForAll_23 ?_
        refine lv_if_ne (tgt := 45) hx hb dX2_buyForAll_26 (by decide) (fun c26 => ?_) (fun c26 => ?_)
        · skip
          have hQ9 : ∃ qs : Nat → Nat, PF Y x aM N aO aL aC σ (pAll qs N P (q + 1)) _ := ⟨qs, hQ.to (by rw [pAll, if_neg (fun h => c26 h.2)])⟩
          obtain ⟨v45, ev45⟩ : ∃ zz9 : Int32, zz9 = (nI q) + 1 := ⟨_, rfl⟩
          obtain rfl : v45 = nI (q + 1) := by rw [ev45]; exact nI_1 _
          refine lv_iinc (v := (nI (q + 1))) (lv' := [(1, .int (nI (q + 1))), (2, .ref (aO q)), (0, .ref x)]) hx hb dX2_buyForAll_45 hl (k := 1) rfl (nI_1 _) (by decide) rfl (fun ls hl => ?_)
          refine lv_goto (tgt := 2) hx hb dX2_buyForAll_48 (by decide) ?_
          exact ih (n1 - 1) (q + 1) _ _ _ _ _ _ (by omega) ⟨by omega, hQ9, by omega, by omega⟩ hP hD hS (lv_sub hl [0, 2] rfl)
        · skip
          refine lv_aload_n hx hb dX2_buyForAll_29 rfl (lv_at hl 0 rfl) ?_
          refine lv_aload_n hx hb dX2_buyForAll_30 rfl (lv_at hl 2 rfl) ?_
          refine va_get (ref := RX2) (v := .int (pS (pAll qs N P q) 2)) hx hb hts wi_X2_buyForAll_X2 hown hK (sg_one hP (hQ.1)) 0 rfl rfl 2 (by decide) (hts (.fieldLink RX2 19 RX2 "month" "I") (by decide +kernel)) (fun _ h => h) rfl dX2_buyForAll_31 ?_
          refine lv_aload_n hx hb dX2_buyForAll_34 rfl (lv_at hl 2 rfl) ?_
          refine va_get (ref := RX2) (v := .int (pS (pAll qs N P q) 3)) hx hb hts wi_X2_buyForAll_X2 hown hK (sg_one hP (hQ.1)) 0 rfl rfl 3 (by decide) (hts (.fieldLink RX2 22 RX2 "priceNow" "I") (by decide +kernel)) (fun _ h => h) rfl dX2_buyForAll_35 ?_
          refine lv_aload_n hx hb dX2_buyForAll_38 rfl (lv_at hl 2 rfl) ?_
          refine va_get (ref := RX2) (v := .int (pS (pAll qs N P q) 4)) hx hb hts wi_X2_buyForAll_X2 hown hK (sg_one hP (hQ.1)) 0 rfl rfl 4 (by decide) (hts (.fieldLink RX2 26 RX2 "ceiling" "I") (by decide +kernel)) (fun _ h => h) rfl dX2_buyForAll_39 ?_
          refine sg_callv hD hS hA (va_runVN (As := [.int (pS (pAll qs N P q) 2), .int (pS (pAll qs N P q) 3), .int (pS (pAll qs N P q) 4)]) (rest := []) ⟨hx, hb, hml, hown, hts⟩ (c_X1_buyShares l D Y _ _ (1000 + 20 * q) (aO q) (aL q) (aC q) (pC (pAll qs N P q) q) k (pS (pAll qs N P q) 2) (pS (pAll qs N P q) 3) (pS (pAll qs N P q) 4) (hQ.2.2.1 _ hi9) hk (by rw [pAll_S]; exact hmo) (by rw [pAll_C _ (Nat.le_refl _)]; exact hfr q hi9)) ⟨(va_cnB 3 hts gX2_buyForAll_X1_buyShares_n166 rfl rfl rfl (hN.2.1 (.methodLinkNest RX2 166 yX1_buyShares RX2) (List.mem_of_getElem? (i := 4) rfl)) (hts (.initialized RX1) (by decide +kernel)) (by decide +kernel) ⟨Nat.le_of_ble_eq_true rfl, Nat.le_of_ble_eq_true rfl⟩), (hts (.instanceMethod yX1_buyShares) (by decide +kernel)), (hts (.selects RX1 yX1_buyShares yX1_buyShares) (by decide +kernel))⟩ (sg_preV (q := (RX1, TX1, 14)) ((hQ.2.2.1 _ hi9).1) rfl hK hP hD hN hX hS hA) rfl rfl hl.1 rfl (lv_room (Nat.le_of_ble_eq_true rfl)) dX2_buyForAll_42 ⟨by show cells + 1 ≤ 6; omega, by show slots + 7 ≤ 42; omega⟩) (fun σ' H locs hw hP hD hS => ?_)
          obtain ⟨q9, hw⟩ := hw
          have hQ := hQ.mem hi9 hw
          have hQ9 : ∃ qs : Nat → Nat, PF Y x aM N aO aL aC σ (pAll qs N P (q + 1)) _ := ⟨va_up qs q q9, hQ.to (by rw [pAll, ← pAll_q (q := qs) (q' := va_up qs q q9) q (fun j hj => (va_up_ne _ _ (by omega)).symm), va_up_self, if_pos ⟨hi9, c26⟩, pAll_S, pAll_S, pAll_S])⟩
          obtain ⟨v45, ev45⟩ : ∃ zz9 : Int32, zz9 = (nI q) + 1 := ⟨_, rfl⟩
          obtain rfl : v45 = nI (q + 1) := by rw [ev45]; exact nI_1 _
          refine lv_iinc (v := (nI (q + 1))) (lv' := [(1, .int (nI (q + 1))), (2, .ref (aO q)), (0, .ref x)]) hx hb dX2_buyForAll_45 hl (k := 1) rfl (nI_1 _) (by decide) rfl (fun ls hl => ?_)
          refine lv_goto (tgt := 2) hx hb dX2_buyForAll_48 (by decide) ?_
          exact ih (n1 - 1) (q + 1) _ _ _ _ _ _ (by omega) ⟨by omega, hQ9, by omega, by omega⟩ hP hD hS (lv_sub hl [0, 2] rfl)
  · exact ⟨rfl, ⟨fun _ => 0, hQ⟩, Nat.le_refl _, Nat.le_refl _⟩

theorem wi_X2_next_X2 : ∀ w ∈ wsX20, w ∈ wsX2_next := by decide +kernel
set_option maxHeartbeats 4000000 in
set_option maxRecDepth 100000 in
theorem c_X2_next (l : Launch) (hfl : l.stackTraces = false) (D : va_G) (Y : Nat → ClassId) (σ : sg_W) (sz : Nat) (x aM N : Nat) (aO aL aC : Nat → Nat) (P : PS) (y : Int32) (hQ : PF Y x aM N aO aL aC σ P σ) (hB : irem (pS P 2) 6 = 5 → ∃ k, k < 10 ∧ pS P 2 / 6 = nI k ∧ ∀ i, i < N → kR (pC P i) k = none) : vx_Met l yX2_next wsX2_next ({ frames := 6, cells := 6, slots := 42, locals := 90 } : Room) (va_Pc [.ref x, .int y] (sg_U D Y σ sz)) (va_Qi (fun r σ' => r = pS P 2 + 1 ∧ qIn y 1 100000 ∧ pS P 2 < 59 ∧ ∃ qs : Nat → Nat, PF Y x aM N aO aL aC σ (uPS (uPS (if irem (pS P 2) 6 = 5 then pAll qs N P 6 else P) 2 (pS P 2 + 1)) 3 y) σ') (sg_B D σ sz) (sg_A σ sz)) (sg_T9 D σ sz (fun E => (E = "java/lang/IllegalArgumentException" ∧ ¬ qIn y 1 100000) ∨ (qIn y 1 100000 ∧ E = "java/lang/IllegalStateException" ∧ ¬ pS P 2 < 59))) 6 42 (sg_A σ sz) := by
  refine sg_metX (cc := cX2_next) (maxL := 2) (ret := (some .int)) (by decide) rfl (Nat.le_of_ble_eq_true rfl) ?_
  intro p e s m below meth cd9 ls hx hb hml hex hr hown hts hlocks hnm hP hK hD hN hX hA hS hsz hl
  have hl : lv_has ls 2 [(0, .ref x), (1, .int y)] := hl
  refine lv_iload_n hx hb dX2_next_0 rfl (lv_at hl 1 rfl) ?_
  refine lv_iconst (v := 1) hx hb dX2_next_1 (by decide) ?_
  refine lv_icmp_lt (tgt := 11) hx hb dX2_next_2 (by decide) (fun c2 => ?_) (fun c2 => ?_)
  · skip
    exact sg_throw (cls := "java/lang/IllegalArgumentException") (names := ["java/lang/RuntimeException", "java/lang/Exception"]) (B := [.castable "java/lang/IllegalArgumentException" "java/lang/IllegalArgumentException", .declares (Bundle.initS "java/lang/RuntimeException"), .declares (Bundle.initS "java/lang/Exception"), .declares (Bundle.initS "java/lang/Throwable")]) hx hb hfl hown (by decide +kernel) (by decide +kernel) (hts (.classLink RX2 30 "java/lang/IllegalArgumentException") (by decide +kernel)) (hts (.initialized "java/lang/IllegalArgumentException") (by decide +kernel)) (hN.2.2.2.2 (32, "the price is out of its range") (List.mem_of_getElem? (i := 7) rfl)) (fun w h => hts w (List.mem_cons_of_mem _ (List.mem_append_left _ (List.mem_append_right _ h)))) (by decide +kernel) (vx_c (va_Nw.use rfl (hN.2.2.1 _ (List.mem_of_getElem? (i := 1) rfl))) (vx_c (va_Nw.use rfl (hN.2.2.1 _ (List.mem_of_getElem? (i := 3) rfl))) (vx_c (va_Nw.use rfl (hN.2.2.1 _ (List.mem_of_getElem? (i := 4) rfl))) (vx_c (va_Nw.use rfl (hN.2.2.1 _ (List.mem_of_getElem? (i := 5) rfl))) vx_n)))) (by decide +kernel) hX hP hS (hl.1.trans hml.symm) dX2_next_11 dX2_next_14 dX2_next_15 dX2_next_17 dX2_next_20 hex (Nat.le_of_ble_eq_true rfl) (Nat.le_of_ble_eq_true rfl) (Nat.le_of_ble_eq_true rfl) (Nat.le_of_ble_eq_true rfl) hlocks (Nat.le_of_ble_eq_true rfl) (Nat.le_of_ble_eq_true rfl) (Or.inl ⟨rfl, by grind [Int32.not_le, Int32.not_lt]⟩)
  · skip
    refine lv_iload_n hx hb dX2_next_5 rfl (lv_at hl 1 rfl) ?_
    refine lv_ldc (v := 100000) hx hb hown (hts (.constant RX2 29 100000) (by decide +kernel)) dX2_next_6 ?_
    refine lv_icmp_le (tgt := 21) hx hb dX2_next_8 (by decide) (fun c8 => ?_) (fun c8 => ?_)
    · skip
      have hqs : qIn y 1 100000 := by grind [Int32.not_le, Int32.not_lt]
      refine lv_aload_n hx hb dX2_next_21 rfl (lv_at hl 0 rfl) ?_
      refine va_get (ref := RX2) (v := .int (pS P 2)) hx hb hts wi_X2_next_X2 hown hK (sg_one hP (hQ.1)) 0 rfl rfl 2 (by decide) (hts (.fieldLink RX2 19 RX2 "month" "I") (by decide +kernel)) (fun _ h => h) rfl dX2_next_22 ?_
      refine lv_bipush (v := 59) hx hb dX2_next_25 (by decide) ?_
      refine lv_icmp_lt (tgt := 40) hx hb dX2_next_27 (by decide) (fun c27 => ?_) (fun c27 => ?_)
      · skip
        refine lv_aload_n hx hb dX2_next_40 rfl (lv_at hl 0 rfl) ?_
        refine va_get (ref := RX2) (v := .int (pS P 2)) hx hb hts wi_X2_next_X2 hown hK (sg_one hP (hQ.1)) 0 rfl rfl 2 (by decide) (hts (.fieldLink RX2 19 RX2 "month" "I") (by decide +kernel)) (fun _ h => h) rfl dX2_next_41 ?_
        refine sg_calli hD hS hA (va_runS (As := [.int (pS P 2)]) (rest := []) ⟨hx, hb, hml, hown, hts⟩ (c_X2_isPurchaseMonth l D Y _ _ ((pS P 2))) (va_cwS 1 hts gX2_next_X2_isPurchaseMonth rfl rfl rfl (by decide +kernel) ⟨Nat.le_of_ble_eq_true rfl, Nat.le_of_ble_eq_true rfl⟩) (sg_preS hK hP hD hN hX hS hA) rfl rfl hl.1 rfl (lv_room (Nat.le_of_ble_eq_true rfl)) dX2_next_44 ⟨Nat.le_of_ble_eq_true rfl, Nat.le_of_ble_eq_true rfl⟩) (fun r44 σ' H locs hw hP hD hS => ?_)
        obtain ⟨rfl, rfl⟩ := hw
        refine lv_if_eq (tgt := 54) hx hb dX2_next_47 (by decide) (fun c47 => ?_) (fun c47 => ?_)
        · skip
          have hp5 : ¬ irem (pS P 2) 6 = 5 := bI_0.mp c47
          refine lv_aload_n hx hb dX2_next_54 rfl (lv_at hl 0 rfl) ?_
          refine lv_dup hx hb dX2_next_55 rfl ?_
          refine va_get (ref := RX2) (v := .int (pS P 2)) hx hb hts wi_X2_next_X2 hown hK (sg_one hP (hQ.1)) 0 rfl rfl 2 (by decide) (hts (.fieldLink RX2 19 RX2 "month" "I") (by decide +kernel)) (fun _ h => h) rfl dX2_next_56 ?_
          refine lv_iconst (v := 1) hx hb dX2_next_59 (by decide) ?_
          refine lv_iadd hx hb dX2_next_60 ?_
          refine sg_put (ref := RX2) (ty := .int) (v := .int ((pS P 2) + 1)) hx hb hts wi_X2_next_X2 tyX2 tyX2_ok nmX2 hown hK hP hD hS (hQ.1) rfl 2 (by decide) (hts (.fieldLink RX2 19 RX2 "month" "I") (by decide +kernel)) (fun _ h => h) rfl (by decide +kernel) rfl rfl (Nat.le_of_ble_eq_true rfl) dX2_next_61 (fun H locs hP hD hS => ?_)
          have hQ := hQ.s2 (v := ((pS P 2) + 1))
          refine lv_aload_n hx hb dX2_next_64 rfl (lv_at hl 0 rfl) ?_
          refine lv_iload_n hx hb dX2_next_65 rfl (lv_at hl 1 rfl) ?_
          refine sg_put (ref := RX2) (ty := .int) (v := .int y) hx hb hts wi_X2_next_X2 tyX2 tyX2_ok nmX2 hown hK hP hD hS (hQ.1) rfl 3 (by decide) (hts (.fieldLink RX2 22 RX2 "priceNow" "I") (by decide +kernel)) (fun _ h => h) rfl (by decide +kernel) rfl rfl (Nat.le_of_ble_eq_true rfl) dX2_next_66 (fun H locs hP hD hS => ?_)
          have hQ := hQ.s3 (v := y)
          refine lv_aload_n hx hb dX2_next_69 rfl (lv_at hl 0 rfl) ?_
          refine va_get (ref := RX2) (v := .int (pS (uPS (uPS P 2 (((pS P 2) + 1))) 3 y) 2)) hx hb hts wi_X2_next_X2 hown hK (sg_one hP (hQ.1)) 0 rfl rfl 2 (by decide) (hts (.fieldLink RX2 19 RX2 "month" "I") (by decide +kernel)) (fun _ h => h) rfl dX2_next_70 ?_
          exact vx_ret (sg_iret hx hb hr rfl hlocks hP hD hS (Nat.le_of_ble_eq_true rfl) (Nat.le_of_ble_eq_true rfl) dX2_next_73 (⟨by simp only [pS_uPS, ite_true]; rfl, hqs, c27, ⟨fun _ => 0, hQ.to (by rw [if_neg hp5])⟩⟩))
        · skip
          have hp5 : irem (pS P 2) 6 = 5 := by rw [bI_0] at c47; exact Classical.not_not.mp c47
          obtain ⟨k9, hk9, hmo9, hfr9⟩ := hB hp5
          refine lv_aload_n hx hb dX2_next_50 rfl (lv_at hl 0 rfl) ?_
          refine sg_callv hD hS hA (va_runV (As := []) (rest := []) ⟨hx, hb, hml, hown, hts⟩ (c_X2_buyForAll l D Y _ _ x aM N aO aL aC P k9 hQ.self hk9 hmo9 hfr9) (cwV 0 hts gX2_next_X2_buyForAll rfl rfl rfl (by decide +kernel) ⟨Nat.le_of_ble_eq_true rfl, Nat.le_of_ble_eq_true rfl⟩) (sg_preV (q := (RX2, TX2, 5)) (hQ.1) rfl hK hP hD hN hX hS hA) rfl rfl hl.1 rfl (lv_room (Nat.le_of_ble_eq_true rfl)) dX2_next_51 ⟨Nat.le_of_ble_eq_true rfl, Nat.le_of_ble_eq_true rfl⟩) (fun σ' H locs hw hP hD hS => ?_)
          obtain ⟨qs, hw⟩ := hw
          have hQ := hQ.trans hw
          refine lv_aload_n hx hb dX2_next_54 rfl (lv_at hl 0 rfl) ?_
          refine lv_dup hx hb dX2_next_55 rfl ?_
          refine va_get (ref := RX2) (v := .int (pS (pAll qs N P 6) 2)) hx hb hts wi_X2_next_X2 hown hK (sg_one hP (hQ.1)) 0 rfl rfl 2 (by decide) (hts (.fieldLink RX2 19 RX2 "month" "I") (by decide +kernel)) (fun _ h => h) rfl dX2_next_56 ?_
          refine lv_iconst (v := 1) hx hb dX2_next_59 (by decide) ?_
          refine lv_iadd hx hb dX2_next_60 ?_
          refine sg_put (ref := RX2) (ty := .int) (v := .int ((pS (pAll qs N P 6) 2) + 1)) hx hb hts wi_X2_next_X2 tyX2 tyX2_ok nmX2 hown hK hP hD hS (hQ.1) rfl 2 (by decide) (hts (.fieldLink RX2 19 RX2 "month" "I") (by decide +kernel)) (fun _ h => h) rfl (by decide +kernel) rfl rfl (Nat.le_of_ble_eq_true rfl) dX2_next_61 (fun H locs hP hD hS => ?_)
          have hQ := hQ.s2 (v := ((pS (pAll qs N P 6) 2) + 1))
          refine lv_aload_n hx hb dX2_next_64 rfl (lv_at hl 0 rfl) ?_
          refine lv_iload_n hx hb dX2_next_65 rfl (lv_at hl 1 rfl) ?_
          refine sg_put (ref := RX2) (ty := .int) (v := .int y) hx hb hts wi_X2_next_X2 tyX2 tyX2_ok nmX2 hown hK hP hD hS (hQ.1) rfl 3 (by decide) (hts (.fieldLink RX2 22 RX2 "priceNow" "I") (by decide +kernel)) (fun _ h => h) rfl (by decide +kernel) rfl rfl (Nat.le_of_ble_eq_true rfl) dX2_next_66 (fun H locs hP hD hS => ?_)
          have hQ := hQ.s3 (v := y)
          refine lv_aload_n hx hb dX2_next_69 rfl (lv_at hl 0 rfl) ?_
          refine va_get (ref := RX2) (v := .int (pS (uPS (uPS (pAll qs N P 6) 2 (((pS (pAll qs N P 6) 2) + 1))) 3 y) 2)) hx hb hts wi_X2_next_X2 hown hK (sg_one hP (hQ.1)) 0 rfl rfl 2 (by decide) (hts (.fieldLink RX2 19 RX2 "month" "I") (by decide +kernel)) (fun _ h => h) rfl dX2_next_70 ?_
          exact vx_ret (sg_iret hx hb hr rfl hlocks hP hD hS (Nat.le_of_ble_eq_true rfl) (Nat.le_of_ble_eq_true rfl) dX2_next_73 (⟨by simp only [pS_uPS, ite_true, pAll_S]; rfl, hqs, c27, ⟨qs, hQ.to (by rw [if_pos hp5, pAll_S])⟩⟩))
      · skip
        exact sg_throw (cls := "java/lang/IllegalStateException") (names := ["java/lang/RuntimeException", "java/lang/Exception"]) (B := [.castable "java/lang/IllegalStateException" "java/lang/IllegalStateException", .declares (Bundle.initS "java/lang/RuntimeException"), .declares (Bundle.initS "java/lang/Exception"), .declares (Bundle.initS "java/lang/Throwable")]) hx hb hfl hown (by decide +kernel) (by decide +kernel) (hts (.classLink RX2 37 "java/lang/IllegalStateException") (by decide +kernel)) (hts (.initialized "java/lang/IllegalStateException") (by decide +kernel)) (hN.2.2.2.2 (39, "the last month has begun already") (List.mem_of_getElem? (i := 8) rfl)) (fun w h => hts w (List.mem_cons_of_mem _ (List.mem_append_right _ h))) (by decide +kernel) (vx_c (va_Nw.use rfl (hN.2.2.1 _ (List.mem_of_getElem? (i := 2) rfl))) (vx_c (va_Nw.use rfl (hN.2.2.1 _ (List.mem_of_getElem? (i := 3) rfl))) (vx_c (va_Nw.use rfl (hN.2.2.1 _ (List.mem_of_getElem? (i := 4) rfl))) (vx_c (va_Nw.use rfl (hN.2.2.1 _ (List.mem_of_getElem? (i := 5) rfl))) vx_n)))) (by decide +kernel) hX hP hS (hl.1.trans hml.symm) dX2_next_30 dX2_next_33 dX2_next_34 dX2_next_36 dX2_next_39 hex (Nat.le_of_ble_eq_true rfl) (Nat.le_of_ble_eq_true rfl) (Nat.le_of_ble_eq_true rfl) (Nat.le_of_ble_eq_true rfl) hlocks (Nat.le_of_ble_eq_true rfl) (Nat.le_of_ble_eq_true rfl) (Or.inr ⟨hqs, rfl, c27⟩)
    · skip
      exact sg_throw (cls := "java/lang/IllegalArgumentException") (names := ["java/lang/RuntimeException", "java/lang/Exception"]) (B := [.castable "java/lang/IllegalArgumentException" "java/lang/IllegalArgumentException", .declares (Bundle.initS "java/lang/RuntimeException"), .declares (Bundle.initS "java/lang/Exception"), .declares (Bundle.initS "java/lang/Throwable")]) hx hb hfl hown (by decide +kernel) (by decide +kernel) (hts (.classLink RX2 30 "java/lang/IllegalArgumentException") (by decide +kernel)) (hts (.initialized "java/lang/IllegalArgumentException") (by decide +kernel)) (hN.2.2.2.2 (32, "the price is out of its range") (List.mem_of_getElem? (i := 7) rfl)) (fun w h => hts w (List.mem_cons_of_mem _ (List.mem_append_left _ (List.mem_append_right _ h)))) (by decide +kernel) (vx_c (va_Nw.use rfl (hN.2.2.1 _ (List.mem_of_getElem? (i := 1) rfl))) (vx_c (va_Nw.use rfl (hN.2.2.1 _ (List.mem_of_getElem? (i := 3) rfl))) (vx_c (va_Nw.use rfl (hN.2.2.1 _ (List.mem_of_getElem? (i := 4) rfl))) (vx_c (va_Nw.use rfl (hN.2.2.1 _ (List.mem_of_getElem? (i := 5) rfl))) vx_n)))) (by decide +kernel) hX hP hS (hl.1.trans hml.symm) dX2_next_11 dX2_next_14 dX2_next_15 dX2_next_17 dX2_next_20 hex (Nat.le_of_ble_eq_true rfl) (Nat.le_of_ble_eq_true rfl) (Nat.le_of_ble_eq_true rfl) (Nat.le_of_ble_eq_true rfl) hlocks (Nat.le_of_ble_eq_true rfl) (Nat.le_of_ble_eq_true rfl) (Or.inl ⟨rfl, by grind [Int32.not_le, Int32.not_lt]⟩)

theorem wi_X2_join_X1 : ∀ w ∈ wsX10, w ∈ wsX2_join := by decide +kernel
theorem wi_X2_join_X2 : ∀ w ∈ wsX20, w ∈ wsX2_join := by decide +kernel
set_option maxHeartbeats 4000000 in
set_option maxRecDepth 100000 in
theorem c_X2_join (l : Launch) (hfl : l.stackTraces = false) (D : va_G) (Y : Nat → ClassId) (σ : sg_W) (sz : Nat) (x aM N : Nat) (aO aL aC : Nat → Nat) (P : PS) (y : Int32) (hQ : PF Y x aM N aO aL aC σ P σ) (hN1 : pS P 1 = nI N) : vx_Met l yX2_join wsX2_join ({ frames := 7, cells := 5, slots := 50, locals := 110 } : Room) (va_Pc [.ref x, .int y] (sg_U D Y σ sz)) (va_Qi (fun r σ' => r = nI N ∧ qIn y 1 15 ∧ (¬ pS P 2 = -1 ∧ N < 6) ∧ ∃ aO' aL' aC' : Nat → Nat, PF Y x aM (N + 1) aO' aL' aC' σ (uPS (uPC P N (kNew y (pS P 2) (pS P 3))) 1 (nI N + 1)) σ') (sg_B D σ sz) (sg_A σ sz)) (sg_T9 D σ sz (fun E => (E = "java/lang/IllegalArgumentException" ∧ ¬ qIn y 1 15) ∨ (qIn y 1 15 ∧ E = "java/lang/IllegalStateException" ∧ ¬ (¬ pS P 2 = -1 ∧ N < 6)))) 5 50 (sg_A σ sz) := by
  refine sg_metX (cc := cX2_join) (maxL := 3) (ret := (some .int)) (by decide) rfl (Nat.le_of_ble_eq_true rfl) ?_
  intro p e s m below meth cd9 ls hx hb hml hex hr hown hts hlocks hnm hP hK hD hN hX hA hS hsz hl
  have hl : lv_has ls 3 [(0, .ref x), (1, .int y)] := hl
  have hN9 := hQ.2.2.2.2
  have hcN : (nI N).toNatClampNeg = N := nI_clamp (by omega)
  refine lv_iload_n hx hb dX2_join_0 rfl (lv_at hl 1 rfl) ?_
  refine sg_xcallv hD hS hA (vx_runS (As := [.int y]) (rest := []) ⟨hx, hb, hml, hown, hts⟩ (c_X2_refuseBadRate l hfl D Y _ _ y) (va_cwS 1 hts gX2_join_X2_refuseBadRate rfl rfl rfl (by decide +kernel) ⟨Nat.le_of_ble_eq_true rfl, Nat.le_of_ble_eq_true rfl⟩) (sg_preS hK hP hD hN hX hS hA) rfl rfl hl.1 rfl (lv_room (Nat.le_of_ble_eq_true rfl)) dX2_join_1 ⟨Nat.le_of_ble_eq_true rfl, Nat.le_of_ble_eq_true rfl⟩) (fun E ce q9 H locs hpx hP hD hS hce hcv hcl => ?_) (fun σ' H locs hw hP hD hS => ?_)
  · exact sg_xout hex hlocks hce hcv hcl hP hS (Nat.le_of_ble_eq_true rfl) (Nat.le_of_ble_eq_true rfl) (Or.inl hpx)
  obtain ⟨hqr, rfl⟩ := hw
  refine lv_aload_n hx hb dX2_join_4 rfl (lv_at hl 0 rfl) ?_
  refine va_get (ref := RX2) (v := .int (pS P 2)) hx hb hts wi_X2_join_X2 hown hK (sg_one hP (hQ.1)) 0 rfl rfl 2 (by decide) (hts (.fieldLink RX2 19 RX2 "month" "I") (by decide +kernel)) (fun _ h => h) rfl dX2_join_5 ?_
  refine lv_iconst (v := (-1)) hx hb dX2_join_8 (by decide) ?_
  refine lv_icmp_ne (tgt := 22) hx hb dX2_join_9 (by decide) (fun c9 => ?_) (fun c9 => ?_)
  · skip
    refine lv_aload_n hx hb dX2_join_22 rfl (lv_at hl 0 rfl) ?_
    refine va_get (ref := RX2) (v := .int (pS P 1)) hx hb hts wi_X2_join_X2 hown hK (sg_one hP (hQ.1)) 0 rfl rfl 1 (by decide) (hts (.fieldLink RX2 15 RX2 "memberCount" "I") (by decide +kernel)) (fun _ h => h) rfl dX2_join_23 ?_
    refine lv_topi (fun v26 ev26 => ?_)
    obtain rfl : v26 = nI N := by rw [ev26, hN1]
    refine lv_istore_n (lv' := [(2, .int (nI N)), (0, .ref x), (1, .int y)]) hx hb dX2_join_26 rfl hl (by decide) rfl (fun ls hl => ?_)
    refine lv_iload_n hx hb dX2_join_27 rfl (lv_at hl 0 rfl) ?_
    refine lv_if_lt (tgt := 40) hx hb dX2_join_28 (by decide) (fun c28 => ?_) (fun c28 => ?_)
    · exact absurd c28 (nI_pos (by omega))
    · skip
      refine lv_iload_n hx hb dX2_join_31 rfl (lv_at hl 0 rfl) ?_
      refine lv_aload_n hx hb dX2_join_32 rfl (lv_at hl 1 rfl) ?_
      refine va_get (ref := RX2) (v := .ref aM) hx hb hts wi_X2_join_X2 hown hK (sg_one hP (hQ.1)) 0 rfl rfl 0 (by decide) (hts (.fieldLink RX2 11 RX2 "members" "[LLookbackPlan$Member;") (by decide +kernel)) (fun _ h => h) rfl dX2_join_33 ?_
      refine va_alen (v := 6) hx hb hK (sg_one hP (hQ.2.1)) 0 4 rfl rfl rfl dX2_join_36 ?_
      refine lv_icmp_lt (tgt := 50) hx hb dX2_join_37 (by decide) (fun c37 => ?_) (fun c37 => ?_)
      · skip
        have hN6 : N < 6 := (nI_ltI (a := N) (b := 6) (by omega) (by omega)).mp c37
        refine lv_aload_n hx hb dX2_join_50 rfl (lv_at hl 1 rfl) ?_
        refine va_get (ref := RX2) (v := .ref aM) hx hb hts wi_X2_join_X2 hown hK (sg_one hP (hQ.1)) 0 rfl rfl 0 (by decide) (hts (.fieldLink RX2 11 RX2 "members" "[LLookbackPlan$Member;") (by decide +kernel)) (fun _ h => h) rfl dX2_join_51 ?_
        refine lv_iload_n hx hb dX2_join_54 rfl (lv_at hl 0 rfl) ?_
        refine sg_new (1000 + 20 * N) (ci := 1) (fs := mZero) (C := RX1) (T := TX1) (N := 14) hx hb hts wi_X2_join_X1 tyX1 tyX1_ok hown (hts (.classLink RX2 9 RX1) (by decide +kernel)) (hts (.instantiable RX1 14) (by decide +kernel)) (hts (.initialized RX1) (by decide +kernel)) hK hP hD hS hA rfl (fun j hj => by rcases (show j = 0 ∨ j = 1 ∨ j = 2 ∨ j = 3 ∨ j = 4 ∨ j = 5 ∨ j = 6 ∨ j = 7 ∨ j = 8 ∨ j = 9 ∨ j = 10 ∨ j = 11 ∨ j = 12 ∨ j = 13 by omega) with rfl | rfl | rfl | rfl | rfl | rfl | rfl | rfl | rfl | rfl | rfl | rfl | rfl | rfl <;> rfl) (Nat.le_of_ble_eq_true rfl) (Nat.le_of_ble_eq_true rfl) dX2_join_55 (fun q9 H hP hD hS => ?_)
        have hQ := hQ.off (σ' := sg_u σ (1000 + 20 * N) q9 (.inr (1, mZero))) (fun j hj => sg_un (by omega))
        refine lv_dup hx hb dX2_join_58 rfl ?_
        refine lv_iload_n hx hb dX2_join_59 rfl (lv_at hl 2 rfl) ?_
        refine lv_aload_n hx hb dX2_join_60 rfl (lv_at hl 1 rfl) ?_
        refine va_get (ref := RX2) (v := .int (pS P 2)) hx hb hts wi_X2_join_X2 hown hK (sg_one hP (hQ.1)) 0 rfl rfl 2 (by decide) (hts (.fieldLink RX2 19 RX2 "month" "I") (by decide +kernel)) (fun _ h => h) rfl dX2_join_61 ?_
        refine lv_aload_n hx hb dX2_join_64 rfl (lv_at hl 1 rfl) ?_
        refine va_get (ref := RX2) (v := .int (pS P 3)) hx hb hts wi_X2_join_X2 hown hK (sg_one hP (hQ.1)) 0 rfl rfl 3 (by decide) (hts (.fieldLink RX2 22 RX2 "priceNow" "I") (by decide +kernel)) (fun _ h => h) rfl dX2_join_65 ?_
        refine sg_callv hD hS hA (va_runIN (As := [.int y, .int (pS P 2), .int (pS P 3)]) (rest := [.ref q9, .int (nI N), .ref aM]) (b := q9) ⟨hx, hb, hml, hown, hts⟩ (c_X1_init l D Y _ _ (1000 + 20 * N) q9 y (pS P 2) (pS P 3) sg_ue) ⟨(va_cnB 3 hts gX2_join_X1_init_n60 rfl rfl rfl (hN.2.1 (.methodLinkNest RX2 60 yX1_init RX2) (List.mem_of_getElem? (i := 5) rfl)) (hts (.initialized RX1) (by decide +kernel)) (by decide +kernel) ⟨Nat.le_of_ble_eq_true rfl, Nat.le_of_ble_eq_true rfl⟩), rfl, (hts (.instanceMethod yX1_init) (by decide +kernel))⟩ (sg_preS hK hP hD hN hX hS hA) rfl rfl hl.1 rfl (lv_room (Nat.le_of_ble_eq_true rfl)) dX2_join_68 ⟨Nat.le_of_ble_eq_true rfl, Nat.le_of_ble_eq_true rfl⟩) (fun σ' H locs hw hP hD hS => ?_)
        obtain ⟨a9, b9, hw⟩ := hw
        have hQ := hQ.off (fun j hj => hw.2.2.2.2 j (by omega))
        refine sg_aast hx hb hK hP hD hS 4 1 (r := vwCl[1]) (hQ.2.1) rfl (hw.1) rfl (by rw [vp_in_iff, nI_toInt (by omega)]; omega) dX2_join_71 (fun H locs hP hD hS => ?_)
        rw [hcN] at hP hD
        have hQ := hQ.join hN6 hw
        refine lv_aload_n hx hb dX2_join_72 rfl (lv_at hl 1 rfl) ?_
        refine lv_dup hx hb dX2_join_73 rfl ?_
        refine va_get (ref := RX2) (v := .int (pS (uPC P N (kNew y (pS P 2) (pS P 3))) 1)) hx hb hts wi_X2_join_X2 hown hK (sg_one hP (hQ.1)) 0 rfl rfl 1 (by decide) (hts (.fieldLink RX2 15 RX2 "memberCount" "I") (by decide +kernel)) (fun _ h => h) rfl dX2_join_74 ?_
        rw [show pS (uPC P N (kNew y (pS P 2) (pS P 3))) 1 = nI N from hN1]
        refine lv_iconst (v := 1) hx hb dX2_join_77 (by decide) ?_
        refine lv_iadd hx hb dX2_join_78 ?_
        refine sg_put (ref := RX2) (ty := .int) (v := .int ((nI N) + 1)) hx hb hts wi_X2_join_X2 tyX2 tyX2_ok nmX2 hown hK hP hD hS (hQ.1) rfl 1 (by decide) (hts (.fieldLink RX2 15 RX2 "memberCount" "I") (by decide +kernel)) (fun _ h => h) rfl (by decide +kernel) rfl rfl (Nat.le_of_ble_eq_true rfl) dX2_join_79 (fun H locs hP hD hS => ?_)
        have hQ := hQ.s1 (v := ((nI N) + 1))
        refine lv_iload_n hx hb dX2_join_82 rfl (lv_at hl 0 rfl) ?_
        exact vx_ret (sg_iret hx hb hr rfl hlocks hP hD hS (Nat.le_of_ble_eq_true rfl) (Nat.le_of_ble_eq_true rfl) dX2_join_83 (⟨rfl, hqr, ⟨c9, hN6⟩, _, _, _, hQ⟩))
      · skip
        exact sg_throw (cls := "java/lang/IllegalStateException") (names := ["java/lang/RuntimeException", "java/lang/Exception"]) (B := [.castable "java/lang/IllegalStateException" "java/lang/IllegalStateException", .declares (Bundle.initS "java/lang/RuntimeException"), .declares (Bundle.initS "java/lang/Exception"), .declares (Bundle.initS "java/lang/Throwable")]) hx hb hfl hown (by decide +kernel) (by decide +kernel) (hts (.classLink RX2 37 "java/lang/IllegalStateException") (by decide +kernel)) (hts (.initialized "java/lang/IllegalStateException") (by decide +kernel)) (hN.2.2.2.2 (58, "the plan is full") (List.mem_of_getElem? (i := 11) rfl)) (fun w h => hts w (List.mem_cons_of_mem _ (List.mem_append_left _ (List.mem_append_right _ h)))) (by decide +kernel) (vx_c (va_Nw.use rfl (hN.2.2.1 _ (List.mem_of_getElem? (i := 2) rfl))) (vx_c (va_Nw.use rfl (hN.2.2.1 _ (List.mem_of_getElem? (i := 3) rfl))) (vx_c (va_Nw.use rfl (hN.2.2.1 _ (List.mem_of_getElem? (i := 4) rfl))) (vx_c (va_Nw.use rfl (hN.2.2.1 _ (List.mem_of_getElem? (i := 5) rfl))) vx_n)))) (by decide +kernel) hX hP hS (hl.1.trans hml.symm) dX2_join_40 dX2_join_43 dX2_join_44 dX2_join_46 dX2_join_49 hex (Nat.le_of_ble_eq_true rfl) (Nat.le_of_ble_eq_true rfl) (Nat.le_of_ble_eq_true rfl) (Nat.le_of_ble_eq_true rfl) hlocks (Nat.le_of_ble_eq_true rfl) (Nat.le_of_ble_eq_true rfl) (Or.inr ⟨hqr, rfl, fun h => c37 ((nI_ltI (a := N) (b := 6) (by omega) (by omega)).mpr h.2)⟩)
  · skip
    exact sg_throw (cls := "java/lang/IllegalStateException") (names := ["java/lang/RuntimeException", "java/lang/Exception"]) (B := [.castable "java/lang/IllegalStateException" "java/lang/IllegalStateException", .declares (Bundle.initS "java/lang/RuntimeException"), .declares (Bundle.initS "java/lang/Exception"), .declares (Bundle.initS "java/lang/Throwable")]) hx hb hfl hown (by decide +kernel) (by decide +kernel) (hts (.classLink RX2 37 "java/lang/IllegalStateException") (by decide +kernel)) (hts (.initialized "java/lang/IllegalStateException") (by decide +kernel)) (hN.2.2.2.2 (56, "no month has begun") (List.mem_of_getElem? (i := 10) rfl)) (fun w h => hts w (List.mem_cons_of_mem _ (List.mem_append_left _ (List.mem_append_right _ h)))) (by decide +kernel) (vx_c (va_Nw.use rfl (hN.2.2.1 _ (List.mem_of_getElem? (i := 2) rfl))) (vx_c (va_Nw.use rfl (hN.2.2.1 _ (List.mem_of_getElem? (i := 3) rfl))) (vx_c (va_Nw.use rfl (hN.2.2.1 _ (List.mem_of_getElem? (i := 4) rfl))) (vx_c (va_Nw.use rfl (hN.2.2.1 _ (List.mem_of_getElem? (i := 5) rfl))) vx_n)))) (by decide +kernel) hX hP hS (hl.1.trans hml.symm) dX2_join_12 dX2_join_15 dX2_join_16 dX2_join_18 dX2_join_21 hex (Nat.le_of_ble_eq_true rfl) (Nat.le_of_ble_eq_true rfl) (Nat.le_of_ble_eq_true rfl) (Nat.le_of_ble_eq_true rfl) hlocks (Nat.le_of_ble_eq_true rfl) (Nat.le_of_ble_eq_true rfl) (Or.inr ⟨hqr, rfl, fun h => h.1 c9⟩)

theorem wi_X2_init_X2 : ∀ w ∈ wsX20, w ∈ wsX2_init := by decide +kernel
set_option maxHeartbeats 4000000 in
set_option maxRecDepth 100000 in
theorem c_X2_init (l : Launch) (D : va_G) (Y : Nat → ClassId) (σ : sg_W) (sz : Nat) (x : Nat) (h0 : σ 0 = some (x, .inr (2, [.null, .int 0, .int 0, .int 0, .int 0]))) : Met l yX2_init wsX2_init ({ frames := 1, cells := 1, slots := 6, locals := 12 } : Room) (va_Pc [.ref x] (sg_U D Y σ sz)) (va_Qv (fun σ' => ∃ aM, PF Y x aM 0 (fun _ => 0) (fun _ => 0) (fun _ => 0) σ pNew σ') (sg_B D σ sz) (sg_A σ sz)) 1 6 (sg_A σ sz) := by
  refine sg_met (cc := cX2_init) (maxL := 1) (ret := none) (by decide) rfl (Nat.le_of_ble_eq_true rfl) ?_
  intro p e s m below meth cd9 ls hx hb hml hr hown hts hlocks hnm hP hK hD hN hX hA hS hsz hl
  have hl : lv_has ls 1 [(0, .ref x)] := hl
  refine lv_aload_n hx hb dX2_init_0 rfl (lv_at hl 0 rfl) ?_
  refine W.objInit hx hb hown (hts (.methodLink RX2 3 objectInit) (by decide +kernel)) (hts (.instanceMethod objectInit) (by decide +kernel)) (hts (.code objectInit ⟨#[0xb1]⟩ 1 none) (by decide +kernel)) rfl (by rw [hml]; exact hl.1) rfl dX2_init_1 (Nat.le_of_ble_eq_true rfl) (Nat.le_of_ble_eq_true rfl) ?_
  refine W.eq (g2 := F0 m 4 ls []) rfl ?_
  refine lv_aload_n hx hb dX2_init_4 rfl (lv_at hl 0 rfl) ?_
  refine lv_bipush (v := 6) hx hb dX2_init_5 (by decide) ?_
  refine sg_newq 1 4 hx hb hown (hts (.classLink RX2 9 RX1) (by decide +kernel)) hN.2.2.2.1.2 rfl hK hP hD hS hA (by decide) rfl (Nat.le_of_ble_eq_true rfl) (Nat.le_of_ble_eq_true rfl) (Nat.le_of_ble_eq_true rfl) dX2_init_7 (fun q7 H hP hD hS => ?_)
  refine sg_putF (ref := RX2) (ty := .array (.object "LookbackPlan$Member")) (v := .ref q7) hx hb hts wi_X2_init_X2 tyX2 tyX2_ok nmX2 hown hK hP hD hS ((sg_un (by omega)).trans (h0)) rfl 0 (by decide) (hts (.fieldLink RX2 11 RX2 "members" "[LLookbackPlan$Member;") (by decide +kernel)) (fun _ h => h) rfl hnm rfl (by decide +kernel) rfl rfl (Nat.le_of_ble_eq_true rfl) dX2_init_10 (fun H locs hP hD hS => ?_)
  refine lv_aload_n hx hb dX2_init_13 rfl (lv_at hl 0 rfl) ?_
  refine lv_iconst (v := 0) hx hb dX2_init_14 (by decide) ?_
  refine sg_put (ref := RX2) (ty := .int) (v := .int 0) hx hb hts wi_X2_init_X2 tyX2 tyX2_ok nmX2 hown hK hP hD hS (sg_ue) rfl 1 (by decide) (hts (.fieldLink RX2 15 RX2 "memberCount" "I") (by decide +kernel)) (fun _ h => h) rfl (by decide +kernel) rfl rfl (Nat.le_of_ble_eq_true rfl) dX2_init_15 (fun H locs hP hD hS => ?_)
  refine lv_aload_n hx hb dX2_init_18 rfl (lv_at hl 0 rfl) ?_
  refine lv_iconst (v := (-1)) hx hb dX2_init_19 (by decide) ?_
  refine sg_put (ref := RX2) (ty := .int) (v := .int (-1)) hx hb hts wi_X2_init_X2 tyX2 tyX2_ok nmX2 hown hK hP hD hS (sg_ue) rfl 2 (by decide) (hts (.fieldLink RX2 19 RX2 "month" "I") (by decide +kernel)) (fun _ h => h) rfl (by decide +kernel) rfl rfl (Nat.le_of_ble_eq_true rfl) dX2_init_20 (fun H locs hP hD hS => ?_)
  refine lv_aload_n hx hb dX2_init_23 rfl (lv_at hl 0 rfl) ?_
  refine lv_iconst (v := 0) hx hb dX2_init_24 (by decide) ?_
  refine sg_put (ref := RX2) (ty := .int) (v := .int 0) hx hb hts wi_X2_init_X2 tyX2 tyX2_ok nmX2 hown hK hP hD hS (sg_ue) rfl 3 (by decide) (hts (.fieldLink RX2 22 RX2 "priceNow" "I") (by decide +kernel)) (fun _ h => h) rfl (by decide +kernel) rfl rfl (Nat.le_of_ble_eq_true rfl) dX2_init_25 (fun H locs hP hD hS => ?_)
  refine lv_aload_n hx hb dX2_init_28 rfl (lv_at hl 0 rfl) ?_
  refine lv_ldc (v := 2500000) hx hb hown (hts (.constant RX2 25 2500000) (by decide +kernel)) dX2_init_29 ?_
  refine sg_put (ref := RX2) (ty := .int) (v := .int 2500000) hx hb hts wi_X2_init_X2 tyX2 tyX2_ok nmX2 hown hK hP hD hS (sg_ue) rfl 4 (by decide) (hts (.fieldLink RX2 26 RX2 "ceiling" "I") (by decide +kernel)) (fun _ h => h) rfl (by decide +kernel) rfl rfl (Nat.le_of_ble_eq_true rfl) dX2_init_31 (fun H locs hP hD hS => ?_)
  exact sg_vret hx hb hr hlocks hP hD hS (Nat.le_of_ble_eq_true rfl) (Nat.le_of_ble_eq_true rfl) dX2_init_34 (⟨q7, pNew_PF⟩)
