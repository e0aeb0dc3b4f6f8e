theorem kL_kAdd {c : CS} {y : Int32} {v : Int64} {i : Nat} : kL (kAdd c y v) i = kL c i := by unfold kAdd; split <;> rfl
theorem kI_kAdd {c : CS} {y : Int32} {v : Int64} {i : Nat} : kI (kAdd c y v) i = kI c i := by unfold kAdd; split <;> rfl
theorem KF.off {Y : Nat → ClassId} {n aO aL aC : Nat} {σ0 σ σ1 : sg_W} {c : CS} {k : Nat} (h : KF Y n aO aL aC σ0 c σ) (hk : k < 10) (hr : kR c k = none) (ho : ∀ j, j ≠ n + 3 + k → σ1 j = σ j) : KF Y n aO aL aC σ0 c σ1 := by
  obtain ⟨g1, g2, g3, g4, g5⟩ := h
  refine ⟨by rw [ho _ (by omega)]; exact g1, by rw [ho _ (by omega)]; exact g2, by rw [ho _ (by omega)]; exact g3, fun i hi b hb => ?_, fun j hj => ?_⟩
  · rw [ho _ (by rintro h; have : i = k := by omega
                 subst this; rw [hr] at hb; cases hb)]
    exact g4 i hi b hb
  · rw [ho _ (by omega)]
    exact g5 j hj
def mZero : List Value := [.null, .null, .int 0, .int 0, .long 0, .long 0, .long 0, .long 0, .int 0, .int 0, .int 0, .int 0, .long 0, .long 0]
def kNew (ra mo price : Int32) : CS := (fun k => if k = 2 then ra else if k = 8 then mo else if k = 9 then price else 0, fun _ => 0, fun _ => 0, fun _ => none, fun _ _ => 0)
theorem kNew_KF {Y : Nat → ClassId} {n aO q7 q8 : Nat} {σ : sg_W} {ra mo price : Int32} {e1 e2 : va_E} {z1 z2 z4 : va_E} (hz : z4 = .inr (1, k_f q7 q8 (kNew ra mo price)) := by rfl) : KF Y n aO q7 q8 σ (kNew ra mo price) (sg_u (sg_u (sg_u (sg_u (sg_u (sg_u (sg_u σ (n + 1) q7 (.inl (Y 3, 10, .inr (.inr (.inr (.inr (fun _ => none))))))) n aO e1) (n + 2) q8 (.inl (Y 1, 5, .inr (.inl (fun _ => 0))))) n aO e2) n aO z1) n aO z2) n aO z4) := by
  subst hz
  refine ⟨sg_ue, ?_, ?_, fun k hk a ha => (by cases ha), fun j hj => ?_⟩
  · rw [sg_un (by omega), sg_un (by omega), sg_un (by omega), sg_un (by omega), sg_un (by omega), sg_un (by omega), sg_ue]; rfl
  · rw [sg_un (by omega), sg_un (by omega), sg_un (by omega), sg_un (by omega), sg_ue]; rfl
  · rw [sg_un (by omega), sg_un (by omega), sg_un (by omega), sg_un (by omega), sg_un (by omega), sg_un (by omega), sg_un (by omega)]
theorem wi_X1_buyShares_X0 : ∀ w ∈ wsX00, w ∈ wsX1_buyShares := by decide +kernel
theorem wi_X1_buyShares_X1 : ∀ w ∈ wsX10, w ∈ wsX1_buyShares := by decide +kernel
set_option maxHeartbeats 4000000 in
set_option maxRecDepth 100000 in
theorem c_X1_buyShares (l : Launch) (D : va_G) (Y : Nat → ClassId) (σ : sg_W) (sz : Nat) (n aO aL aC : Nat) (c : CS) (k : Nat) (mo price ce : Int32) (hC : KF Y n aO aL aC σ c σ) (hk : k < 10) (hmo : mo / 6 = nI k) (hrn : kR c k = none) : Met l yX1_buyShares wsX1_buyShares ({ frames := 2, cells := 1, slots := 7, locals := 38 } : Room) (va_Pc [.ref aO, .int mo, .int price, .int ce] (sg_U D Y σ sz)) (va_Qv (fun σ' => ∃ q9, KF Y n aO aL aC σ (kBuyM c mo price ce q9) σ') (sg_B D σ sz) (sg_A σ sz)) 1 7 (sg_A σ sz) := by
  refine sg_met (cc := cX1_buyShares) (maxL := 11) (ret := none) (by decide) rfl (Nat.le_of_ble_eq_true rfl) ?_
  intro p e s m below meth cd9 ls hx hb hml hr hown hts hlocks hnm hP hK hD hN hX hA hS hsz hl
  have hl : lv_has ls 11 [(0, .ref aO), (1, .int mo), (2, .int price), (3, .int ce)] := hl
  have hmk : tN (mo / 6) = k := by rw [hmo, tN, nI_clamp (by omega)]
  refine lv_iload_n hx hb dX1_buyShares_0 rfl (lv_at hl 1 rfl) ?_
  refine lv_bipush (v := 12) hx hb dX1_buyShares_1 (by decide) ?_
  refine lv_idiv hx hb dX1_buyShares_3 (by decide) ?_
  refine lv_topi (fun v4 ev4 => ?_)
  obtain rfl : v4 = mo / 12 := by exact ev4
  refine lv_istore (lv' := [(4, .int (mo / 12)), (0, .ref aO), (1, .int mo), (2, .int price), (3, .int ce)]) hx hb dX1_buyShares_4 hl (by decide) rfl (fun ls hl => ?_)
  refine lv_aload_n hx hb dX1_buyShares_6 rfl (lv_at hl 1 rfl) ?_
  refine va_get (ref := RX1) (v := .int (kI c 9)) hx hb hts wi_X1_buyShares_X1 hown hK (sg_one hP (hC.1)) 0 rfl rfl 9 (by decide) (hts (.fieldLink RX1 28 RX1 "offerPrice" "I") (by decide +kernel)) (fun _ h => h) rfl dX1_buyShares_7 ?_
  refine lv_iload_n hx hb dX1_buyShares_10 rfl (lv_at hl 3 rfl) ?_
  refine va_mmin hx hb (hml.trans hl.1.symm) hown (hts (.methodLink RX1 45 Lib.Math.min.name) (by decide +kernel)) (hts (.static Lib.Math.min.name) (by decide +kernel)) (hts (.initialized "java/lang/Math") (by decide +kernel)) (hts (.code Lib.Math.min.name Lib.Math.min.code 2 (some .int)) (by decide +kernel)) (Nat.le_of_ble_eq_true rfl) (Nat.le_of_ble_eq_true rfl) (Nat.le_of_ble_eq_true rfl) (Nat.le_of_ble_eq_true rfl) dX1_buyShares_11 ?_
  refine sg_calli hD hS hA (va_runS (As := [.int (lMin ((kI c 9)) price)]) (rest := []) ⟨hx, hb, hml, hown, hts⟩ (c_X1_purchasePrice l D Y _ _ ((lMin ((kI c 9)) price))) (va_cwS 1 hts gX1_buyShares_X1_purchasePrice rfl rfl rfl (by decide +kernel) ⟨Nat.le_of_ble_eq_true rfl, Nat.le_of_ble_eq_true rfl⟩) (sg_preS hK hP hD hN hX hS hA) rfl rfl hl.1 rfl (lv_room (Nat.le_of_ble_eq_true rfl)) dX1_buyShares_14 ⟨Nat.le_of_ble_eq_true rfl, Nat.le_of_ble_eq_true rfl⟩) (fun r14 σ' H locs hw hP hD hS => ?_)
  obtain ⟨rfl, rfl⟩ := hw
  refine lv_topi (fun v17 ev17 => ?_)
  obtain rfl : v17 = kEach c price := by exact ev17
  refine lv_istore (lv' := [(5, .int (kEach c price)), (4, .int (mo / 12)), (0, .ref aO), (1, .int mo), (2, .int price), (3, .int ce)]) hx hb dX1_buyShares_17 hl (by decide) rfl (fun ls hl => ?_)
  refine lv_aload_n hx hb dX1_buyShares_19 rfl (lv_at hl 2 rfl) ?_
  refine va_get (ref := RX1) (v := .long (kL c 4)) hx hb hts wi_X1_buyShares_X1 hown hK (sg_one hP (hC.1)) 0 rfl rfl 4 (by decide) (hts (.fieldLink RX1 31 RX1 "money" "J") (by decide +kernel)) (fun _ h => h) rfl dX1_buyShares_20 ?_
  refine lv_iload hx hb dX1_buyShares_23 (lv_at hl 0 rfl) ?_
  refine lv_i2l hx hb dX1_buyShares_25 rfl ?_
  refine sg_calll hD hS hA (va_runS (As := [.long (kL c 4), .long ((kEach c price)).toInt64]) (rest := []) ⟨hx, hb, hml, hown, hts⟩ (c_X1_wholeTimes l D Y _ _ ((kL c 4)) (((kEach c price)).toInt64)) (va_cwS 2 hts gX1_buyShares_X1_wholeTimes rfl rfl rfl (by decide +kernel) ⟨Nat.le_of_ble_eq_true rfl, Nat.le_of_ble_eq_true rfl⟩) (sg_preS hK hP hD hN hX hS hA) rfl rfl hl.1 rfl (lv_room (Nat.le_of_ble_eq_true rfl)) dX1_buyShares_26 ⟨Nat.le_of_ble_eq_true rfl, Nat.le_of_ble_eq_true rfl⟩) (fun r26 σ' H locs hw hP hD hS => ?_)
  obtain ⟨rfl, rfl⟩ := hw
  refine lv_topl (fun v29 ev29 => ?_)
  obtain rfl : v29 = kWhole (kL c 4) (kEach c price).toInt64 := by exact ev29
  refine lv_lstore (lv' := [(6, .long (kWhole (kL c 4) (kEach c price).toInt64)), (5, .int (kEach c price)), (4, .int (mo / 12)), (0, .ref aO), (1, .int mo), (2, .int price), (3, .int ce)]) hx hb dX1_buyShares_29 hl (by decide) rfl (fun ls hl => ?_)
  refine lv_iload_n hx hb dX1_buyShares_31 rfl (lv_at hl 6 rfl) ?_
  refine lv_i2l hx hb dX1_buyShares_32 rfl ?_
  refine lv_aload_n hx hb dX1_buyShares_33 rfl (lv_at hl 3 rfl) ?_
  refine lv_iload hx hb dX1_buyShares_34 (lv_at hl 2 rfl) ?_
  refine sg_calll hD hS hA (va_runV (As := [.int (mo / 12)]) (rest := [.long ce.toInt64]) ⟨hx, hb, hml, hown, hts⟩ (c_X1_countedIn l D Y _ _ n aO aL aC c ((mo / 12)) hC.self) (cwV 1 hts gX1_buyShares_X1_countedIn rfl rfl rfl (by decide +kernel) ⟨Nat.le_of_ble_eq_true rfl, Nat.le_of_ble_eq_true rfl⟩) (sg_preV (q := (RX1, TX1, 14)) (hC.1) rfl hK hP hD hN hX hS hA) rfl rfl hl.1 rfl (lv_room (Nat.le_of_ble_eq_true rfl)) dX1_buyShares_36 ⟨Nat.le_of_ble_eq_true rfl, Nat.le_of_ble_eq_true rfl⟩) (fun r36 σ' H locs hw hP hD hS => ?_)
  obtain ⟨rfl, rfl⟩ := hw
  refine lv_lsub hx hb dX1_buyShares_39 ?_
  refine lv_aload_n hx hb dX1_buyShares_40 rfl (lv_at hl 3 rfl) ?_
  refine va_get (ref := RX1) (v := .int (kI c 9)) hx hb hts wi_X1_buyShares_X1 hown hK (sg_one hP (hC.1)) 0 rfl rfl 9 (by decide) (hts (.fieldLink RX1 28 RX1 "offerPrice" "I") (by decide +kernel)) (fun _ h => h) rfl dX1_buyShares_41 ?_
  refine lv_i2l hx hb dX1_buyShares_44 rfl ?_
  refine sg_calll hD hS hA (va_runS (As := [.long (ce.toInt64 - (kCnt c ((mo / 12)))), .long ((kI c 9)).toInt64]) (rest := []) ⟨hx, hb, hml, hown, hts⟩ (c_X1_wholeTimes l D Y _ _ ((ce.toInt64 - (kCnt c ((mo / 12))))) (((kI c 9)).toInt64)) (va_cwS 2 hts gX1_buyShares_X1_wholeTimes rfl rfl rfl (by decide +kernel) ⟨Nat.le_of_ble_eq_true rfl, Nat.le_of_ble_eq_true rfl⟩) (sg_preS hK hP hD hN hX hS hA) rfl rfl hl.1 rfl (lv_room (Nat.le_of_ble_eq_true rfl)) dX1_buyShares_45 ⟨Nat.le_of_ble_eq_true rfl, Nat.le_of_ble_eq_true rfl⟩) (fun r45 σ' H locs hw hP hD hS => ?_)
  obtain ⟨rfl, rfl⟩ := hw
  refine lv_topl (fun v48 ev48 => ?_)
  obtain rfl : v48 = kWhole (ce.toInt64 - kCnt c (mo / 12)) (kI c 9).toInt64 := by exact ev48
  refine lv_lstore (lv' := [(8, .long (kWhole (ce.toInt64 - kCnt c (mo / 12)) (kI c 9).toInt64)), (6, .long (kWhole (kL c 4) (kEach c price).toInt64)), (5, .int (kEach c price)), (4, .int (mo / 12)), (0, .ref aO), (1, .int mo), (2, .int price), (3, .int ce)]) hx hb dX1_buyShares_48 hl (by decide) rfl (fun ls hl => ?_)
  refine lv_lload hx hb dX1_buyShares_50 (lv_at hl 1 rfl) ?_
  refine lv_lload hx hb dX1_buyShares_52 (lv_at hl 0 rfl) ?_
  refine va_mmin_long hx hb (hml.trans hl.1.symm) hown (hts (.methodLink RX1 63 Lib.MathLoose.min_long.x) (by decide +kernel)) (hts (.static Lib.MathLoose.min_long.x) (by decide +kernel)) (hts (.initialized "java/lang/Math") (by decide +kernel)) (hts (.code Lib.MathLoose.min_long.x Lib.MathLoose.min_long.code 4 (some .long)) (by decide +kernel)) (Nat.le_of_ble_eq_true rfl) (Nat.le_of_ble_eq_true rfl) (Nat.le_of_ble_eq_true rfl) (Nat.le_of_ble_eq_true rfl) dX1_buyShares_54 ?_
  refine lv_l2i hx hb dX1_buyShares_57 rfl ?_
  refine lv_topi (fun v58 ev58 => ?_)
  obtain rfl : v58 = kNum c mo price ce := by exact ev58
  refine lv_istore (lv' := [(10, .int (kNum c mo price ce)), (8, .long (kWhole (ce.toInt64 - kCnt c (mo / 12)) (kI c 9).toInt64)), (6, .long (kWhole (kL c 4) (kEach c price).toInt64)), (5, .int (kEach c price)), (4, .int (mo / 12)), (0, .ref aO), (1, .int mo), (2, .int price), (3, .int ce)]) hx hb dX1_buyShares_58 hl (by decide) rfl (fun ls hl => ?_)
  refine sg_cutw (D := D) hS (j := 137) (ls := ls) (rest := []) 1 7 (fun σ' => ∃ q9, KF Y n aO aL aC σ (kBuy1 c mo price ce q9) σ') (fun σ' H locs hj9 hP hD hS => ?_) (fun k137 => ?_)
  · obtain ⟨q9, hC⟩ := hj9
    refine lv_aload_n hx hb dX1_buyShares_137 rfl (lv_at hl 5 rfl) ?_
    refine lv_dup hx hb dX1_buyShares_138 rfl ?_
    refine va_get (ref := RX1) (v := .int (kI (kBuy1 c mo price ce q9) 10)) hx hb hts wi_X1_buyShares_X1 hown hK (sg_one hP (hC.1)) 0 rfl rfl 10 (by decide) (hts (.fieldLink RX1 79 RX1 "offerPurchases" "I") (by decide +kernel)) (fun _ h => h) rfl dX1_buyShares_139 ?_
    refine lv_iconst (v := 1) hx hb dX1_buyShares_142 (by decide) ?_
    refine lv_iadd hx hb dX1_buyShares_143 ?_
    refine sg_put (ref := RX1) (ty := .int) (v := .int ((kI (kBuy1 c mo price ce q9) 10) + 1)) hx hb hts wi_X1_buyShares_X1 tyX1 tyX1_ok nmX1 hown hK hP hD hS (hC.1) rfl 10 (by decide) (hts (.fieldLink RX1 79 RX1 "offerPurchases" "I") (by decide +kernel)) (fun _ h => h) rfl (by decide +kernel) rfl rfl (Nat.le_of_ble_eq_true rfl) dX1_buyShares_144 (fun H locs hP hD hS => ?_)
    have hC := hC.i10 (v := ((kI (kBuy1 c mo price ce q9) 10) + 1))
    refine lv_aload_n hx hb dX1_buyShares_147 rfl (lv_at hl 5 rfl) ?_
    refine lv_iload_n hx hb dX1_buyShares_148 rfl (lv_at hl 6 rfl) ?_
    refine lv_iload_n hx hb dX1_buyShares_149 rfl (lv_at hl 7 rfl) ?_
    refine sg_callv hD hS hA (va_runV (As := [.int mo, .int price]) (rest := []) ⟨hx, hb, hml, hown, hts⟩ (c_X1_renewOffer l D Y _ _ n aO aL aC (uKI (kBuy1 c mo price ce q9) 10 (((kI (kBuy1 c mo price ce q9) 10) + 1))) mo price hC.self) (cwV 2 hts gX1_buyShares_X1_renewOffer rfl rfl rfl (by decide +kernel) ⟨Nat.le_of_ble_eq_true rfl, Nat.le_of_ble_eq_true rfl⟩) (sg_preV (q := (RX1, TX1, 14)) (hC.1) rfl hK hP hD hN hX hS hA) rfl rfl hl.1 rfl (lv_room (Nat.le_of_ble_eq_true rfl)) dX1_buyShares_150 ⟨Nat.le_of_ble_eq_true rfl, Nat.le_of_ble_eq_true rfl⟩) (fun σ' H locs hw hP hD hS => ?_)
    have hC := hC.trans hw
    exact sg_vret hx hb hr hlocks hP hD hS (Nat.le_of_ble_eq_true rfl) (Nat.le_of_ble_eq_true rfl) dX1_buyShares_153 (⟨q9, hC⟩)
  · skip
    refine lv_iload hx hb dX1_buyShares_60 (lv_at hl 0 rfl) ?_
    refine lv_if_le (tgt := 137) hx hb dX1_buyShares_62 (by decide) (fun c62 => ?_) (fun c62 => ?_)
    · skip
      exact W.widen (Nat.le_of_ble_eq_true rfl) (Nat.le_of_ble_eq_true rfl) (k137 _ _ _ ⟨0, hC.to (by rw [kBuy1, if_neg (Int32.not_lt.mpr c62)])⟩ hP hD hS)
    · skip
      refine lv_aload_n hx hb dX1_buyShares_65 rfl (lv_at hl 5 rfl) ?_
      refine sg_new (n + 3 + k) (ci := 0) (fs := lotF (fun _ => 0)) (C := RX0) (T := TX0) (N := 7) hx hb hts wi_X1_buyShares_X0 tyX0 tyX0_ok hown (hts (.classLink RX1 9 RX0) (by decide +kernel)) (hts (.instantiable RX0 7) (by decide +kernel)) (hts (.initialized RX0) (by decide +kernel)) hK hP hD hS hA rfl (fun j hj => by rcases (show j = 0 ∨ j = 1 ∨ j = 2 ∨ j = 3 ∨ j = 4 ∨ j = 5 ∨ j = 6 by omega) with rfl | rfl | rfl | rfl | rfl | rfl | rfl <;> rfl) (Nat.le_of_ble_eq_true rfl) (Nat.le_of_ble_eq_true rfl) dX1_buyShares_66 (fun q9 H hP hD hS => ?_)
      have hC := hC.fresh hk hrn (q := q9) (e := .inr (0, lotF (fun _ => 0)))
      refine lv_dup hx hb dX1_buyShares_69 rfl ?_
      refine lv_iload_n hx hb dX1_buyShares_70 rfl (lv_at hl 6 rfl) ?_
      refine lv_iload_n hx hb dX1_buyShares_71 rfl (lv_at hl 7 rfl) ?_
      refine lv_iload hx hb dX1_buyShares_72 (lv_at hl 3 rfl) ?_
      refine lv_aload_n hx hb dX1_buyShares_74 rfl (lv_at hl 5 rfl) ?_
      refine va_get (ref := RX1) (v := .int (kI c 8)) hx hb hts wi_X1_buyShares_X1 hown hK (sg_one hP (hC.1)) 0 rfl rfl 8 (by decide) (hts (.fieldLink RX1 25 RX1 "offerMonth" "I") (by decide +kernel)) (fun _ h => h) rfl dX1_buyShares_75 ?_
      refine lv_aload_n hx hb dX1_buyShares_78 rfl (lv_at hl 5 rfl) ?_
      refine va_get (ref := RX1) (v := .int (kI c 9)) hx hb hts wi_X1_buyShares_X1 hown hK (sg_one hP (hC.1)) 0 rfl rfl 9 (by decide) (hts (.fieldLink RX1 28 RX1 "offerPrice" "I") (by decide +kernel)) (fun _ h => h) rfl dX1_buyShares_79 ?_
      refine lv_iload hx hb dX1_buyShares_82 (lv_at hl 0 rfl) ?_
      refine sg_callv hD hS hA (va_runIN (As := [.int mo, .int price, .int (kEach c price), .int (kI c 8), .int (kI c 9), .int (kNum c mo price ce)]) (rest := [.ref q9, .ref aO]) (b := q9) ⟨hx, hb, hml, hown, hts⟩ (c_X0_init l D Y _ _ (n + 3 + k) q9 mo price ((kEach c price)) ((kI c 8)) ((kI c 9)) ((kNum c mo price ce)) sg_ue) ⟨(va_cnB 6 hts gX1_buyShares_X0_init_n65 rfl rfl rfl (hN.2.1 (.methodLinkNest RX1 65 yX0_init RX2) (List.mem_of_getElem? (i := 12) rfl)) (hts (.initialized RX0) (by decide +kernel)) (by decide +kernel) ⟨Nat.le_of_ble_eq_true rfl, Nat.le_of_ble_eq_true rfl⟩), rfl, (hts (.instanceMethod yX0_init) (by decide +kernel))⟩ (sg_preS hK hP hD hN hX hS hA) rfl rfl hl.1 rfl (lv_room (Nat.le_of_ble_eq_true rfl)) dX1_buyShares_84 ⟨Nat.le_of_ble_eq_true rfl, Nat.le_of_ble_eq_true rfl⟩) (fun σ' H locs hw hP hD hS => ?_)
      have hC := hC.off hk hrn hw.2
      have hv9 : σ' (n + 3 + k) = some (q9, .inr (0, lotF (kLotV c mo price (kNum c mo price ce)))) := hw.1
      refine sg_callv hD hS hA (va_runV (As := [.ref q9]) (rest := []) ⟨hx, hb, hml, hown, hts⟩ (c_X1_putLot l D Y _ _ n aO aL aC c k q9 (kLotV c mo price (kNum c mo price ce)) hC.self hv9 hk hmo) (cwV 1 hts gX1_buyShares_X1_putLot rfl rfl rfl (by decide +kernel) ⟨Nat.le_of_ble_eq_true rfl, Nat.le_of_ble_eq_true rfl⟩) (sg_preV (q := (RX1, TX1, 14)) (hC.1) rfl hK hP hD hN hX hS hA) rfl rfl hl.1 rfl (lv_room (Nat.le_of_ble_eq_true rfl)) dX1_buyShares_87 ⟨Nat.le_of_ble_eq_true rfl, Nat.le_of_ble_eq_true rfl⟩) (fun σ' H locs hw hP hD hS => ?_)
      have hC := hC.trans hw
      refine lv_aload_n hx hb dX1_buyShares_90 rfl (lv_at hl 5 rfl) ?_
      refine lv_iload hx hb dX1_buyShares_91 (lv_at hl 4 rfl) ?_
      refine lv_iload hx hb dX1_buyShares_93 (lv_at hl 0 rfl) ?_
      refine lv_i2l hx hb dX1_buyShares_95 rfl ?_
      refine lv_aload_n hx hb dX1_buyShares_96 rfl (lv_at hl 5 rfl) ?_
      refine va_get (ref := RX1) (v := .int (kI (uKT c k q9 (kLotV c mo price (kNum c mo price ce))) 9)) hx hb hts wi_X1_buyShares_X1 hown hK (sg_one hP (hC.1)) 0 rfl rfl 9 (by decide) (hts (.fieldLink RX1 28 RX1 "offerPrice" "I") (by decide +kernel)) (fun _ h => h) rfl dX1_buyShares_97 ?_
      refine lv_i2l hx hb dX1_buyShares_100 rfl ?_
      refine lv_lmul hx hb dX1_buyShares_101 ?_
      refine sg_callv hD hS hA (va_runV (As := [.int (mo / 12), .long (((kNum c mo price ce)).toInt64 * ((kI (uKT c k q9 (kLotV c mo price (kNum c mo price ce))) 9)).toInt64)]) (rest := []) ⟨hx, hb, hml, hown, hts⟩ (c_X1_addCounted l D Y _ _ n aO aL aC (uKT c k q9 (kLotV c mo price (kNum c mo price ce))) ((mo / 12)) ((((kNum c mo price ce)).toInt64 * ((kI (uKT c k q9 (kLotV c mo price (kNum c mo price ce))) 9)).toInt64)) hC.self) (cwV 2 hts gX1_buyShares_X1_addCounted rfl rfl rfl (by decide +kernel) ⟨Nat.le_of_ble_eq_true rfl, Nat.le_of_ble_eq_true rfl⟩) (sg_preV (q := (RX1, TX1, 14)) (hC.1) rfl hK hP hD hN hX hS hA) rfl rfl hl.1 rfl (lv_room (Nat.le_of_ble_eq_true rfl)) dX1_buyShares_102 ⟨Nat.le_of_ble_eq_true rfl, Nat.le_of_ble_eq_true rfl⟩) (fun σ' H locs hw hP hD hS => ?_)
      have hC := hC.trans hw
      refine lv_aload_n hx hb dX1_buyShares_105 rfl (lv_at hl 5 rfl) ?_
      refine lv_dup hx hb dX1_buyShares_106 rfl ?_
      refine va_get (ref := RX1) (v := .long (kL (kAdd (uKT c k q9 (kLotV c mo price (kNum c mo price ce))) (mo / 12) ((((kNum c mo price ce)).toInt64 * ((kI (uKT c k q9 (kLotV c mo price (kNum c mo price ce))) 9)).toInt64))) 4)) hx hb hts wi_X1_buyShares_X1 hown hK (sg_one hP (hC.1)) 0 rfl rfl 4 (by decide) (hts (.fieldLink RX1 31 RX1 "money" "J") (by decide +kernel)) (fun _ h => h) rfl dX1_buyShares_107 ?_
      refine lv_iload hx hb dX1_buyShares_110 (lv_at hl 0 rfl) ?_
      refine lv_i2l hx hb dX1_buyShares_112 rfl ?_
      refine lv_iload hx hb dX1_buyShares_113 (lv_at hl 3 rfl) ?_
      refine lv_i2l hx hb dX1_buyShares_115 rfl ?_
      refine lv_lmul hx hb dX1_buyShares_116 ?_
      refine lv_lsub hx hb dX1_buyShares_117 ?_
      refine sg_put (ref := RX1) (ty := .long) (v := .long ((kL (kAdd (uKT c k q9 (kLotV c mo price (kNum c mo price ce))) (mo / 12) ((((kNum c mo price ce)).toInt64 * ((kI (uKT c k q9 (kLotV c mo price (kNum c mo price ce))) 9)).toInt64))) 4) - (((kNum c mo price ce)).toInt64 * ((kEach c price)).toInt64))) hx hb hts wi_X1_buyShares_X1 tyX1 tyX1_ok nmX1 hown hK hP hD hS (hC.1) rfl 4 (by decide) (hts (.fieldLink RX1 31 RX1 "money" "J") (by decide +kernel)) (fun _ h => h) rfl (by decide +kernel) rfl rfl (Nat.le_of_ble_eq_true rfl) dX1_buyShares_118 (fun H locs hP hD hS => ?_)
      have hC := hC.l4 (v := ((kL (kAdd (uKT c k q9 (kLotV c mo price (kNum c mo price ce))) (mo / 12) ((((kNum c mo price ce)).toInt64 * ((kI (uKT c k q9 (kLotV c mo price (kNum c mo price ce))) 9)).toInt64))) 4) - (((kNum c mo price ce)).toInt64 * ((kEach c price)).toInt64)))
      refine lv_aload_n hx hb dX1_buyShares_121 rfl (lv_at hl 5 rfl) ?_
      refine lv_dup hx hb dX1_buyShares_122 rfl ?_
      refine va_get (ref := RX1) (v := .long (kL (uKL (kAdd (uKT c k q9 (kLotV c mo price (kNum c mo price ce))) (mo / 12) ((((kNum c mo price ce)).toInt64 * ((kI (uKT c k q9 (kLotV c mo price (kNum c mo price ce))) 9)).toInt64))) 4 (((kL (kAdd (uKT c k q9 (kLotV c mo price (kNum c mo price ce))) (mo / 12) ((((kNum c mo price ce)).toInt64 * ((kI (uKT c k q9 (kLotV c mo price (kNum c mo price ce))) 9)).toInt64))) 4) - (((kNum c mo price ce)).toInt64 * ((kEach c price)).toInt64)))) 5)) hx hb hts wi_X1_buyShares_X1 hown hK (sg_one hP (hC.1)) 0 rfl rfl 5 (by decide) (hts (.fieldLink RX1 76 RX1 "spent" "J") (by decide +kernel)) (fun _ h => h) rfl dX1_buyShares_123 ?_
      refine lv_iload hx hb dX1_buyShares_126 (lv_at hl 0 rfl) ?_
      refine lv_i2l hx hb dX1_buyShares_128 rfl ?_
      refine lv_iload hx hb dX1_buyShares_129 (lv_at hl 3 rfl) ?_
      refine lv_i2l hx hb dX1_buyShares_131 rfl ?_
      refine lv_lmul hx hb dX1_buyShares_132 ?_
      refine lv_ladd hx hb dX1_buyShares_133 ?_
      refine sg_put (ref := RX1) (ty := .long) (v := .long ((kL (uKL (kAdd (uKT c k q9 (kLotV c mo price (kNum c mo price ce))) (mo / 12) ((((kNum c mo price ce)).toInt64 * ((kI (uKT c k q9 (kLotV c mo price (kNum c mo price ce))) 9)).toInt64))) 4 (((kL (kAdd (uKT c k q9 (kLotV c mo price (kNum c mo price ce))) (mo / 12) ((((kNum c mo price ce)).toInt64 * ((kI (uKT c k q9 (kLotV c mo price (kNum c mo price ce))) 9)).toInt64))) 4) - (((kNum c mo price ce)).toInt64 * ((kEach c price)).toInt64)))) 5) + (((kNum c mo price ce)).toInt64 * ((kEach c price)).toInt64))) hx hb hts wi_X1_buyShares_X1 tyX1 tyX1_ok nmX1 hown hK hP hD hS (hC.1) rfl 5 (by decide) (hts (.fieldLink RX1 76 RX1 "spent" "J") (by decide +kernel)) (fun _ h => h) rfl (by decide +kernel) rfl rfl (Nat.le_of_ble_eq_true rfl) dX1_buyShares_134 (fun H locs hP hD hS => ?_)
      have hC := hC.l5 (v := ((kL (uKL (kAdd (uKT c k q9 (kLotV c mo price (kNum c mo price ce))) (mo / 12) ((((kNum c mo price ce)).toInt64 * ((kI (uKT c k q9 (kLotV c mo price (kNum c mo price ce))) 9)).toInt64))) 4 (((kL (kAdd (uKT c k q9 (kLotV c mo price (kNum c mo price ce))) (mo / 12) ((((kNum c mo price ce)).toInt64 * ((kI (uKT c k q9 (kLotV c mo price (kNum c mo price ce))) 9)).toInt64))) 4) - (((kNum c mo price ce)).toInt64 * ((kEach c price)).toInt64)))) 5) + (((kNum c mo price ce)).toInt64 * ((kEach c price)).toInt64)))
      exact k137 _ _ _ ⟨q9, hC.to (by rw [kBuy1, if_pos (Int32.not_le.mp c62), hmk, kL_uKL, if_neg (by decide), kL_kAdd, kL_kAdd, kL_uKT, kL_uKT, kI_uKT])⟩ hP hD hS

theorem wi_X1_init_X1 : ∀ w ∈ wsX10, w ∈ wsX1_init := by decide +kernel
set_option maxHeartbeats 4000000 in
set_option maxRecDepth 100000 in
theorem c_X1_init (l : Launch) (D : va_G) (Y : Nat → ClassId) (σ : sg_W) (sz : Nat) (n aO : Nat) (ra mo price : Int32) (h0 : σ n = some (aO, .inr (1, mZero))) : Met l yX1_init wsX1_init ({ frames := 1, cells := 2, slots := 15, locals := 12 } : Room) (va_Pc [.ref aO, .int ra, .int mo, .int price] (sg_U D Y σ sz)) (va_Qv (fun σ' => ∃ aL aC, KF Y n aO aL aC σ (kNew ra mo price) σ') (sg_B D σ sz) (sg_A σ sz)) 2 15 (sg_A σ sz) := by
  refine sg_met (cc := cX1_init) (maxL := 4) (ret := none) (by decide) rfl (Nat.le_of_ble_eq_true rfl) ?_
  intro p e s m below meth cd9 ls hx hb hml hr hown hts hlocks hnm hP hK hD hN hX hA hS hsz hl
  have hl : lv_has ls 4 [(0, .ref aO), (1, .int ra), (2, .int mo), (3, .int price)] := hl
  refine lv_aload_n hx hb dX1_init_0 rfl (lv_at hl 0 rfl) ?_
  refine W.objInit hx hb hown (hts (.methodLink RX1 3 objectInit) (by decide +kernel)) (hts (.instanceMethod objectInit) (by decide +kernel)) (hts (.code objectInit ⟨#[0xb1]⟩ 1 none) (by decide +kernel)) rfl (by rw [hml]; exact hl.1) rfl dX1_init_1 (Nat.le_of_ble_eq_true rfl) (Nat.le_of_ble_eq_true rfl) ?_
  refine W.eq (g2 := F0 m 4 ls []) rfl ?_
  refine lv_aload_n hx hb dX1_init_4 rfl (lv_at hl 0 rfl) ?_
  refine lv_bipush (v := 10) hx hb dX1_init_5 (by decide) ?_
  refine sg_newq (n + 1) 3 hx hb hown (hts (.classLink RX1 9 RX0) (by decide +kernel)) hN.2.2.2.1.1 rfl hK hP hD hS hA (by decide) rfl (Nat.le_of_ble_eq_true rfl) (Nat.le_of_ble_eq_true rfl) (Nat.le_of_ble_eq_true rfl) dX1_init_7 (fun q7 H hP hD hS => ?_)
  refine sg_putF (ref := RX1) (ty := .array (.object "LookbackPlan$Lot")) (v := .ref q7) hx hb hts wi_X1_init_X1 tyX1 tyX1_ok nmX1 hown hK hP hD hS ((sg_un (by omega)).trans (h0)) rfl 0 (by decide) (hts (.fieldLink RX1 11 RX1 "lots" "[LLookbackPlan$Lot;") (by decide +kernel)) (fun _ h => h) rfl hnm rfl (by decide +kernel) rfl rfl (Nat.le_of_ble_eq_true rfl) dX1_init_10 (fun H locs hP hD hS => ?_)
  refine lv_aload_n hx hb dX1_init_13 rfl (lv_at hl 0 rfl) ?_
  refine lv_iconst (v := 5) hx hb dX1_init_14 (by decide) ?_
  refine sg_newa (n + 2) 1 (atype := .long) hx hb (hts (.arrayClass .long) (by decide +kernel)) rfl hK hP hD hS hA (a0 := (5, .inr (.inl (fun _ => 0)))) (fun cA => rfl) (by decide) rfl (Nat.le_of_ble_eq_true rfl) (Nat.le_of_ble_eq_true rfl) (Nat.le_of_ble_eq_true rfl) dX1_init_15 (fun q8 H hP hD hS => ?_)
  refine sg_putF (ref := RX1) (ty := .array .long) (v := .ref q8) hx hb hts wi_X1_init_X1 tyX1 tyX1_ok nmX1 hown hK hP hD hS ((sg_un (by omega)).trans (sg_ue)) rfl 1 (by decide) (hts (.fieldLink RX1 17 RX1 "countedByYear" "[J") (by decide +kernel)) (fun _ h => h) rfl hnm rfl (by decide +kernel) rfl rfl (Nat.le_of_ble_eq_true rfl) dX1_init_17 (fun H locs hP hD hS => ?_)
  refine lv_aload_n hx hb dX1_init_20 rfl (lv_at hl 0 rfl) ?_
  refine lv_iload_n hx hb dX1_init_21 rfl (lv_at hl 1 rfl) ?_
  refine sg_put (ref := RX1) (ty := .int) (v := .int ra) hx hb hts wi_X1_init_X1 tyX1 tyX1_ok nmX1 hown hK hP hD hS (sg_ue) rfl 2 (by decide) (hts (.fieldLink RX1 21 RX1 "rate" "I") (by decide +kernel)) (fun _ h => h) rfl (by decide +kernel) rfl rfl (Nat.le_of_ble_eq_true rfl) dX1_init_22 (fun H locs hP hD hS => ?_)
  refine lv_aload_n hx hb dX1_init_25 rfl (lv_at hl 0 rfl) ?_
  refine lv_iload_n hx hb dX1_init_26 rfl (lv_at hl 2 rfl) ?_
  refine sg_put (ref := RX1) (ty := .int) (v := .int mo) hx hb hts wi_X1_init_X1 tyX1 tyX1_ok nmX1 hown hK hP hD hS (sg_ue) rfl 8 (by decide) (hts (.fieldLink RX1 25 RX1 "offerMonth" "I") (by decide +kernel)) (fun _ h => h) rfl (by decide +kernel) rfl rfl (Nat.le_of_ble_eq_true rfl) dX1_init_27 (fun H locs hP hD hS => ?_)
  refine lv_aload_n hx hb dX1_init_30 rfl (lv_at hl 0 rfl) ?_
  refine lv_iload_n hx hb dX1_init_31 rfl (lv_at hl 3 rfl) ?_
  refine sg_put (ref := RX1) (ty := .int) (v := .int price) hx hb hts wi_X1_init_X1 tyX1 tyX1_ok nmX1 hown hK hP hD hS (sg_ue) rfl 9 (by decide) (hts (.fieldLink RX1 28 RX1 "offerPrice" "I") (by decide +kernel)) (fun _ h => h) rfl (by decide +kernel) rfl rfl (Nat.le_of_ble_eq_true rfl) dX1_init_32 (fun H locs hP hD hS => ?_)
  exact sg_vret hx hb hr hlocks hP hD hS (Nat.le_of_ble_eq_true rfl) (Nat.le_of_ble_eq_true rfl) dX1_init_35 (⟨q7, q8, kNew_KF⟩)
