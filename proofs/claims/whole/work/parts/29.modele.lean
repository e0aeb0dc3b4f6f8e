theorem qM_pos {M : MS} {i : Int32} (h : qM M i) : 0 ≤ sS M 3 - 1 := by
  obtain ⟨h1, h2⟩ := h
  simp only [Int32.le_iff_toInt_le] at *
  omega
theorem sellN_S {j : Nat} {x : mSell} {a : Nat} : ∀ k, sS (sellN j k x).1 a = sS x.1 a
  | 0 => rfl
  | k + 1 => by
    have ih := sellN_S (j := j) (x := x) (a := a) k
    rw [sellN, sellS]
    split
    · simp only [sS_uI, sS_uL]; exact ih
    · exact ih
theorem sellN_I {j : Nat} {x : mSell} {a : Nat} (h : a ≠ 16) : ∀ k, sI (sellN j k x).1 a = sI x.1 a
  | 0 => rfl
  | k + 1 => by
    have ih := sellN_I (j := j) (x := x) (a := a) h k
    rw [sellN, sellS]
    split
    · simp only [sI_uI, sI_uL, if_neg h]; exact ih
    · exact ih
theorem soldN_0 {M : MS} {q : Nat} {op : Int32} (h : op ≤ 0) : ¬ 0 < soldN M q op := by
  unfold soldN
  split <;> (simp only [Int32.lt_iff_toInt_lt, Int32.le_iff_toInt_le] at *; omega)
theorem sellN_stop {j : Nat} {x : mSell} {k : Nat} (h : (sellN j k x).2.1 ≤ 0) : ∀ d, sellN j (k + d) x = sellN j k x
  | 0 => rfl
  | d + 1 => by
    have ih := sellN_stop h d
    show sellS j (k + d) (sellN j (k + d) x) = _
    rw [ih, sellS, if_neg (soldN_0 h)]
theorem c_X3_sharesOf_i (l : Launch) (D : va_G) (Y : Nat → ClassId) (σ : sg_W) (sz : Nat) (ad : Nat → Nat) (M : MS) (i : Int32) (hi : vp_in i 6) (hM : MW Y ad M σ) : Met l yX3_sharesOf wsX3_sharesOf ({ frames := 0, cells := 0, slots := 0, locals := 0 } : Room) (va_Pc [.ref (ad 0), .int i] (sg_U D Y σ sz)) (va_Qi (fun r σ' => r = sH M (tN i) 10 ∧ σ = σ') (sg_B D σ sz) (sg_A σ sz)) 0 0 (sg_A σ sz) := by
  obtain ⟨j, hj, rfl⟩ := vp_in_of hi (by decide)
  rw [show tN (nI j) = j from nI_clamp (by omega)]
  exact c_X3_sharesOf l D Y σ sz ad M j hj hM
theorem wi_X3_gainNow : ∀ w ∈ wsX30, w ∈ wsX3_gainNow := by decide +kernel
set_option maxHeartbeats 4000000 in
set_option maxRecDepth 100000 in
theorem c_X3_gainNow (l : Launch) (D : va_G) (Y : Nat → ClassId) (σ : sg_W) (sz : Nat) (ad : Nat → Nat) (M : MS) (i : Int32) (h6 : mem6 M) (ho : ∀ k, k < 60 → vp_in (sI M 18 k) 60) (hm : 0 ≤ sS M 3 - 1 → vp_in (sS M 0) 60) (hM : MW Y ad M σ) : Met l yX3_gainNow wsX3_gainNow ({ frames := 3, cells := 0, slots := 0, locals := 67 } : Room) (va_Pc [.ref (ad 0), .int i] (sg_U D Y σ sz)) (va_Ql (fun r σ' => (tMem M i = 0 → r = gN (uS M 19 0) (tN i) 10) ∧ MF Y ad σ (uS M 19 (tMem M i)) σ') (sg_B D σ sz) (sg_A σ sz)) 0 0 (sg_A σ sz) := by
  refine sg_met (cc := cX3_gainNow) (maxL := 5) (ret := (some .long)) (by decide) rfl (Nat.le_of_ble_eq_true rfl) ?_
  intro p e s m below meth c ls hx hb hml hr hown hts hlocks hnm hP hK hD hN hX hA hS hsz hl
  have hl : lv_has ls 5 [(0, .ref (ad 0)), (1, .int i)] := hl
  refine lv_aload_n hx hb dX3_gainNow_0 rfl (lv_at hl 0 rfl) ?_
  refine lv_aload_n hx hb dX3_gainNow_1 rfl (lv_at hl 0 rfl) ?_
  refine lv_iload_n hx hb dX3_gainNow_2 rfl (lv_at hl 1 rfl) ?_
  refine sg_calli hD hS hA (va_runV (As := [.int i]) (rest := [.ref (ad 0)]) ⟨hx, hb, hml, hown, hts⟩ (c_X3_isMember l D Y _ _ ad M i hM.self) (cwV 1 hts gX3_gainNow_X3_isMember rfl rfl rfl (by decide +kernel) ⟨Nat.le_of_ble_eq_true rfl, Nat.le_of_ble_eq_true rfl⟩) (sg_preV (q := (RX3, TX3, 20)) (hM.1 0 rfl) rfl hK hP hD hN hX hS hA) rfl rfl hl.1 rfl (lv_room (Nat.le_of_ble_eq_true rfl)) dX3_gainNow_3 ⟨Nat.le_of_ble_eq_true rfl, Nat.le_of_ble_eq_true rfl⟩) (fun r3 σ' H locs hw hP hD hS => ?_)
  obtain ⟨rfl, rfl⟩ := hw
  refine sg_calli hD hS hA (va_runV (As := [.int (bI (qM M i))]) (rest := []) ⟨hx, hb, hml, hown, hts⟩ (c_X3_may l D Y _ _ ad M ((bI (qM M i))) (bI_01) hM.self) (cwV 1 hts gX3_gainNow_X3_may rfl rfl rfl (by decide +kernel) ⟨Nat.le_of_ble_eq_true rfl, Nat.le_of_ble_eq_true rfl⟩) (sg_preV (q := (RX3, TX3, 20)) (hM.1 0 rfl) rfl hK hP hD hN hX hS hA) rfl rfl hl.1 rfl (lv_room (Nat.le_of_ble_eq_true rfl)) dX3_gainNow_6 ⟨Nat.le_of_ble_eq_true rfl, Nat.le_of_ble_eq_true rfl⟩) (fun r6 σ' H locs hw hP hD hS => ?_)
  obtain ⟨rfl, hw⟩ := hw
  have hM := hM.trans hw
  refine lv_if_ne (tgt := 14) hx hb dX3_gainNow_9 (by decide) (fun c9 => ?_) (fun c9 => ?_)
  · skip
    have h0 : t1 (bI (qM M i)) = 0 := by rw [t1, if_neg c9]
    rw [h0] at hM
    refine lv_lconst (v := 0) hx hb dX3_gainNow_14 (by decide) ?_
    have hi : vp_in i 6 := qM_in h6 (by grind [bI, t1, t2, t3])
    have ei := vp_eq hi (by decide)
    have hi2 := vp_lt hi
    have h10 : 10 * i = nI (10 * tN i) := (congrArg (fun z => 10 * z) ei).trans (pk_mul 10 _)
    have h1010 : nI (10 * tN i) + 10 = nI (10 * tN i + 10) := nI_add _ 10
    refine lv_lstore_n (lv' := [(2, .long 0), (0, .ref (ad 0)), (1, .int i)]) hx hb dX3_gainNow_15 rfl hl (by decide) rfl (fun ls hl => ?_)
    have hm1 : vp_in (sS (uS M 19 0) 0) 60 := hm (by have := (show qM M i by grind [bI, t1]); exact qM_pos this)
    refine lv_bipush (v := 10) hx hb dX3_gainNow_16 (by decide) ?_
    refine lv_iload_n hx hb dX3_gainNow_18 rfl (lv_at hl 2 rfl) ?_
    refine lv_imul hx hb dX3_gainNow_19 ?_
    refine lv_topi (fun v20 ev20 => ?_)
    obtain rfl : v20 = nI (10 * tN i + 0) := by rw [ev20, h10]; rfl
    refine lv_istore (lv' := [(4, .int (nI (10 * tN i + 0))), (2, .long 0), (0, .ref (ad 0)), (1, .int i)]) hx hb dX3_gainNow_20 hl (by decide) rfl (fun ls hl => ?_)
    refine sg_loop (D := D) (H0 := s.heap) (T := Nat) 22 5 (fun n1 t σ' c' s' => n1 + t = 10 ∧ MF Y ad σ (uS M 19 0) σ' ∧ c' = 0 ∧ s' = 0) (fun t => [(4, .int (nI (10 * tN i + t))), (2, .long (gN (uS M 19 0) (tN i) t)), (0, .ref (ad 0)), (1, .int i)]) ?_ (10) (0) _ _ _ _ _ _ ?_ hP hD hS (lv_sub hl [0, 1, 2, 3] rfl)
    · intro n1 t σ' cells slots H locs ls ih hI hP hD hS hl
      obtain ⟨q, rfl⟩ : ∃ q, q = t := ⟨_, rfl⟩
      obtain ⟨hn, hM, rfl, rfl⟩ := hI
      have hl : lv_has ls 5 [(4, .int (nI (10 * tN i + q))), (2, .long (gN (uS M 19 0) (tN i) q)), (0, .ref (ad 0)), (1, .int i)] := hl
      refine lv_iload hx hb dX3_gainNow_22 (lv_at hl 0 rfl) ?_
      refine lv_bipush (v := 10) hx hb dX3_gainNow_24 (by decide) ?_
      refine lv_iload_n hx hb dX3_gainNow_26 rfl (lv_at hl 3 rfl) ?_
      refine lv_imul hx hb dX3_gainNow_27 ?_
      refine lv_bipush (v := 10) hx hb dX3_gainNow_28 (by decide) ?_
      refine lv_iadd hx hb dX3_gainNow_30 ?_
      refine lv_icmp_ge (tgt := 70) hx hb dX3_gainNow_31 (by decide) (fun c31 => ?_) (fun c31 => ?_)
      · skip
        rw [h10, h1010, nI_leI (by omega) (by omega)] at c31
        obtain rfl : q = 10 := by omega
        refine lv_lload_n hx hb dX3_gainNow_70 rfl (lv_at hl 1 rfl) ?_
        exact sg_lret hx hb hr hlocks hP hD hS (Nat.le_of_ble_eq_true rfl) (Nat.le_of_ble_eq_true rfl) dX3_gainNow_71 (⟨fun _ => rfl, by rw [show tMem M i = 0 from h0]; exact hM⟩)
      · skip
        rw [h10, h1010, nI_leI (by omega) (by omega)] at c31
        have hcq : (nI (10 * tN i + q)).toNatClampNeg = 10 * tN i + q := nI_clamp (by omega)
        refine lv_lload_n hx hb dX3_gainNow_34 rfl (lv_at hl 1 rfl) ?_
        refine lv_aload_n hx hb dX3_gainNow_35 rfl (lv_at hl 2 rfl) ?_
        refine va_get (ref := RX3) (v := .ref (ad 16)) hx hb hts wi_X3_gainNow hown hK (sg_one hP (hM.1 0 rfl)) 0 rfl rfl 16 (by decide) (hts (.fieldLink RX3 59 RX3 "had" "[I") (by decide +kernel)) (fun _ h => h) rfl dX3_gainNow_36 ?_
        refine lv_iload hx hb dX3_gainNow_39 (lv_at hl 0 rfl) ?_
        refine va_iald hx hb hK (sg_one hP (hM.1 16 rfl)) 0 0 rfl rfl (vp_in_nI (by omega) (by decide)) dX3_gainNow_41 ?_
        refine lv_if_le (tgt := 61) hx hb dX3_gainNow_42 (by decide) (fun c42 => ?_) (fun c42 => ?_)
        · skip
          refine lv_lconst (v := 0) hx hb dX3_gainNow_61 (by decide) ?_
          refine lv_ladd hx hb dX3_gainNow_62 ?_
          refine lv_topl (fun v63 ev63 => ?_)
          obtain rfl : v63 = gN (uS M 19 0) (tN i) (q + 1) := by grind -ring [gN, Int32.not_le, Int32.not_lt]
          refine lv_lstore_n (lv' := [(2, .long (gN (uS M 19 0) (tN i) (q + 1))), (4, .int (nI (10 * tN i + q))), (0, .ref (ad 0)), (1, .int i)]) hx hb dX3_gainNow_63 rfl hl (by decide) rfl (fun ls hl => ?_)
          obtain ⟨v64, ev64⟩ : ∃ zz9 : Int32, zz9 = (nI (10 * tN i + q)) + 1 := ⟨_, rfl⟩
          obtain rfl : v64 = nI (10 * tN i + (q + 1)) := by rw [ev64]; exact nI_1 _
          refine lv_iinc (v := (nI (10 * tN i + (q + 1)))) (lv' := [(4, .int (nI (10 * tN i + (q + 1)))), (2, .long (gN (uS M 19 0) (tN i) (q + 1))), (0, .ref (ad 0)), (1, .int i)]) hx hb dX3_gainNow_64 hl (k := 1) rfl (nI_1 _) (by decide) rfl (fun ls hl => ?_)
          refine lv_goto (tgt := 22) hx hb dX3_gainNow_67 (by decide) ?_
          exact ih (n1 - 1) (q + 1) _ _ _ _ _ _ (by omega) ⟨by omega, hM, rfl, rfl⟩ hP hD hS (lv_sub hl [0, 1, 2, 3] rfl)
        · skip
          refine lv_aload_n hx hb dX3_gainNow_45 rfl (lv_at hl 2 rfl) ?_
          refine lv_iload hx hb dX3_gainNow_46 (lv_at hl 0 rfl) ?_
          refine lv_aload_n hx hb dX3_gainNow_48 rfl (lv_at hl 2 rfl) ?_
          refine va_get (ref := RX3) (v := .ref (ad 16)) hx hb hts wi_X3_gainNow hown hK (sg_one hP (hM.1 0 rfl)) 0 rfl rfl 16 (by decide) (hts (.fieldLink RX3 59 RX3 "had" "[I") (by decide +kernel)) (fun _ h => h) rfl dX3_gainNow_49 ?_
          refine lv_iload hx hb dX3_gainNow_52 (lv_at hl 0 rfl) ?_
          refine va_iald hx hb hK (sg_one hP (hM.1 16 rfl)) 0 0 rfl rfl (vp_in_nI (by omega) (by decide)) dX3_gainNow_54 ?_
          refine sg_calll hD hS hA (va_runV (As := [.int (nI (10 * tN i + q)), .int (sI (uS M 19 0) 16 ((nI (10 * tN i + q))).toNatClampNeg)]) (rest := [.long (gN (uS M 19 0) (tN i) q)]) ⟨hx, hb, hml, hown, hts⟩ (c_X3_gainOf l D Y _ _ ad (uS M 19 0) (10 * tN i + q) ((sI (uS M 19 0) 16 ((nI (10 * tN i + q))).toNatClampNeg)) (by omega) (ho _ (by omega)) hm1 hM.self) (cwV 2 hts gX3_gainNow_X3_gainOf rfl rfl rfl (by decide +kernel) ⟨Nat.le_of_ble_eq_true rfl, Nat.le_of_ble_eq_true rfl⟩) (sg_preV (q := (RX3, TX3, 20)) (hM.1 0 rfl) rfl hK hP hD hN hX hS hA) rfl rfl hl.1 rfl (lv_room (Nat.le_of_ble_eq_true rfl)) dX3_gainNow_55 ⟨Nat.le_of_ble_eq_true rfl, Nat.le_of_ble_eq_true rfl⟩) (fun r55 σ' H locs hw hP hD hS => ?_)
          obtain ⟨er55, rfl⟩ := hw
          refine lv_goto (tgt := 62) hx hb dX3_gainNow_58 (by decide) ?_
          refine lv_ladd hx hb dX3_gainNow_62 ?_
          refine lv_topl (fun v63 ev63 => ?_)
          obtain rfl : v63 = gN (uS M 19 0) (tN i) (q + 1) := by grind -ring [gN, Int32.not_le, Int32.not_lt]
          refine lv_lstore_n (lv' := [(2, .long (gN (uS M 19 0) (tN i) (q + 1))), (4, .int (nI (10 * tN i + q))), (0, .ref (ad 0)), (1, .int i)]) hx hb dX3_gainNow_63 rfl hl (by decide) rfl (fun ls hl => ?_)
          obtain ⟨v64, ev64⟩ : ∃ zz9 : Int32, zz9 = (nI (10 * tN i + q)) + 1 := ⟨_, rfl⟩
          obtain rfl : v64 = nI (10 * tN i + (q + 1)) := by rw [ev64]; exact nI_1 _
          refine lv_iinc (v := (nI (10 * tN i + (q + 1)))) (lv' := [(4, .int (nI (10 * tN i + (q + 1)))), (2, .long (gN (uS M 19 0) (tN i) (q + 1))), (0, .ref (ad 0)), (1, .int i)]) hx hb dX3_gainNow_64 hl (k := 1) rfl (nI_1 _) (by decide) rfl (fun ls hl => ?_)
          refine lv_goto (tgt := 22) hx hb dX3_gainNow_67 (by decide) ?_
          exact ih (n1 - 1) (q + 1) _ _ _ _ _ _ (by omega) ⟨by omega, hM, rfl, rfl⟩ hP hD hS (lv_sub hl [0, 1, 2, 3] rfl)
    · exact ⟨rfl, hM, rfl, rfl⟩
  · skip
    have h0 : ¬ tMem M i = 0 := by show ¬ t1 _ = 0; rw [t1, if_pos c9]; decide
    refine lv_lconst (v := 0) hx hb dX3_gainNow_12 (by decide) ?_
    exact sg_lret hx hb hr hlocks hP hD hS (Nat.le_of_ble_eq_true rfl) (Nat.le_of_ble_eq_true rfl) dX3_gainNow_13 (⟨fun h => absurd h h0, hM⟩)

theorem wi_X3_sell : ∀ w ∈ wsX30, w ∈ wsX3_sell := by decide +kernel
set_option maxHeartbeats 4000000 in
set_option maxRecDepth 100000 in
theorem c_X3_sell (l : Launch) (D : va_G) (Y : Nat → ClassId) (σ : sg_W) (sz : Nat) (ad : Nat → Nat) (M : MS) (i x : Int32) (h6 : mem6 M) (ho : ∀ k, k < 60 → vp_in (sI M 18 k) 60) (hm : 0 ≤ sS M 3 - 1 → vp_in (sS M 0) 60) (hM : MW Y ad M σ) : Met l yX3_sell wsX3_sell ({ frames := 3, cells := 0, slots := 0, locals := 67 } : Room) (va_Pc [.ref (ad 0), .int i, .int x] (sg_U D Y σ sz)) (va_Qi (fun r σ' => (tSell M i x = 0 → r = (xSell (uS M 19 0) i x).2.2) ∧ MF Y ad σ (if tSell M i x = 0 then (xSell (uS M 19 0) i x).1 else uS M 19 (tSell M i x)) σ') (sg_B D σ sz) (sg_A σ sz)) 0 0 (sg_A σ sz) := by
  refine sg_met (cc := cX3_sell) (maxL := 8) (ret := (some .int)) (by decide) rfl (Nat.le_of_ble_eq_true rfl) ?_
  intro p e s m below meth c ls hx hb hml hr hown hts hlocks hnm hP hK hD hN hX hA hS hsz hl
  have hl : lv_has ls 8 [(0, .ref (ad 0)), (1, .int i), (2, .int x)] := hl
  refine lv_aload_n hx hb dX3_sell_0 rfl (lv_at hl 0 rfl) ?_
  refine lv_iload_n hx hb dX3_sell_1 rfl (lv_at hl 1 rfl) ?_
  refine sg_calli hD hS hA (va_runV (As := [.int i]) (rest := []) ⟨hx, hb, hml, hown, hts⟩ (c_X3_isMember l D Y _ _ ad M i hM.self) (cwV 1 hts gX3_sell_X3_isMember rfl rfl rfl (by decide +kernel) ⟨Nat.le_of_ble_eq_true rfl, Nat.le_of_ble_eq_true rfl⟩) (sg_preV (q := (RX3, TX3, 20)) (hM.1 0 rfl) rfl hK hP hD hN hX hS hA) rfl rfl hl.1 rfl (lv_room (Nat.le_of_ble_eq_true rfl)) dX3_sell_2 ⟨Nat.le_of_ble_eq_true rfl, Nat.le_of_ble_eq_true rfl⟩) (fun r2 σ' H locs hw hP hD hS => ?_)
  obtain ⟨rfl, rfl⟩ := hw
  refine lv_topi (fun v5 ev5 => ?_)
  obtain rfl : v5 = bI (qM M i) := by exact ev5
  refine lv_istore_n (lv' := [(3, .int (bI (qM M i))), (0, .ref (ad 0)), (1, .int i), (2, .int x)]) hx hb dX3_sell_5 rfl hl (by decide) rfl (fun ls hl => ?_)
  refine lv_aload_n hx hb dX3_sell_6 rfl (lv_at hl 1 rfl) ?_
  refine lv_iload_n hx hb dX3_sell_7 rfl (lv_at hl 0 rfl) ?_
  refine lv_iload_n hx hb dX3_sell_8 rfl (lv_at hl 3 rfl) ?_
  refine lv_iconst (v := 1) hx hb dX3_sell_9 (by decide) ?_
  refine lv_ldc (v := 1000000) hx hb hown (hts (.constant RX3 118 1000000) (by decide +kernel)) dX3_sell_10 ?_
  refine sg_calli hD hS hA (va_runS (As := [.int x, .int 1, .int 1000000]) (rest := [.int (bI (qM M i)), .ref (ad 0)]) ⟨hx, hb, hml, hown, hts⟩ (c_X3_isIn l D Y _ _ x 1 1000000) (va_cwS 3 hts gX3_sell_X3_isIn rfl rfl rfl (by decide +kernel) ⟨Nat.le_of_ble_eq_true rfl, Nat.le_of_ble_eq_true rfl⟩) (sg_preS hK hP hD hN hX hS hA) rfl rfl hl.1 rfl (lv_room (Nat.le_of_ble_eq_true rfl)) dX3_sell_12 ⟨Nat.le_of_ble_eq_true rfl, Nat.le_of_ble_eq_true rfl⟩) (fun r12 σ' H locs hw hP hD hS => ?_)
  obtain ⟨rfl, rfl⟩ := hw
  refine sg_cutwi (D := D) hS (j := 33) (ls := ls) (rest := [.int (bI (qIn x 1 1000000)), .int (bI (qM M i)), .ref (ad 0)]) 0 0 (fun x9 σ' => x9 = (bI (qM M i ∧ x ≤ sH M (tN i) 10)) ∧ MF Y ad σ M σ') (fun x9 σ' H locs hj9 hP hD hS => ?_) (fun k33 => ?_)
  · obtain ⟨rfl, hM⟩ := hj9
    refine sg_calli hD hS hA (va_runV (As := [.int (bI (qM M i)), .int (bI (qIn x 1 1000000)), .int (bI (qM M i ∧ x ≤ sH M (tN i) 10))]) (rest := []) ⟨hx, hb, hml, hown, hts⟩ (c_X3_mayAll l D Y _ _ ad M ((bI (qM M i))) ((bI (qIn x 1 1000000))) ((bI (qM M i ∧ x ≤ sH M (tN i) 10))) hM.self) (cwV 3 hts gX3_sell_X3_mayAll rfl rfl rfl (by decide +kernel) ⟨Nat.le_of_ble_eq_true rfl, Nat.le_of_ble_eq_true rfl⟩) (sg_preV (q := (RX3, TX3, 20)) (hM.1 0 rfl) rfl hK hP hD hN hX hS hA) rfl rfl hl.1 rfl (lv_room (Nat.le_of_ble_eq_true rfl)) dX3_sell_33 ⟨Nat.le_of_ble_eq_true rfl, Nat.le_of_ble_eq_true rfl⟩) (fun r33 σ' H locs hw hP hD hS => ?_)
    obtain ⟨rfl, hw⟩ := hw
    have hM := hM.trans hw
    refine lv_if_ne (tgt := 41) hx hb dX3_sell_36 (by decide) (fun c36 => ?_) (fun c36 => ?_)
    · skip
      have h0 : t3 (bI (qM M i)) (bI (qIn x 1 1000000)) (bI (qM M i ∧ x ≤ sH M (tN i) 10)) = 0 := by rw [bI_0] at c36; exact Classical.not_not.mp c36
      rw [h0] at hM
      refine lv_iload_n hx hb dX3_sell_41 rfl (lv_at hl 3 rfl) ?_
      have hi : vp_in i 6 := qM_in h6 (by grind [bI, t1, t2, t3])
      have ei := vp_eq hi (by decide)
      have hi2 := vp_lt hi
      have h10 : 10 * i = nI (10 * tN i) := (congrArg (fun z => 10 * z) ei).trans (pk_mul 10 _)
      have h1010 : nI (10 * tN i) + 10 = nI (10 * tN i + 10) := nI_add _ 10
      refine lv_istore (lv' := [(4, .int x), (3, .int (bI (qM M i))), (0, .ref (ad 0)), (1, .int i), (2, .int x)]) hx hb dX3_sell_42 hl (by decide) rfl (fun ls hl => ?_)
      have hm1 : vp_in (sS (uS M 19 0) 0) 60 := hm (by have := (show qM M i by grind [bI, t3]); exact qM_pos this)
      refine lv_iconst (v := 0) hx hb dX3_sell_44 (by decide) ?_
      refine lv_istore (lv' := [(5, .int 0), (4, .int x), (3, .int (bI (qM M i))), (0, .ref (ad 0)), (1, .int i), (2, .int x)]) hx hb dX3_sell_45 hl (by decide) rfl (fun ls hl => ?_)
      refine lv_bipush (v := 10) hx hb dX3_sell_47 (by decide) ?_
      refine lv_iload_n hx hb dX3_sell_49 rfl (lv_at hl 4 rfl) ?_
      refine lv_imul hx hb dX3_sell_50 ?_
      refine lv_topi (fun v51 ev51 => ?_)
      obtain rfl : v51 = nI (10 * tN i + 0) := by rw [ev51, h10]; rfl
      refine lv_istore (lv' := [(6, .int (nI (10 * tN i + 0))), (5, .int 0), (4, .int x), (3, .int (bI (qM M i))), (0, .ref (ad 0)), (1, .int i), (2, .int x)]) hx hb dX3_sell_51 hl (by decide) rfl (fun ls hl => ?_)
      refine sg_loop (D := D) (H0 := s.heap) (T := Nat) 53 8 (fun n1 t σ' c' s' => n1 + t = 10 ∧ MF Y ad σ (sellN (tN i) t (uS M 19 0, x, 0)).1 σ' ∧ c' = 0 ∧ s' = 0) (fun t => [(6, .int (nI (10 * tN i + t))), (5, .int (sellN (tN i) t (uS M 19 0, x, 0)).2.2), (4, .int (sellN (tN i) t (uS M 19 0, x, 0)).2.1), (0, .ref (ad 0)), (1, .int i)]) ?_ (10) (0) _ _ _ _ _ _ ?_ hP hD hS (lv_sub hl [0, 1, 2, 4, 5] rfl)
      · intro n1 t σ' cells slots H locs ls ih hI hP hD hS hl
        obtain ⟨q, rfl⟩ : ∃ q, q = t := ⟨_, rfl⟩
        obtain ⟨hn, hM, rfl, rfl⟩ := hI
        obtain ⟨X, hXX⟩ : ∃ X, X = sellN (tN i) q (uS M 19 0, x, 0) := ⟨_, rfl⟩
        rw [← hXX] at hM
        have hl : lv_has ls 8 [(6, .int (nI (10 * tN i + q))), (5, .int (sellN (tN i) q (uS M 19 0, x, 0)).2.2), (4, .int (sellN (tN i) q (uS M 19 0, x, 0)).2.1), (0, .ref (ad 0)), (1, .int i)] := hl
        rw [← hXX] at hl
        have hmX : vp_in (sS X.1 0) 60 := by rw [hXX, sellN_S]; exact hm1
        have hoX : ∀ k, k < 60 → vp_in (sI X.1 18 k) 60 := fun k hk => by rw [hXX, sellN_I (by decide)]; exact ho k hk
        have hl : lv_has ls 8 [(6, .int (nI (10 * tN i + q))), (5, .int X.2.2), (4, .int X.2.1), (0, .ref (ad 0)), (1, .int i)] := hl
        refine lv_iload hx hb dX3_sell_53 (lv_at hl 0 rfl) ?_
        refine lv_bipush (v := 10) hx hb dX3_sell_55 (by decide) ?_
        refine lv_iload_n hx hb dX3_sell_57 rfl (lv_at hl 4 rfl) ?_
        refine lv_imul hx hb dX3_sell_58 ?_
        refine lv_bipush (v := 10) hx hb dX3_sell_59 (by decide) ?_
        refine lv_iadd hx hb dX3_sell_61 ?_
        refine lv_icmp_ge (tgt := 183) hx hb dX3_sell_62 (by decide) (fun c62 => ?_) (fun c62 => ?_)
        · skip
          have hq10 : X = xSell (uS M 19 0) i x := by
            rw [h10, h1010, nI_leI (by omega) (by omega)] at c62
            obtain rfl : q = 10 := by omega
            exact hXX
          refine lv_iload hx hb dX3_sell_183 (lv_at hl 1 rfl) ?_
          exact sg_iret hx hb hr rfl hlocks hP hD hS (Nat.le_of_ble_eq_true rfl) (Nat.le_of_ble_eq_true rfl) dX3_sell_185 (⟨fun _ => by rw [hq10], by rw [if_pos (show tSell M i x = 0 from h0), ← hq10]; exact hM⟩)
        · skip
          rw [h10, h1010, nI_leI (by omega) (by omega)] at c62
          have hcq : (nI (10 * tN i + q)).toNatClampNeg = 10 * tN i + q := nI_clamp (by omega)
          refine lv_iload hx hb dX3_sell_65 (lv_at hl 2 rfl) ?_
          refine lv_if_le (tgt := 183) hx hb dX3_sell_67 (by decide) (fun c67 => ?_) (fun c67 => ?_)
          · skip
            have hq10 : X = xSell (uS M 19 0) i x := by
              rw [hXX] at c67 ⊢
              have := sellN_stop c67 (10 - q)
              rw [show q + (10 - q) = 10 by omega] at this
              exact this.symm
            refine lv_iload hx hb dX3_sell_183 (lv_at hl 1 rfl) ?_
            exact sg_iret hx hb hr rfl hlocks hP hD hS (Nat.le_of_ble_eq_true rfl) (Nat.le_of_ble_eq_true rfl) dX3_sell_185 (⟨fun _ => by rw [hq10], by rw [if_pos (show tSell M i x = 0 from h0), ← hq10]; exact hM⟩)
          · skip
            refine sg_cutwi (D := D) hS (j := 94) (ls := ls) (rest := []) 0 0 (fun x9 σ' => x9 = (soldN X.1 (10 * tN i + q) X.2.1) ∧ MF Y ad σ X.1 σ') (fun x9 σ' H locs hj9 hP hD hS => ?_) (fun k94 => ?_)
            · obtain ⟨v94, rfl⟩ : ∃ z9, z9 = x9 := ⟨_, rfl⟩
              obtain ⟨ev94, hM⟩ := hj9
              refine lv_istore (lv' := [(7, .int v94), (6, .int (nI (10 * tN i + q))), (5, .int X.2.2), (4, .int X.2.1), (0, .ref (ad 0)), (1, .int i)]) hx hb dX3_sell_94 hl (by decide) rfl (fun ls hl => ?_)
              refine lv_iload hx hb dX3_sell_96 (lv_at hl 0 rfl) ?_
              refine lv_if_le (tgt := 177) hx hb dX3_sell_98 (by decide) (fun c98 => ?_) (fun c98 => ?_)
              · skip
                have hs1 : (sellS (tN i) q X).1 = X.1 := by rw [sellS, if_neg (by rw [← ev94]; exact Int32.not_lt.mpr c98)]
                have hs2 : sellS (tN i) q X = X := by rw [sellS, if_neg (by rw [← ev94]; exact Int32.not_lt.mpr c98)]
                rw [← hs2] at hl
                obtain ⟨v177, ev177⟩ : ∃ zz9 : Int32, zz9 = (nI (10 * tN i + q)) + 1 := ⟨_, rfl⟩
                obtain rfl : v177 = nI (10 * tN i + (q + 1)) := by rw [ev177]; exact nI_1 _
                refine lv_iinc (v := (nI (10 * tN i + (q + 1)))) (lv' := [(6, .int (nI (10 * tN i + (q + 1)))), (7, .int v94), (5, .int (sellS (tN i) q X).2.2), (4, .int (sellS (tN i) q X).2.1), (0, .ref (ad 0)), (1, .int i)]) hx hb dX3_sell_177 hl (k := 1) rfl (nI_1 _) (by decide) rfl (fun ls hl => ?_)
                refine lv_goto (tgt := 53) hx hb dX3_sell_180 (by decide) ?_
                exact ih (n1 - 1) (q + 1) _ _ _ _ _ _ (by omega) ⟨by omega, by rw [sellN, ← hXX, hs1]; exact hM, rfl, rfl⟩ hP hD hS (by have hz := lv_sub hl [0, 2, 3, 4, 5] rfl; rw [sellN, ← hXX]; exact hz)
              · skip
                have hso := Int32.not_le.mp c98
                refine lv_aload_n hx hb dX3_sell_101 rfl (lv_at hl 4 rfl) ?_
                refine va_get (ref := RX3) (v := .ref (ad 13)) hx hb hts wi_X3_sell hown hK (sg_one hP (hM.1 0 rfl)) 0 rfl rfl 13 (by decide) (hts (.fieldLink RX3 50 RX3 "pay" "[J") (by decide +kernel)) (fun _ h => h) rfl dX3_sell_102 ?_
                refine lv_iload_n hx hb dX3_sell_105 rfl (lv_at hl 5 rfl) ?_
                refine lv_dup2_11 hx hb dX3_sell_106 rfl rfl ?_
                refine va_lald hx hb hK (sg_one hP (hM.1 13 rfl)) 0 1 rfl rfl (hi) dX3_sell_107 ?_
                refine lv_iload hx hb dX3_sell_108 (lv_at hl 0 rfl) ?_
                refine lv_i2l hx hb dX3_sell_110 rfl ?_
                refine lv_aload_n hx hb dX3_sell_111 rfl (lv_at hl 4 rfl) ?_
                refine lv_iload hx hb dX3_sell_112 (lv_at hl 1 rfl) ?_
                refine sg_calli hD hS hA (va_runV (As := [.int (nI (10 * tN i + q))]) (rest := [.long v94.toInt64, .long (sL X.1 13 (i).toNatClampNeg), .int i, .ref (ad 13)]) ⟨hx, hb, hml, hown, hts⟩ (c_X3_payOf l D Y _ _ ad X.1 (10 * tN i + q) (by omega) (hoX _ (by omega)) hmX hM.self) (cwV 1 hts gX3_sell_X3_payOf rfl rfl rfl (by decide +kernel) ⟨Nat.le_of_ble_eq_true rfl, Nat.le_of_ble_eq_true rfl⟩) (sg_preV (q := (RX3, TX3, 20)) (hM.1 0 rfl) rfl hK hP hD hN hX hS hA) rfl rfl hl.1 rfl (lv_room (Nat.le_of_ble_eq_true rfl)) dX3_sell_114 ⟨Nat.le_of_ble_eq_true rfl, Nat.le_of_ble_eq_true rfl⟩) (fun r114 σ' H locs hw hP hD hS => ?_)
                obtain ⟨er114, rfl⟩ := hw
                refine lv_i2l hx hb dX3_sell_117 rfl ?_
                refine lv_lmul hx hb dX3_sell_118 ?_
                refine lv_ladd hx hb dX3_sell_119 ?_
                refine sg_last hx hb hK hP hD hS (hM.1 13 rfl) (hi) dX3_sell_120 (fun H locs hP hD hS => ?_)
                have hM := hM.a13 (k := (i).toNatClampNeg) (v := ((sL X.1 13 (i).toNatClampNeg) + (v94.toInt64 * r114.toInt64)))
                refine lv_aload_n hx hb dX3_sell_121 rfl (lv_at hl 4 rfl) ?_
                refine va_get (ref := RX3) (v := .ref (ad 14)) hx hb hts wi_X3_sell hown hK (sg_one hP (hM.1 0 rfl)) 0 rfl rfl 14 (by decide) (hts (.fieldLink RX3 53 RX3 "gain" "[J") (by decide +kernel)) (fun _ h => h) rfl dX3_sell_122 ?_
                refine lv_iload_n hx hb dX3_sell_125 rfl (lv_at hl 5 rfl) ?_
                refine lv_dup2_11 hx hb dX3_sell_126 rfl rfl ?_
                refine va_lald hx hb hK (sg_one hP (hM.1 14 rfl)) 0 1 rfl rfl (hi) dX3_sell_127 ?_
                refine lv_aload_n hx hb dX3_sell_128 rfl (lv_at hl 4 rfl) ?_
                refine lv_iload hx hb dX3_sell_129 (lv_at hl 1 rfl) ?_
                refine lv_iload hx hb dX3_sell_131 (lv_at hl 0 rfl) ?_
                refine sg_calll hD hS hA (va_runV (As := [.int (nI (10 * tN i + q)), .int v94]) (rest := [.long (sL (uL X.1 13 (i).toNatClampNeg (((sL X.1 13 (i).toNatClampNeg) + (v94.toInt64 * r114.toInt64)))) 14 (i).toNatClampNeg), .int i, .ref (ad 14)]) ⟨hx, hb, hml, hown, hts⟩ (c_X3_gainOf l D Y _ _ ad (uL X.1 13 (i).toNatClampNeg (((sL X.1 13 (i).toNatClampNeg) + (v94.toInt64 * r114.toInt64)))) (10 * tN i + q) v94 (by omega) (hoX _ (by omega)) hmX hM.self) (cwV 2 hts gX3_sell_X3_gainOf rfl rfl rfl (by decide +kernel) ⟨Nat.le_of_ble_eq_true rfl, Nat.le_of_ble_eq_true rfl⟩) (sg_preV (q := (RX3, TX3, 20)) (hM.1 0 rfl) rfl hK hP hD hN hX hS hA) rfl rfl hl.1 rfl (lv_room (Nat.le_of_ble_eq_true rfl)) dX3_sell_133 ⟨Nat.le_of_ble_eq_true rfl, Nat.le_of_ble_eq_true rfl⟩) (fun r133 σ' H locs hw hP hD hS => ?_)
                obtain ⟨er133, rfl⟩ := hw
                refine lv_ladd hx hb dX3_sell_136 ?_
                refine sg_last hx hb hK hP hD hS (hM.1 14 rfl) (hi) dX3_sell_137 (fun H locs hP hD hS => ?_)
                have hM := hM.a14 (k := (i).toNatClampNeg) (v := ((sL (uL X.1 13 (i).toNatClampNeg (((sL X.1 13 (i).toNatClampNeg) + (v94.toInt64 * r114.toInt64)))) 14 (i).toNatClampNeg) + r133))
                skip
                refine lv_iload hx hb dX3_sell_138 (lv_at hl 2 rfl) ?_
                refine lv_aload_n hx hb dX3_sell_140 rfl (lv_at hl 4 rfl) ?_
                refine lv_iload hx hb dX3_sell_141 (lv_at hl 1 rfl) ?_
                refine sg_calli hD hS hA (va_runV (As := [.int (nI (10 * tN i + q))]) (rest := [.int X.2.2]) ⟨hx, hb, hml, hown, hts⟩ (c_X3_isEarly l D Y _ _ ad (uL (uL X.1 13 (i).toNatClampNeg (((sL X.1 13 (i).toNatClampNeg) + (v94.toInt64 * r114.toInt64)))) 14 (i).toNatClampNeg (((sL (uL X.1 13 (i).toNatClampNeg (((sL X.1 13 (i).toNatClampNeg) + (v94.toInt64 * r114.toInt64)))) 14 (i).toNatClampNeg) + r133))) (10 * tN i + q) (by omega) hM.self) (cwV 1 hts gX3_sell_X3_isEarly rfl rfl rfl (by decide +kernel) ⟨Nat.le_of_ble_eq_true rfl, Nat.le_of_ble_eq_true rfl⟩) (sg_preV (q := (RX3, TX3, 20)) (hM.1 0 rfl) rfl hK hP hD hN hX hS hA) rfl rfl hl.1 rfl (lv_room (Nat.le_of_ble_eq_true rfl)) dX3_sell_143 ⟨Nat.le_of_ble_eq_true rfl, Nat.le_of_ble_eq_true rfl⟩) (fun r143 σ' H locs hw hP hD hS => ?_)
                obtain ⟨er143, rfl⟩ := hw
                refine lv_if_eq (tgt := 154) hx hb dX3_sell_146 (by decide) (fun c146 => ?_) (fun c146 => ?_)
                · skip
                  refine lv_iconst (v := 0) hx hb dX3_sell_154 (by decide) ?_
                  refine lv_iadd hx hb dX3_sell_155 ?_
                  refine lv_topi (fun v156 ev156 => ?_)
                  obtain rfl : v156 = (sellS (tN i) q X).2.2 := by rw [ev156, sellS, if_pos (by rw [← ev94]; exact Int32.not_le.mp c98), ← ev94, ← (show r143 = eQ X.1 (10 * tN i + q) from er143)]; first | rw [if_pos c146] | rw [if_neg c146]
                  refine lv_istore (lv' := [(5, .int ((sellS (tN i) q X).2.2)), (7, .int v94), (6, .int (nI (10 * tN i + q))), (4, .int X.2.1), (0, .ref (ad 0)), (1, .int i)]) hx hb dX3_sell_156 hl (by decide) rfl (fun ls hl => ?_)
                  refine lv_aload_n hx hb dX3_sell_158 rfl (lv_at hl 4 rfl) ?_
                  refine va_get (ref := RX3) (v := .ref (ad 16)) hx hb hts wi_X3_sell hown hK (sg_one hP (hM.1 0 rfl)) 0 rfl rfl 16 (by decide) (hts (.fieldLink RX3 59 RX3 "had" "[I") (by decide +kernel)) (fun _ h => h) rfl dX3_sell_159 ?_
                  refine lv_iload hx hb dX3_sell_162 (lv_at hl 2 rfl) ?_
                  refine lv_dup2_11 hx hb dX3_sell_164 rfl rfl ?_
                  refine va_iald hx hb hK (sg_one hP (hM.1 16 rfl)) 0 0 rfl rfl (vp_in_nI (by omega) (by decide)) dX3_sell_165 ?_
                  refine lv_iload hx hb dX3_sell_166 (lv_at hl 1 rfl) ?_
                  refine lv_isub hx hb dX3_sell_168 ?_
                  refine sg_iast hx hb hK hP hD hS (hM.1 16 rfl) (vp_in_nI (by omega) (by decide)) dX3_sell_169 (fun H locs hP hD hS => ?_)
                  have hM := hM.a16 (k := ((nI (10 * tN i + q))).toNatClampNeg) (v := ((sI (uL (uL X.1 13 (i).toNatClampNeg (((sL X.1 13 (i).toNatClampNeg) + (v94.toInt64 * r114.toInt64)))) 14 (i).toNatClampNeg (((sL (uL X.1 13 (i).toNatClampNeg (((sL X.1 13 (i).toNatClampNeg) + (v94.toInt64 * r114.toInt64)))) 14 (i).toNatClampNeg) + r133))) 16 ((nI (10 * tN i + q))).toNatClampNeg) - v94))
                  have hp : 0 < soldN X.1 (10 * tN i + q) X.2.1 := by rw [← ev94]; exact Int32.not_le.mp c98
                  have hs1 : (sellS (tN i) q X).1 = uI (uL (uL X.1 13 (i).toNatClampNeg (((sL X.1 13 (i).toNatClampNeg) + (v94.toInt64 * r114.toInt64)))) 14 (i).toNatClampNeg (((sL (uL X.1 13 (i).toNatClampNeg (((sL X.1 13 (i).toNatClampNeg) + (v94.toInt64 * r114.toInt64)))) 14 (i).toNatClampNeg) + r133))) 16 ((nI (10 * tN i + q))).toNatClampNeg (((sI (uL (uL X.1 13 (i).toNatClampNeg (((sL X.1 13 (i).toNatClampNeg) + (v94.toInt64 * r114.toInt64)))) 14 (i).toNatClampNeg (((sL (uL X.1 13 (i).toNatClampNeg (((sL X.1 13 (i).toNatClampNeg) + (v94.toInt64 * r114.toInt64)))) 14 (i).toNatClampNeg) + r133))) 16 ((nI (10 * tN i + q))).toNatClampNeg) - v94)) := by rw [sellS, if_pos hp, ← ev94]; simp only [er114, er133, hcq]; rfl
                  refine lv_iload hx hb dX3_sell_170 (lv_at hl 3 rfl) ?_
                  refine lv_iload hx hb dX3_sell_172 (lv_at hl 1 rfl) ?_
                  refine lv_isub hx hb dX3_sell_174 ?_
                  refine lv_topi (fun v175 ev175 => ?_)
                  obtain rfl : v175 = (sellS (tN i) q X).2.1 := by rw [ev175, sellS, if_pos hp, ← ev94]
                  refine lv_istore (lv' := [(4, .int ((sellS (tN i) q X).2.1)), (5, .int ((sellS (tN i) q X).2.2)), (7, .int v94), (6, .int (nI (10 * tN i + q))), (0, .ref (ad 0)), (1, .int i)]) hx hb dX3_sell_175 hl (by decide) rfl (fun ls hl => ?_)
                  obtain ⟨v177, ev177⟩ : ∃ zz9 : Int32, zz9 = (nI (10 * tN i + q)) + 1 := ⟨_, rfl⟩
                  obtain rfl : v177 = nI (10 * tN i + (q + 1)) := by rw [ev177]; exact nI_1 _
                  refine lv_iinc (v := (nI (10 * tN i + (q + 1)))) (lv' := [(6, .int (nI (10 * tN i + (q + 1)))), (4, .int ((sellS (tN i) q X).2.1)), (5, .int ((sellS (tN i) q X).2.2)), (7, .int v94), (0, .ref (ad 0)), (1, .int i)]) hx hb dX3_sell_177 hl (k := 3) rfl (nI_1 _) (by decide) rfl (fun ls hl => ?_)
                  refine lv_goto (tgt := 53) hx hb dX3_sell_180 (by decide) ?_
                  exact ih (n1 - 1) (q + 1) _ _ _ _ _ _ (by omega) ⟨by omega, by rw [sellN, ← hXX, hs1]; exact hM, rfl, rfl⟩ hP hD hS (by have hz := lv_sub hl [0, 2, 1, 4, 5] rfl; rw [sellN, ← hXX]; exact hz)
                · skip
                  refine lv_iload hx hb dX3_sell_149 (lv_at hl 0 rfl) ?_
                  refine lv_goto (tgt := 155) hx hb dX3_sell_151 (by decide) ?_
                  refine lv_iadd hx hb dX3_sell_155 ?_
                  refine lv_topi (fun v156 ev156 => ?_)
                  obtain rfl : v156 = (sellS (tN i) q X).2.2 := by rw [ev156, sellS, if_pos (by rw [← ev94]; exact Int32.not_le.mp c98), ← ev94, ← (show r143 = eQ X.1 (10 * tN i + q) from er143)]; first | rw [if_pos c146] | rw [if_neg c146]
                  refine lv_istore (lv' := [(5, .int ((sellS (tN i) q X).2.2)), (7, .int v94), (6, .int (nI (10 * tN i + q))), (4, .int X.2.1), (0, .ref (ad 0)), (1, .int i)]) hx hb dX3_sell_156 hl (by decide) rfl (fun ls hl => ?_)
                  refine lv_aload_n hx hb dX3_sell_158 rfl (lv_at hl 4 rfl) ?_
                  refine va_get (ref := RX3) (v := .ref (ad 16)) hx hb hts wi_X3_sell hown hK (sg_one hP (hM.1 0 rfl)) 0 rfl rfl 16 (by decide) (hts (.fieldLink RX3 59 RX3 "had" "[I") (by decide +kernel)) (fun _ h => h) rfl dX3_sell_159 ?_
                  refine lv_iload hx hb dX3_sell_162 (lv_at hl 2 rfl) ?_
                  refine lv_dup2_11 hx hb dX3_sell_164 rfl rfl ?_
                  refine va_iald hx hb hK (sg_one hP (hM.1 16 rfl)) 0 0 rfl rfl (vp_in_nI (by omega) (by decide)) dX3_sell_165 ?_
                  refine lv_iload hx hb dX3_sell_166 (lv_at hl 1 rfl) ?_
                  refine lv_isub hx hb dX3_sell_168 ?_
                  refine sg_iast hx hb hK hP hD hS (hM.1 16 rfl) (vp_in_nI (by omega) (by decide)) dX3_sell_169 (fun H locs hP hD hS => ?_)
                  have hM := hM.a16 (k := ((nI (10 * tN i + q))).toNatClampNeg) (v := ((sI (uL (uL X.1 13 (i).toNatClampNeg (((sL X.1 13 (i).toNatClampNeg) + (v94.toInt64 * r114.toInt64)))) 14 (i).toNatClampNeg (((sL (uL X.1 13 (i).toNatClampNeg (((sL X.1 13 (i).toNatClampNeg) + (v94.toInt64 * r114.toInt64)))) 14 (i).toNatClampNeg) + r133))) 16 ((nI (10 * tN i + q))).toNatClampNeg) - v94))
                  have hp : 0 < soldN X.1 (10 * tN i + q) X.2.1 := by rw [← ev94]; exact Int32.not_le.mp c98
                  have hs1 : (sellS (tN i) q X).1 = uI (uL (uL X.1 13 (i).toNatClampNeg (((sL X.1 13 (i).toNatClampNeg) + (v94.toInt64 * r114.toInt64)))) 14 (i).toNatClampNeg (((sL (uL X.1 13 (i).toNatClampNeg (((sL X.1 13 (i).toNatClampNeg) + (v94.toInt64 * r114.toInt64)))) 14 (i).toNatClampNeg) + r133))) 16 ((nI (10 * tN i + q))).toNatClampNeg (((sI (uL (uL X.1 13 (i).toNatClampNeg (((sL X.1 13 (i).toNatClampNeg) + (v94.toInt64 * r114.toInt64)))) 14 (i).toNatClampNeg (((sL (uL X.1 13 (i).toNatClampNeg (((sL X.1 13 (i).toNatClampNeg) + (v94.toInt64 * r114.toInt64)))) 14 (i).toNatClampNeg) + r133))) 16 ((nI (10 * tN i + q))).toNatClampNeg) - v94)) := by rw [sellS, if_pos hp, ← ev94]; simp only [er114, er133, hcq]; rfl
                  refine lv_iload hx hb dX3_sell_170 (lv_at hl 3 rfl) ?_
                  refine lv_iload hx hb dX3_sell_172 (lv_at hl 1 rfl) ?_
                  refine lv_isub hx hb dX3_sell_174 ?_
                  refine lv_topi (fun v175 ev175 => ?_)
                  obtain rfl : v175 = (sellS (tN i) q X).2.1 := by rw [ev175, sellS, if_pos hp, ← ev94]
                  refine lv_istore (lv' := [(4, .int ((sellS (tN i) q X).2.1)), (5, .int ((sellS (tN i) q X).2.2)), (7, .int v94), (6, .int (nI (10 * tN i + q))), (0, .ref (ad 0)), (1, .int i)]) hx hb dX3_sell_175 hl (by decide) rfl (fun ls hl => ?_)
                  obtain ⟨v177, ev177⟩ : ∃ zz9 : Int32, zz9 = (nI (10 * tN i + q)) + 1 := ⟨_, rfl⟩
                  obtain rfl : v177 = nI (10 * tN i + (q + 1)) := by rw [ev177]; exact nI_1 _
                  refine lv_iinc (v := (nI (10 * tN i + (q + 1)))) (lv' := [(6, .int (nI (10 * tN i + (q + 1)))), (4, .int ((sellS (tN i) q X).2.1)), (5, .int ((sellS (tN i) q X).2.2)), (7, .int v94), (0, .ref (ad 0)), (1, .int i)]) hx hb dX3_sell_177 hl (k := 3) rfl (nI_1 _) (by decide) rfl (fun ls hl => ?_)
                  refine lv_goto (tgt := 53) hx hb dX3_sell_180 (by decide) ?_
                  exact ih (n1 - 1) (q + 1) _ _ _ _ _ _ (by omega) ⟨by omega, by rw [sellN, ← hXX, hs1]; exact hM, rfl, rfl⟩ hP hD hS (by have hz := lv_sub hl [0, 2, 1, 4, 5] rfl; rw [sellN, ← hXX]; exact hz)
            · skip
              refine lv_iload hx hb dX3_sell_70 (lv_at hl 2 rfl) ?_
              refine lv_aload_n hx hb dX3_sell_72 rfl (lv_at hl 3 rfl) ?_
              refine va_get (ref := RX3) (v := .ref (ad 16)) hx hb hts wi_X3_sell hown hK (sg_one hP (hM.1 0 rfl)) 0 rfl rfl 16 (by decide) (hts (.fieldLink RX3 59 RX3 "had" "[I") (by decide +kernel)) (fun _ h => h) rfl dX3_sell_73 ?_
              refine lv_iload hx hb dX3_sell_76 (lv_at hl 0 rfl) ?_
              refine va_iald hx hb hK (sg_one hP (hM.1 16 rfl)) 0 0 rfl rfl (vp_in_nI (by omega) (by decide)) dX3_sell_78 ?_
              refine lv_icmp_ge (tgt := 87) hx hb dX3_sell_79 (by decide) (fun c79 => ?_) (fun c79 => ?_)
              · skip
                refine lv_aload_n hx hb dX3_sell_87 rfl (lv_at hl 3 rfl) ?_
                refine va_get (ref := RX3) (v := .ref (ad 16)) hx hb hts wi_X3_sell hown hK (sg_one hP (hM.1 0 rfl)) 0 rfl rfl 16 (by decide) (hts (.fieldLink RX3 59 RX3 "had" "[I") (by decide +kernel)) (fun _ h => h) rfl dX3_sell_88 ?_
                refine lv_iload hx hb dX3_sell_91 (lv_at hl 0 rfl) ?_
                refine va_iald hx hb hK (sg_one hP (hM.1 16 rfl)) 0 0 rfl rfl (vp_in_nI (by omega) (by decide)) dX3_sell_93 ?_
                exact k94 _ _ _ _ (⟨by grind [soldN, Int32.not_le, Int32.not_lt], hM⟩) hP hD hS
              · skip
                refine lv_iload hx hb dX3_sell_82 (lv_at hl 2 rfl) ?_
                refine lv_goto (tgt := 94) hx hb dX3_sell_84 (by decide) ?_
                exact k94 _ _ _ _ (⟨by grind [soldN, Int32.not_le, Int32.not_lt], hM⟩) hP hD hS
      · exact ⟨rfl, hM, rfl, rfl⟩
    · skip
      have h0 : ¬ tSell M i x = 0 := bI_0.mp c36
      refine lv_iconst (v := 0) hx hb dX3_sell_39 (by decide) ?_
      exact sg_iret hx hb hr rfl hlocks hP hD hS (Nat.le_of_ble_eq_true rfl) (Nat.le_of_ble_eq_true rfl) dX3_sell_40 (⟨fun h => absurd h h0, by rw [if_neg h0]; exact hM⟩)
  · skip
    refine lv_iload_n hx hb dX3_sell_15 rfl (lv_at hl 0 rfl) ?_
    refine lv_if_eq (tgt := 32) hx hb dX3_sell_16 (by decide) (fun c16 => ?_) (fun c16 => ?_)
    · skip
      refine lv_iconst (v := 0) hx hb dX3_sell_32 (by decide) ?_
      exact k33 _ _ _ _ (⟨by grind [bI, Int32.not_le, Int32.not_lt], hM⟩) hP hD hS
    · skip
      refine lv_aload_n hx hb dX3_sell_19 rfl (lv_at hl 1 rfl) ?_
      refine lv_iload_n hx hb dX3_sell_20 rfl (lv_at hl 2 rfl) ?_
      refine sg_calli hD hS hA (va_runV (As := [.int i]) (rest := [.int (bI (qIn x 1 1000000)), .int (bI (qM M i)), .ref (ad 0)]) ⟨hx, hb, hml, hown, hts⟩ (c_X3_sharesOf_i l D Y _ _ ad M i (qM_in h6 (by grind [bI])) hM.self) (cwV 1 hts gX3_sell_X3_sharesOf rfl rfl rfl (by decide +kernel) ⟨Nat.le_of_ble_eq_true rfl, Nat.le_of_ble_eq_true rfl⟩) (sg_preV (q := (RX3, TX3, 20)) (hM.1 0 rfl) rfl hK hP hD hN hX hS hA) rfl rfl hl.1 rfl (lv_room (Nat.le_of_ble_eq_true rfl)) dX3_sell_21 ⟨Nat.le_of_ble_eq_true rfl, Nat.le_of_ble_eq_true rfl⟩) (fun r21 σ' H locs hw hP hD hS => ?_)
      obtain ⟨er21, rfl⟩ := hw
      refine lv_iload_n hx hb dX3_sell_24 rfl (lv_at hl 3 rfl) ?_
      refine lv_icmp_lt (tgt := 32) hx hb dX3_sell_25 (by decide) (fun c25 => ?_) (fun c25 => ?_)
      · skip
        refine lv_iconst (v := 0) hx hb dX3_sell_32 (by decide) ?_
        exact k33 _ _ _ _ (⟨by grind [bI, Int32.not_le, Int32.not_lt], hM⟩) hP hD hS
      · skip
        refine lv_iconst (v := 1) hx hb dX3_sell_28 (by decide) ?_
        refine lv_goto (tgt := 33) hx hb dX3_sell_29 (by decide) ?_
        exact k33 _ _ _ _ (⟨by grind [bI, Int32.not_le, Int32.not_lt], hM⟩) hP hD hS
