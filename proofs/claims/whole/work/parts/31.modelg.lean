theorem mo_in {x : Int32} (h : -1 ≤ x) (h2 : x < 59) : vp_in (x + 1) 60 := by
  rw [vp_in_iff]
  rw [Int32.le_iff_toInt_le] at h
  rw [Int32.lt_iff_toInt_lt] at h2
  have h3 : (-1 : Int32).toInt = -1 := rfl
  have h4 : (59 : Int32).toInt = 59 := rfl
  have h5 : (x + 1).toInt = x.toInt + 1 := by
    rw [Int32.toInt_add]
    have : (1 : Int32).toInt = 1 := rfl
    rw [this]
    exact Int.bmod_eq_of_le (by omega) (by omega)
  omega
theorem wi_X3_next : ∀ w ∈ wsX30, w ∈ wsX3_next := by decide +kernel
set_option maxHeartbeats 4000000 in
set_option maxRecDepth 100000 in
theorem c_X3_next (l : Launch) (D : va_G) (Y : Nat → ClassId) (σ : sg_W) (sz : Nat) (ad : Nat → Nat) (M : MS) (x : Int32) (h6 : mem6 M) (hmo : -1 ≤ sS M 0) (hB : irem (sS M 0) 6 = 5 → ∀ q, q < tN (sS M 3) → okBuy (bAll (uS M 19 0) q) q) (hM : MW Y ad M σ) : Met l yX3_next wsX3_next ({ frames := 2, cells := 0, slots := 0, locals := 55 } : Room) (va_Pc [.ref (ad 0), .int x] (sg_U D Y σ sz)) (va_Qi (fun r σ' => (tNext M x = 0 → r = sS M 0 + 1) ∧ MF Y ad σ (if tNext M x = 0 then nNext (uS M 19 0) x else uS M 19 (tNext M x)) σ') (sg_B D σ sz) (sg_A σ sz)) 0 0 (sg_A σ sz) := by
  refine sg_met (cc := cX3_next) (maxL := 3) (ret := (some .int)) (by decide) rfl (Nat.le_of_ble_eq_true rfl) ?_
  intro p e s m below meth c ls hx hb hml hr hown hts hlocks hnm hP hK hD hN hX hA hS hsz hl
  have hl : lv_has ls 3 [(0, .ref (ad 0)), (1, .int x)] := hl
  refine lv_aload_n hx hb dX3_next_0 rfl (lv_at hl 0 rfl) ?_
  refine lv_iload_n hx hb dX3_next_1 rfl (lv_at hl 1 rfl) ?_
  refine lv_iconst (v := 1) hx hb dX3_next_2 (by decide) ?_
  refine lv_ldc (v := 100000) hx hb hown (hts (.constant RX3 82 100000) (by decide +kernel)) dX3_next_3 ?_
  refine sg_calli hD hS hA (va_runS (As := [.int x, .int 1, .int 100000]) (rest := [.ref (ad 0)]) ⟨hx, hb, hml, hown, hts⟩ (c_X3_isIn l D Y _ _ x 1 100000) (va_cwS 3 hts gX3_next_X3_isIn rfl rfl rfl (by decide +kernel) ⟨Nat.le_of_ble_eq_true rfl, Nat.le_of_ble_eq_true rfl⟩) (sg_preS hK hP hD hN hX hS hA) rfl rfl hl.1 rfl (lv_room (Nat.le_of_ble_eq_true rfl)) dX3_next_5 ⟨Nat.le_of_ble_eq_true rfl, Nat.le_of_ble_eq_true rfl⟩) (fun r5 σ' H locs hw hP hD hS => ?_)
  obtain ⟨rfl, rfl⟩ := hw
  refine sg_cutwi (D := D) hS (j := 22) (ls := ls) (rest := [.int (bI (qIn x 1 100000)), .ref (ad 0)]) 0 0 (fun x9 σ' => x9 = (bI (sS M 0 < 59)) ∧ MF Y ad σ M σ') (fun x9 σ' H locs hj9 hP hD hS => ?_) (fun k22 => ?_)
  · obtain ⟨rfl, hM⟩ := hj9
    refine sg_calli hD hS hA (va_runV (As := [.int (bI (qIn x 1 100000)), .int (bI (sS M 0 < 59))]) (rest := []) ⟨hx, hb, hml, hown, hts⟩ (c_X3_mayBoth l D Y _ _ ad M ((bI (qIn x 1 100000))) ((bI (sS M 0 < 59))) hM.self) (cwV 2 hts gX3_next_X3_mayBoth rfl rfl rfl (by decide +kernel) ⟨Nat.le_of_ble_eq_true rfl, Nat.le_of_ble_eq_true rfl⟩) (sg_preV (q := (RX3, TX3, 20)) (hM.1 0 rfl) rfl hK hP hD hN hX hS hA) rfl rfl hl.1 rfl (lv_room (Nat.le_of_ble_eq_true rfl)) dX3_next_22 ⟨Nat.le_of_ble_eq_true rfl, Nat.le_of_ble_eq_true rfl⟩) (fun r22 σ' H locs hw hP hD hS => ?_)
    obtain ⟨rfl, hw⟩ := hw
    have hM := hM.trans hw
    refine lv_if_ne (tgt := 30) hx hb dX3_next_25 (by decide) (fun c25 => ?_) (fun c25 => ?_)
    · skip
      have h0 : t2 (bI (qIn x 1 100000)) (bI (sS M 0 < 59)) = 0 := by rw [bI_0] at c25; exact Classical.not_not.mp c25
      rw [h0] at hM
      refine lv_iconst (v := 0) hx hb dX3_next_30 (by decide) ?_
      have hmm : ∃ n, n ≤ 6 ∧ sS M 3 = nI n := h6
      obtain ⟨n6, hn6, e6⟩ := hmm
      have hm3 : sS M 3 = nI (tN (sS M 3)) := by rw [e6, tN, nI_clamp (by omega)]
      have hl6 : tN (sS M 3) ≤ 6 := by rw [e6, tN, nI_clamp (by omega)]; exact hn6
      have hmi : vp_in (sS M 0 + 1) 60 := mo_in hmo (by grind [bI, t2])
      refine lv_istore_n (lv' := [(2, .int 0), (0, .ref (ad 0)), (1, .int x)]) hx hb dX3_next_31 rfl hl (by decide) rfl (fun ls hl => ?_)
      refine sg_loop (D := D) (H0 := s.heap) (T := Nat) 32 3 (fun n1 t σ' c' s' => n1 + t = tN (sS M 3) ∧ (t = 0 ∨ irem (sS M 0) 6 = 5) ∧ MF Y ad σ (bAll (uS M 19 0) t) σ' ∧ c' = 0 ∧ s' = 0) (fun t => [(2, .int (nI t)), (0, .ref (ad 0)), (1, .int x)]) ?_ (tN (sS M 3)) (0) _ _ _ _ _ _ ?_ hP hD hS (lv_sub hl [0, 1, 2] rfl)
      · intro n1 t σ' cells slots H locs ls ih hI hP hD hS hl
        obtain ⟨q, rfl⟩ : ∃ q, q = t := ⟨_, rfl⟩
        obtain ⟨hn, hpm, hM, rfl, rfl⟩ := hI
        have hs3 : sS (bAll (uS M 19 0) q) 3 = nI (tN (sS M 3)) := by rw [bAll_S]; exact hm3
        have hs0 : sS (bAll (uS M 19 0) q) 0 = sS M 0 := by rw [bAll_S]; rfl
        have hl : lv_has ls 3 [(2, .int (nI q)), (0, .ref (ad 0)), (1, .int x)] := hl
        refine lv_iload_n hx hb dX3_next_32 rfl (lv_at hl 0 rfl) ?_
        refine lv_aload_n hx hb dX3_next_33 rfl (lv_at hl 1 rfl) ?_
        refine va_get (ref := RX3) (v := .int (sS (bAll (uS M 19 0) q) 3)) hx hb hts wi_X3_next hown hK (sg_one hP (hM.1 0 rfl)) 0 rfl rfl 3 (by decide) (hts (.fieldLink RX3 71 RX3 "members" "I") (by decide +kernel)) (fun _ h => h) rfl dX3_next_34 ?_
        refine lv_icmp_ge (tgt := 71) hx hb dX3_next_37 (by decide) (fun c37 => ?_) (fun c37 => ?_)
        · skip
          have hM := hM.to (M' := if irem (sS M 0) 6 = 5 then bAll (uS M 19 0) (tN (sS M 3)) else uS M 19 0) (by
            rw [hs3, nI_leI (by omega) (by omega)] at c37
            obtain rfl : q = tN (sS M 3) := by omega
            rcases hpm with h9 | h9
            · rw [h9]; split <;> rfl
            · rw [if_pos h9])
          have hs9 : sS (if irem (sS M 0) 6 = 5 then bAll (uS M 19 0) (tN (sS M 3)) else uS M 19 0) 0 = sS M 0 := by split; rw [bAll_S]; rfl; rfl
          generalize hMM : (if irem (sS M 0) 6 = 5 then bAll (uS M 19 0) (tN (sS M 3)) else uS M 19 0) = MM at hM hs9
          refine lv_aload_n hx hb dX3_next_71 rfl (lv_at hl 1 rfl) ?_
          refine lv_dup hx hb dX3_next_72 rfl ?_
          refine va_get (ref := RX3) (v := .int (sS MM 0)) hx hb hts wi_X3_next hown hK (sg_one hP (hM.1 0 rfl)) 0 rfl rfl 0 (by decide) (hts (.fieldLink RX3 9 RX3 "month" "I") (by decide +kernel)) (fun _ h => h) rfl dX3_next_73 ?_
          refine lv_iconst (v := 1) hx hb dX3_next_76 (by decide) ?_
          refine lv_iadd hx hb dX3_next_77 ?_
          refine sg_put (ref := RX3) (ty := .int) (v := .int ((sS MM 0) + 1)) hx hb hts wi_X3_next tyX3 tyX3_ok nmX3 hown hK hP hD hS (hM.1 0 rfl) rfl 0 (by decide) (hts (.fieldLink RX3 9 RX3 "month" "I") (by decide +kernel)) (fun _ h => h) rfl (by decide +kernel) rfl rfl (Nat.le_of_ble_eq_true rfl) dX3_next_78 (fun H locs hP hD hS => ?_)
          have hM := hM.s0 (v := ((sS MM 0) + 1))
          refine lv_aload_n hx hb dX3_next_81 rfl (lv_at hl 1 rfl) ?_
          refine va_get (ref := RX3) (v := .ref (ad 1)) hx hb hts wi_X3_next hown hK (sg_one hP (hM.1 0 rfl)) 0 rfl rfl 1 (by decide) (hts (.fieldLink RX3 13 RX3 "price" "[I") (by decide +kernel)) (fun _ h => h) rfl dX3_next_82 ?_
          refine lv_aload_n hx hb dX3_next_85 rfl (lv_at hl 1 rfl) ?_
          refine va_get (ref := RX3) (v := .int (sS (uS MM 0 (((sS MM 0) + 1))) 0)) hx hb hts wi_X3_next hown hK (sg_one hP (hM.1 0 rfl)) 0 rfl rfl 0 (by decide) (hts (.fieldLink RX3 9 RX3 "month" "I") (by decide +kernel)) (fun _ h => h) rfl dX3_next_86 ?_
          refine lv_iload_n hx hb dX3_next_89 rfl (lv_at hl 2 rfl) ?_
          refine sg_iast hx hb hK hP hD hS (hM.1 1 rfl) (by simp only [sS_uS, ite_true, hs9]; exact hmi) dX3_next_90 (fun H locs hP hD hS => ?_)
          have hM := hM.a1 (k := ((sS (uS MM 0 (((sS MM 0) + 1))) 0)).toNatClampNeg) (v := x)
          refine lv_aload_n hx hb dX3_next_91 rfl (lv_at hl 1 rfl) ?_
          refine va_get (ref := RX3) (v := .int (sS (uI (uS MM 0 (((sS MM 0) + 1))) 1 ((sS (uS MM 0 (((sS MM 0) + 1))) 0)).toNatClampNeg x) 0)) hx hb hts wi_X3_next hown hK (sg_one hP (hM.1 0 rfl)) 0 rfl rfl 0 (by decide) (hts (.fieldLink RX3 9 RX3 "month" "I") (by decide +kernel)) (fun _ h => h) rfl dX3_next_92 ?_
          exact sg_iret hx hb hr rfl hlocks hP hD hS (Nat.le_of_ble_eq_true rfl) (Nat.le_of_ble_eq_true rfl) dX3_next_95 (⟨fun _ => by simp only [sS_uI, sS_uS, ite_true, hs9], by rw [if_pos (show tNext M x = 0 from h0)]; exact hM.to (by subst hMM; simp only [sS_uS, ite_true, hs9]; rfl)⟩)
        · skip
          rw [hs3, nI_leI (by omega) (by omega)] at c37
          have hq9 : q < tN (sS M 3) := by omega
          have hcq : (nI q).toNatClampNeg = q := nI_clamp (by omega)
          refine lv_aload_n hx hb dX3_next_40 rfl (lv_at hl 1 rfl) ?_
          refine va_get (ref := RX3) (v := .int (sS (bAll (uS M 19 0) q) 0)) hx hb hts wi_X3_next hown hK (sg_one hP (hM.1 0 rfl)) 0 rfl rfl 0 (by decide) (hts (.fieldLink RX3 9 RX3 "month" "I") (by decide +kernel)) (fun _ h => h) rfl dX3_next_41 ?_
          refine lv_bipush (v := 6) hx hb dX3_next_44 (by decide) ?_
          refine lv_irem hx hb dX3_next_46 (by decide) ?_
          refine lv_iconst (v := 5) hx hb dX3_next_47 (by decide) ?_
          refine lv_icmp_ne (tgt := 71) hx hb dX3_next_48 (by decide) (fun c48 => ?_) (fun c48 => ?_)
          · skip
            have hM := hM.to (M' := if irem (sS M 0) 6 = 5 then bAll (uS M 19 0) (tN (sS M 3)) else uS M 19 0) (by rw [hs0] at c48; rw [if_neg c48]; rcases hpm with rfl | h9; rfl; exact absurd h9 c48)
            have hs9 : sS (if irem (sS M 0) 6 = 5 then bAll (uS M 19 0) (tN (sS M 3)) else uS M 19 0) 0 = sS M 0 := by split; rw [bAll_S]; rfl; rfl
            generalize hMM : (if irem (sS M 0) 6 = 5 then bAll (uS M 19 0) (tN (sS M 3)) else uS M 19 0) = MM at hM hs9
            refine lv_aload_n hx hb dX3_next_71 rfl (lv_at hl 1 rfl) ?_
            refine lv_dup hx hb dX3_next_72 rfl ?_
            refine va_get (ref := RX3) (v := .int (sS MM 0)) hx hb hts wi_X3_next hown hK (sg_one hP (hM.1 0 rfl)) 0 rfl rfl 0 (by decide) (hts (.fieldLink RX3 9 RX3 "month" "I") (by decide +kernel)) (fun _ h => h) rfl dX3_next_73 ?_
            refine lv_iconst (v := 1) hx hb dX3_next_76 (by decide) ?_
            refine lv_iadd hx hb dX3_next_77 ?_
            refine sg_put (ref := RX3) (ty := .int) (v := .int ((sS MM 0) + 1)) hx hb hts wi_X3_next tyX3 tyX3_ok nmX3 hown hK hP hD hS (hM.1 0 rfl) rfl 0 (by decide) (hts (.fieldLink RX3 9 RX3 "month" "I") (by decide +kernel)) (fun _ h => h) rfl (by decide +kernel) rfl rfl (Nat.le_of_ble_eq_true rfl) dX3_next_78 (fun H locs hP hD hS => ?_)
            have hM := hM.s0 (v := ((sS MM 0) + 1))
            refine lv_aload_n hx hb dX3_next_81 rfl (lv_at hl 1 rfl) ?_
            refine va_get (ref := RX3) (v := .ref (ad 1)) hx hb hts wi_X3_next hown hK (sg_one hP (hM.1 0 rfl)) 0 rfl rfl 1 (by decide) (hts (.fieldLink RX3 13 RX3 "price" "[I") (by decide +kernel)) (fun _ h => h) rfl dX3_next_82 ?_
            refine lv_aload_n hx hb dX3_next_85 rfl (lv_at hl 1 rfl) ?_
            refine va_get (ref := RX3) (v := .int (sS (uS MM 0 (((sS MM 0) + 1))) 0)) hx hb hts wi_X3_next hown hK (sg_one hP (hM.1 0 rfl)) 0 rfl rfl 0 (by decide) (hts (.fieldLink RX3 9 RX3 "month" "I") (by decide +kernel)) (fun _ h => h) rfl dX3_next_86 ?_
            refine lv_iload_n hx hb dX3_next_89 rfl (lv_at hl 2 rfl) ?_
            refine sg_iast hx hb hK hP hD hS (hM.1 1 rfl) (by simp only [sS_uS, ite_true, hs9]; exact hmi) dX3_next_90 (fun H locs hP hD hS => ?_)
            have hM := hM.a1 (k := ((sS (uS MM 0 (((sS MM 0) + 1))) 0)).toNatClampNeg) (v := x)
            refine lv_aload_n hx hb dX3_next_91 rfl (lv_at hl 1 rfl) ?_
            refine va_get (ref := RX3) (v := .int (sS (uI (uS MM 0 (((sS MM 0) + 1))) 1 ((sS (uS MM 0 (((sS MM 0) + 1))) 0)).toNatClampNeg x) 0)) hx hb hts wi_X3_next hown hK (sg_one hP (hM.1 0 rfl)) 0 rfl rfl 0 (by decide) (hts (.fieldLink RX3 9 RX3 "month" "I") (by decide +kernel)) (fun _ h => h) rfl dX3_next_92 ?_
            exact sg_iret hx hb hr rfl hlocks hP hD hS (Nat.le_of_ble_eq_true rfl) (Nat.le_of_ble_eq_true rfl) dX3_next_95 (⟨fun _ => by simp only [sS_uI, sS_uS, ite_true, hs9], by rw [if_pos (show tNext M x = 0 from h0)]; exact hM.to (by subst hMM; simp only [sS_uS, ite_true, hs9]; rfl)⟩)
          · skip
            have hp5 : irem (sS M 0) 6 = 5 := by rw [hs0] at c48; exact c48
            refine lv_aload_n hx hb dX3_next_51 rfl (lv_at hl 1 rfl) ?_
            refine va_get (ref := RX3) (v := .ref (ad 5)) hx hb hts wi_X3_next hown hK (sg_one hP (hM.1 0 rfl)) 0 rfl rfl 5 (by decide) (hts (.fieldLink RX3 24 RX3 "left" "[Z") (by decide +kernel)) (fun _ h => h) rfl dX3_next_52 ?_
            refine lv_iload_n hx hb dX3_next_55 rfl (lv_at hl 0 rfl) ?_
            refine va_zald hx hb hK (sg_one hP (hM.1 5 rfl)) 0 2 rfl rfl (vp_in_nI (by omega) (by decide)) dX3_next_56 ?_
            refine lv_if_ne (tgt := 65) hx hb dX3_next_57 (by decide) (fun c57 => ?_) (fun c57 => ?_)
            · skip
              rw [hcq] at c57
              have hM := hM.to (M' := bAll (uS M 19 0) (q + 1)) (by rw [bAll, if_neg c57])
              obtain ⟨v65, ev65⟩ : ∃ zz9 : Int32, zz9 = (nI q) + 1 := ⟨_, rfl⟩
              obtain rfl : v65 = nI (q + 1) := by rw [ev65]; exact nI_1 _
              refine lv_iinc (v := (nI (q + 1))) (lv' := [(2, .int (nI (q + 1))), (0, .ref (ad 0)), (1, .int x)]) hx hb dX3_next_65 hl (k := 0) rfl (nI_1 _) (by decide) rfl (fun ls hl => ?_)
              refine lv_goto (tgt := 32) hx hb dX3_next_68 (by decide) ?_
              exact ih (n1 - 1) (q + 1) _ _ _ _ _ _ (by omega) ⟨by omega, Or.inr hp5, hM, rfl, rfl⟩ hP hD hS (lv_sub hl [0, 1, 2] rfl)
            · skip
              refine lv_aload_n hx hb dX3_next_60 rfl (lv_at hl 1 rfl) ?_
              refine lv_iload_n hx hb dX3_next_61 rfl (lv_at hl 0 rfl) ?_
              refine sg_callv hD hS hA (va_runV (As := [.int (nI q)]) (rest := []) ⟨hx, hb, hml, hown, hts⟩ (c_X3_buy l D Y _ _ ad (bAll (uS M 19 0) q) q (by omega) (hB hp5 q hq9) hM.self) (cwV 1 hts gX3_next_X3_buy rfl rfl rfl (by decide +kernel) ⟨Nat.le_of_ble_eq_true rfl, Nat.le_of_ble_eq_true rfl⟩) (sg_preV (q := (RX3, TX3, 20)) (hM.1 0 rfl) rfl hK hP hD hN hX hS hA) rfl rfl hl.1 rfl (lv_room (Nat.le_of_ble_eq_true rfl)) dX3_next_62 ⟨Nat.le_of_ble_eq_true rfl, Nat.le_of_ble_eq_true rfl⟩) (fun σ' H locs hw hP hD hS => ?_)
              have hM := hM.trans hw
              rw [hcq] at c57
              have hM := hM.to (M' := bAll (uS M 19 0) (q + 1)) (by rw [bAll, if_pos c57])
              obtain ⟨v65, ev65⟩ : ∃ zz9 : Int32, zz9 = (nI q) + 1 := ⟨_, rfl⟩
              obtain rfl : v65 = nI (q + 1) := by rw [ev65]; exact nI_1 _
              refine lv_iinc (v := (nI (q + 1))) (lv' := [(2, .int (nI (q + 1))), (0, .ref (ad 0)), (1, .int x)]) hx hb dX3_next_65 hl (k := 0) rfl (nI_1 _) (by decide) rfl (fun ls hl => ?_)
              refine lv_goto (tgt := 32) hx hb dX3_next_68 (by decide) ?_
              exact ih (n1 - 1) (q + 1) _ _ _ _ _ _ (by omega) ⟨by omega, Or.inr hp5, hM, rfl, rfl⟩ hP hD hS (lv_sub hl [0, 1, 2] rfl)
      · exact ⟨rfl, Or.inl rfl, hM, rfl, rfl⟩
    · skip
      have h0 : ¬ tNext M x = 0 := bI_0.mp c25
      refine lv_iconst (v := 0) hx hb dX3_next_28 (by decide) ?_
      exact sg_iret hx hb hr rfl hlocks hP hD hS (Nat.le_of_ble_eq_true rfl) (Nat.le_of_ble_eq_true rfl) dX3_next_29 (⟨fun h => absurd h h0, by rw [if_neg h0]; exact hM⟩)
  · skip
    refine lv_aload_n hx hb dX3_next_8 rfl (lv_at hl 0 rfl) ?_
    refine va_get (ref := RX3) (v := .int (sS M 0)) hx hb hts wi_X3_next hown hK (sg_one hP (hM.1 0 rfl)) 0 rfl rfl 0 (by decide) (hts (.fieldLink RX3 9 RX3 "month" "I") (by decide +kernel)) (fun _ h => h) rfl dX3_next_9 ?_
    refine lv_bipush (v := 59) hx hb dX3_next_12 (by decide) ?_
    refine lv_icmp_ge (tgt := 21) hx hb dX3_next_14 (by decide) (fun c14 => ?_) (fun c14 => ?_)
    · skip
      refine lv_iconst (v := 0) hx hb dX3_next_21 (by decide) ?_
      exact k22 _ _ _ _ (⟨by grind [bI, Int32.not_le, Int32.not_lt], hM⟩) hP hD hS
    · skip
      refine lv_iconst (v := 1) hx hb dX3_next_17 (by decide) ?_
      refine lv_goto (tgt := 22) hx hb dX3_next_18 (by decide) ?_
      exact k22 _ _ _ _ (⟨by grind [bI, Int32.not_le, Int32.not_lt], hM⟩) hP hD hS
