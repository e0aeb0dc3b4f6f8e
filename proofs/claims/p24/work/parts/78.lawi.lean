set_option maxHeartbeats 4000000 in
set_option maxRecDepth 100000 in
theorem c_L_of0 (l : Launch) (hfl : l.stackTraces = false) (D : va_G) (Y : Nat → ClassId) (σ : sg_W) (sz : Nat) (x : Nat) (M : MS) (N t c : Nat) (i z3 : Int32) (hXX : CX Y x σ M N t c σ) (hc : c < 512) (v : Int32) (hv : v = sI M 6 (tN i)) : vx_Met l yL_of wsL_of ({ frames := 8, cells := 1, slots := 6, locals := 133 } : Room) (va_Pc [.ref x, .int (nI 0), .int i, .int z3] (lh_U D Y σ sz)) (va_Qi (fun r σ' => (¬ vp_in i N ∧ r = (-101) ∧ σ = σ') ∨ (vp_in i N ∧ r = v ∧ σ = σ')) (sg_B D σ sz) (sg_A σ sz)) (sg_T9 D σ sz (fun _ => False)) 1 6 (sg_A σ sz) := by
  refine lh_met (cc := cL_of) (maxL := 5) (ret := (some .int)) (hh := [(0, 84, 85, 46)]) (by decide) rfl (Nat.le_of_ble_eq_true rfl) ?_
  intro p e s m below meth cd9 ls hx hb hml htab hr hown hts hlocks hnm hP hK hD hN hC hX hA hS hsz hl
  have hl : lv_has ls 5 [(0, .ref x), (1, .int (nI 0)), (2, .int i), (3, .int z3)] := hl
  obtain ⟨aM, aO, aL, aC, P, hQ, hR, h, hAC, -⟩ := hXX
  refine lv_iload_n hx hb dL_of_0 rfl (lv_at hl 1 rfl) ?_
  refine lw_if_ne (tgt := 12) (a := 0) hx hb dL_of_1 (by decide) (by omega) (fun c1 => ?_) (fun c1 => ?_)
  · exfalso; omega
  · skip
    refine lv_aload_n hx hb dL_of_4 rfl (lv_at hl 0 rfl) ?_
    refine lv_iload_n hx hb dL_of_5 rfl (lv_at hl 2 rfl) ?_
    refine sg_xcalli hD hS hA (vx_runV (As := [.int i]) (rest := []) ⟨hx, hb, hml, hown, hts⟩ (c_X2_money l hfl D Y _ _ x aM N aO aL aC P i hQ.self) (cwV 1 hts gL_of_X2_money rfl rfl rfl (by decide +kernel) ⟨(Nat.le_of_ble_eq_true rfl), (Nat.le_of_ble_eq_true rfl)⟩) (sg_preV (q := (RX2, TX2, 5)) (hQ.1) rfl hK hP hD hN hX hS hA) rfl rfl hl.1 rfl (lv_room (Nat.le_of_ble_eq_true rfl)) dL_of_6 ⟨(Nat.le_of_ble_eq_true rfl), (Nat.le_of_ble_eq_true rfl)⟩) (fun E ce q9 H locs hpx hP hD hS hce hcv hcl => ?_) (fun r2 σ' H locs hw hP hD hS => ?_)
    · obtain ⟨rfl, hn⟩ := hpx
      refine vx_catch hown [] ⟨0, 84, 85, 46⟩ [] htab (fun z hz => absurd hz List.not_mem_nil) rfl (by decide) (hts (.classLink RL 46 "java/lang/IndexOutOfBoundsException") (by decide +kernel)) (va_Nw.use rfl (hN.2.2.1 _ (List.mem_of_getElem? (i := 0) rfl))) hce hcv hcl (W.eq (g2 := F0 m 85 ls [.ref q9]) rfl ?_)
      refine lv_astore (lv' := [(4, .ref q9), (0, .ref x), (1, .int (nI 0)), (2, .int i), (3, .int z3)]) hx hb dL_of_85 hl (by decide) rfl (fun ls hl => ?_)
      refine lv_bipush (v := (-101)) hx hb dL_of_87 (by decide) ?_
      exact vx_ret (sg_iret hx hb hr rfl hlocks hP hD hS (Nat.le_of_ble_eq_true rfl) (Nat.le_of_ble_eq_true rfl) dL_of_89 (Or.inl ⟨hn, rfl, rfl⟩))
    obtain ⟨hr2, hvi, rfl⟩ := hw
    refine lv_goto (tgt := 84) hx hb dL_of_9 (by decide) ?_
    exact vx_ret (sg_iret hx hb hr rfl hlocks hP hD hS (Nat.le_of_ble_eq_true rfl) (Nat.le_of_ble_eq_true rfl) dL_of_84 (Or.inr (⟨hvi, hr2.trans ((money_A hR hvi).trans hv.symm), rfl⟩)))

set_option maxHeartbeats 4000000 in
set_option maxRecDepth 100000 in
theorem c_L_of1 (l : Launch) (hfl : l.stackTraces = false) (D : va_G) (Y : Nat → ClassId) (σ : sg_W) (sz : Nat) (x : Nat) (M : MS) (N t c : Nat) (i z3 : Int32) (hXX : CX Y x σ M N t c σ) (hc : c < 512) (v : Int32) (hv : v = sI M 10 (tN i)) : vx_Met l yL_of wsL_of ({ frames := 8, cells := 1, slots := 6, locals := 133 } : Room) (va_Pc [.ref x, .int (nI 1), .int i, .int z3] (lh_U D Y σ sz)) (va_Qi (fun r σ' => (¬ vp_in i N ∧ r = (-101) ∧ σ = σ') ∨ (vp_in i N ∧ r = v ∧ σ = σ')) (sg_B D σ sz) (sg_A σ sz)) (sg_T9 D σ sz (fun _ => False)) 1 6 (sg_A σ sz) := by
  refine lh_met (cc := cL_of) (maxL := 5) (ret := (some .int)) (hh := [(0, 84, 85, 46)]) (by decide) rfl (Nat.le_of_ble_eq_true rfl) ?_
  intro p e s m below meth cd9 ls hx hb hml htab hr hown hts hlocks hnm hP hK hD hN hC hX hA hS hsz hl
  have hl : lv_has ls 5 [(0, .ref x), (1, .int (nI 1)), (2, .int i), (3, .int z3)] := hl
  obtain ⟨aM, aO, aL, aC, P, hQ, hR, h, hAC, -⟩ := hXX
  refine lv_iload_n hx hb dL_of_0 rfl (lv_at hl 1 rfl) ?_
  refine lw_if_ne (tgt := 12) (a := 1) hx hb dL_of_1 (by decide) (by omega) (fun c1 => ?_) (fun c1 => ?_)
  · skip
    refine lv_iload_n hx hb dL_of_12 rfl (lv_at hl 1 rfl) ?_
    refine lv_iconst (v := nI 1) hx hb dL_of_13 (by decide) ?_
    refine lw_icmp_ne (tgt := 25) (a := 1) (b := 1) hx hb dL_of_14 (by decide) (by omega) (by omega) (fun c14 => ?_) (fun c14 => ?_)
    · exfalso; omega
    · skip
      refine lv_aload_n hx hb dL_of_17 rfl (lv_at hl 0 rfl) ?_
      refine lv_iload_n hx hb dL_of_18 rfl (lv_at hl 2 rfl) ?_
      refine sg_xcalli hD hS hA (vx_runV (As := [.int i]) (rest := []) ⟨hx, hb, hml, hown, hts⟩ (c_X2_offerMonth l hfl D Y _ _ x aM N aO aL aC P i hQ.self) (cwV 1 hts gL_of_X2_offerMonth rfl rfl rfl (by decide +kernel) ⟨(Nat.le_of_ble_eq_true rfl), (Nat.le_of_ble_eq_true rfl)⟩) (sg_preV (q := (RX2, TX2, 5)) (hQ.1) rfl hK hP hD hN hX hS hA) rfl rfl hl.1 rfl (lv_room (Nat.le_of_ble_eq_true rfl)) dL_of_19 ⟨(Nat.le_of_ble_eq_true rfl), (Nat.le_of_ble_eq_true rfl)⟩) (fun E ce q9 H locs hpx hP hD hS hce hcv hcl => ?_) (fun r2 σ' H locs hw hP hD hS => ?_)
      · obtain ⟨rfl, hn⟩ := hpx
        refine vx_catch hown [] ⟨0, 84, 85, 46⟩ [] htab (fun z hz => absurd hz List.not_mem_nil) rfl (by decide) (hts (.classLink RL 46 "java/lang/IndexOutOfBoundsException") (by decide +kernel)) (va_Nw.use rfl (hN.2.2.1 _ (List.mem_of_getElem? (i := 0) rfl))) hce hcv hcl (W.eq (g2 := F0 m 85 ls [.ref q9]) rfl ?_)
        refine lv_astore (lv' := [(4, .ref q9), (0, .ref x), (1, .int (nI 1)), (2, .int i), (3, .int z3)]) hx hb dL_of_85 hl (by decide) rfl (fun ls hl => ?_)
        refine lv_bipush (v := (-101)) hx hb dL_of_87 (by decide) ?_
        exact vx_ret (sg_iret hx hb hr rfl hlocks hP hD hS (Nat.le_of_ble_eq_true rfl) (Nat.le_of_ble_eq_true rfl) dL_of_89 (Or.inl ⟨hn, rfl, rfl⟩))
      obtain ⟨hr2, hvi, rfl⟩ := hw
      refine lv_goto (tgt := 84) hx hb dL_of_22 (by decide) ?_
      exact vx_ret (sg_iret hx hb hr rfl hlocks hP hD hS (Nat.le_of_ble_eq_true rfl) (Nat.le_of_ble_eq_true rfl) dL_of_84 (Or.inr (⟨hvi, hr2.trans ((offerMonth_A hR hvi).trans hv.symm), rfl⟩)))
  · exfalso; omega

set_option maxHeartbeats 4000000 in
set_option maxRecDepth 100000 in
theorem c_L_of2 (l : Launch) (hfl : l.stackTraces = false) (D : va_G) (Y : Nat → ClassId) (σ : sg_W) (sz : Nat) (x : Nat) (M : MS) (N t c : Nat) (i z3 : Int32) (hXX : CX Y x σ M N t c σ) (hc : c < 512) (v : Int32) (hv : v = sI M 1 (tN (sI M 10 (tN i)))) : vx_Met l yL_of wsL_of ({ frames := 8, cells := 1, slots := 6, locals := 133 } : Room) (va_Pc [.ref x, .int (nI 2), .int i, .int z3] (lh_U D Y σ sz)) (va_Qi (fun r σ' => (¬ vp_in i N ∧ r = (-101) ∧ σ = σ') ∨ (vp_in i N ∧ r = v ∧ σ = σ')) (sg_B D σ sz) (sg_A σ sz)) (sg_T9 D σ sz (fun _ => False)) 1 6 (sg_A σ sz) := by
  refine lh_met (cc := cL_of) (maxL := 5) (ret := (some .int)) (hh := [(0, 84, 85, 46)]) (by decide) rfl (Nat.le_of_ble_eq_true rfl) ?_
  intro p e s m below meth cd9 ls hx hb hml htab hr hown hts hlocks hnm hP hK hD hN hC hX hA hS hsz hl
  have hl : lv_has ls 5 [(0, .ref x), (1, .int (nI 2)), (2, .int i), (3, .int z3)] := hl
  obtain ⟨aM, aO, aL, aC, P, hQ, hR, h, hAC, -⟩ := hXX
  refine lv_iload_n hx hb dL_of_0 rfl (lv_at hl 1 rfl) ?_
  refine lw_if_ne (tgt := 12) (a := 2) hx hb dL_of_1 (by decide) (by omega) (fun c1 => ?_) (fun c1 => ?_)
  · skip
    refine lv_iload_n hx hb dL_of_12 rfl (lv_at hl 1 rfl) ?_
    refine lv_iconst (v := nI 1) hx hb dL_of_13 (by decide) ?_
    refine lw_icmp_ne (tgt := 25) (a := 2) (b := 1) hx hb dL_of_14 (by decide) (by omega) (by omega) (fun c14 => ?_) (fun c14 => ?_)
    · skip
      refine lv_iload_n hx hb dL_of_25 rfl (lv_at hl 1 rfl) ?_
      refine lv_iconst (v := nI 2) hx hb dL_of_26 (by decide) ?_
      refine lw_icmp_ne (tgt := 38) (a := 2) (b := 2) hx hb dL_of_27 (by decide) (by omega) (by omega) (fun c27 => ?_) (fun c27 => ?_)
      · exfalso; omega
      · skip
        refine lv_aload_n hx hb dL_of_30 rfl (lv_at hl 0 rfl) ?_
        refine lv_iload_n hx hb dL_of_31 rfl (lv_at hl 2 rfl) ?_
        refine sg_xcalli hD hS hA (vx_runV (As := [.int i]) (rest := []) ⟨hx, hb, hml, hown, hts⟩ (c_X2_offerPrice l hfl D Y _ _ x aM N aO aL aC P i hQ.self) (cwV 1 hts gL_of_X2_offerPrice rfl rfl rfl (by decide +kernel) ⟨(Nat.le_of_ble_eq_true rfl), (Nat.le_of_ble_eq_true rfl)⟩) (sg_preV (q := (RX2, TX2, 5)) (hQ.1) rfl hK hP hD hN hX hS hA) rfl rfl hl.1 rfl (lv_room (Nat.le_of_ble_eq_true rfl)) dL_of_32 ⟨(Nat.le_of_ble_eq_true rfl), (Nat.le_of_ble_eq_true rfl)⟩) (fun E ce q9 H locs hpx hP hD hS hce hcv hcl => ?_) (fun r2 σ' H locs hw hP hD hS => ?_)
        · obtain ⟨rfl, hn⟩ := hpx
          refine vx_catch hown [] ⟨0, 84, 85, 46⟩ [] htab (fun z hz => absurd hz List.not_mem_nil) rfl (by decide) (hts (.classLink RL 46 "java/lang/IndexOutOfBoundsException") (by decide +kernel)) (va_Nw.use rfl (hN.2.2.1 _ (List.mem_of_getElem? (i := 0) rfl))) hce hcv hcl (W.eq (g2 := F0 m 85 ls [.ref q9]) rfl ?_)
          refine lv_astore (lv' := [(4, .ref q9), (0, .ref x), (1, .int (nI 2)), (2, .int i), (3, .int z3)]) hx hb dL_of_85 hl (by decide) rfl (fun ls hl => ?_)
          refine lv_bipush (v := (-101)) hx hb dL_of_87 (by decide) ?_
          exact vx_ret (sg_iret hx hb hr rfl hlocks hP hD hS (Nat.le_of_ble_eq_true rfl) (Nat.le_of_ble_eq_true rfl) dL_of_89 (Or.inl ⟨hn, rfl, rfl⟩))
        obtain ⟨hr2, hvi, rfl⟩ := hw
        refine lv_goto (tgt := 84) hx hb dL_of_35 (by decide) ?_
        exact vx_ret (sg_iret hx hb hr rfl hlocks hP hD hS (Nat.le_of_ble_eq_true rfl) (Nat.le_of_ble_eq_true rfl) dL_of_84 (Or.inr (⟨hvi, hr2.trans ((offerPrice_A hR hvi).trans hv.symm), rfl⟩)))
    · exfalso; omega
  · exfalso; omega

set_option maxHeartbeats 4000000 in
set_option maxRecDepth 100000 in
theorem c_L_of3 (l : Launch) (hfl : l.stackTraces = false) (D : va_G) (Y : Nat → ClassId) (σ : sg_W) (sz : Nat) (x : Nat) (M : MS) (N t c : Nat) (i z3 : Int32) (hXX : CX Y x σ M N t c σ) (hc : c < 512) (v : Int32) (hv : v = sI M 12 (tN i)) : vx_Met l yL_of wsL_of ({ frames := 8, cells := 1, slots := 6, locals := 133 } : Room) (va_Pc [.ref x, .int (nI 3), .int i, .int z3] (lh_U D Y σ sz)) (va_Qi (fun r σ' => (¬ vp_in i N ∧ r = (-101) ∧ σ = σ') ∨ (vp_in i N ∧ r = v ∧ σ = σ')) (sg_B D σ sz) (sg_A σ sz)) (sg_T9 D σ sz (fun _ => False)) 1 6 (sg_A σ sz) := by
  refine lh_met (cc := cL_of) (maxL := 5) (ret := (some .int)) (hh := [(0, 84, 85, 46)]) (by decide) rfl (Nat.le_of_ble_eq_true rfl) ?_
  intro p e s m below meth cd9 ls hx hb hml htab hr hown hts hlocks hnm hP hK hD hN hC hX hA hS hsz hl
  have hl : lv_has ls 5 [(0, .ref x), (1, .int (nI 3)), (2, .int i), (3, .int z3)] := hl
  obtain ⟨aM, aO, aL, aC, P, hQ, hR, h, hAC, -⟩ := hXX
  refine lv_iload_n hx hb dL_of_0 rfl (lv_at hl 1 rfl) ?_
  refine lw_if_ne (tgt := 12) (a := 3) hx hb dL_of_1 (by decide) (by omega) (fun c1 => ?_) (fun c1 => ?_)
  · skip
    refine lv_iload_n hx hb dL_of_12 rfl (lv_at hl 1 rfl) ?_
    refine lv_iconst (v := nI 1) hx hb dL_of_13 (by decide) ?_
    refine lw_icmp_ne (tgt := 25) (a := 3) (b := 1) hx hb dL_of_14 (by decide) (by omega) (by omega) (fun c14 => ?_) (fun c14 => ?_)
    · skip
      refine lv_iload_n hx hb dL_of_25 rfl (lv_at hl 1 rfl) ?_
      refine lv_iconst (v := nI 2) hx hb dL_of_26 (by decide) ?_
      refine lw_icmp_ne (tgt := 38) (a := 3) (b := 2) hx hb dL_of_27 (by decide) (by omega) (by omega) (fun c27 => ?_) (fun c27 => ?_)
      · skip
        refine lv_iload_n hx hb dL_of_38 rfl (lv_at hl 1 rfl) ?_
        refine lv_iconst (v := nI 3) hx hb dL_of_39 (by decide) ?_
        refine lw_icmp_ne (tgt := 51) (a := 3) (b := 3) hx hb dL_of_40 (by decide) (by omega) (by omega) (fun c40 => ?_) (fun c40 => ?_)
        · exfalso; omega
        · skip
          refine lv_aload_n hx hb dL_of_43 rfl (lv_at hl 0 rfl) ?_
          refine lv_iload_n hx hb dL_of_44 rfl (lv_at hl 2 rfl) ?_
          refine sg_xcalli hD hS hA (vx_runV (As := [.int i]) (rest := []) ⟨hx, hb, hml, hown, hts⟩ (c_X2_resets l hfl D Y _ _ x aM N aO aL aC P i hQ.self) (cwV 1 hts gL_of_X2_resets rfl rfl rfl (by decide +kernel) ⟨(Nat.le_of_ble_eq_true rfl), (Nat.le_of_ble_eq_true rfl)⟩) (sg_preV (q := (RX2, TX2, 5)) (hQ.1) rfl hK hP hD hN hX hS hA) rfl rfl hl.1 rfl (lv_room (Nat.le_of_ble_eq_true rfl)) dL_of_45 ⟨(Nat.le_of_ble_eq_true rfl), (Nat.le_of_ble_eq_true rfl)⟩) (fun E ce q9 H locs hpx hP hD hS hce hcv hcl => ?_) (fun r2 σ' H locs hw hP hD hS => ?_)
          · obtain ⟨rfl, hn⟩ := hpx
            refine vx_catch hown [] ⟨0, 84, 85, 46⟩ [] htab (fun z hz => absurd hz List.not_mem_nil) rfl (by decide) (hts (.classLink RL 46 "java/lang/IndexOutOfBoundsException") (by decide +kernel)) (va_Nw.use rfl (hN.2.2.1 _ (List.mem_of_getElem? (i := 0) rfl))) hce hcv hcl (W.eq (g2 := F0 m 85 ls [.ref q9]) rfl ?_)
            refine lv_astore (lv' := [(4, .ref q9), (0, .ref x), (1, .int (nI 3)), (2, .int i), (3, .int z3)]) hx hb dL_of_85 hl (by decide) rfl (fun ls hl => ?_)
            refine lv_bipush (v := (-101)) hx hb dL_of_87 (by decide) ?_
            exact vx_ret (sg_iret hx hb hr rfl hlocks hP hD hS (Nat.le_of_ble_eq_true rfl) (Nat.le_of_ble_eq_true rfl) dL_of_89 (Or.inl ⟨hn, rfl, rfl⟩))
          obtain ⟨hr2, hvi, rfl⟩ := hw
          refine lv_goto (tgt := 84) hx hb dL_of_48 (by decide) ?_
          exact vx_ret (sg_iret hx hb hr rfl hlocks hP hD hS (Nat.le_of_ble_eq_true rfl) (Nat.le_of_ble_eq_true rfl) dL_of_84 (Or.inr (⟨hvi, hr2.trans ((resets_A hR hvi).trans hv.symm), rfl⟩)))
      · exfalso; omega
    · exfalso; omega
  · exfalso; omega

set_option maxHeartbeats 4000000 in
set_option maxRecDepth 100000 in
theorem c_L_of4 (l : Launch) (hfl : l.stackTraces = false) (D : va_G) (Y : Nat → ClassId) (σ : sg_W) (sz : Nat) (x : Nat) (M : MS) (N t c : Nat) (i z3 : Int32) (hXX : CX Y x σ M N t c σ) (hc : c < 512) (v : Int32) (hv : v = sH M (tN i) 10) : vx_Met l yL_of wsL_of ({ frames := 8, cells := 1, slots := 6, locals := 133 } : Room) (va_Pc [.ref x, .int (nI 4), .int i, .int z3] (lh_U D Y σ sz)) (va_Qi (fun r σ' => (¬ vp_in i N ∧ r = (-101) ∧ σ = σ') ∨ (vp_in i N ∧ r = v ∧ σ = σ')) (sg_B D σ sz) (sg_A σ sz)) (sg_T9 D σ sz (fun _ => False)) 1 6 (sg_A σ sz) := by
  refine lh_met (cc := cL_of) (maxL := 5) (ret := (some .int)) (hh := [(0, 84, 85, 46)]) (by decide) rfl (Nat.le_of_ble_eq_true rfl) ?_
  intro p e s m below meth cd9 ls hx hb hml htab hr hown hts hlocks hnm hP hK hD hN hC hX hA hS hsz hl
  have hl : lv_has ls 5 [(0, .ref x), (1, .int (nI 4)), (2, .int i), (3, .int z3)] := hl
  obtain ⟨aM, aO, aL, aC, P, hQ, hR, h, hAC, -⟩ := hXX
  refine lv_iload_n hx hb dL_of_0 rfl (lv_at hl 1 rfl) ?_
  refine lw_if_ne (tgt := 12) (a := 4) hx hb dL_of_1 (by decide) (by omega) (fun c1 => ?_) (fun c1 => ?_)
  · skip
    refine lv_iload_n hx hb dL_of_12 rfl (lv_at hl 1 rfl) ?_
    refine lv_iconst (v := nI 1) hx hb dL_of_13 (by decide) ?_
    refine lw_icmp_ne (tgt := 25) (a := 4) (b := 1) hx hb dL_of_14 (by decide) (by omega) (by omega) (fun c14 => ?_) (fun c14 => ?_)
    · skip
      refine lv_iload_n hx hb dL_of_25 rfl (lv_at hl 1 rfl) ?_
      refine lv_iconst (v := nI 2) hx hb dL_of_26 (by decide) ?_
      refine lw_icmp_ne (tgt := 38) (a := 4) (b := 2) hx hb dL_of_27 (by decide) (by omega) (by omega) (fun c27 => ?_) (fun c27 => ?_)
      · skip
        refine lv_iload_n hx hb dL_of_38 rfl (lv_at hl 1 rfl) ?_
        refine lv_iconst (v := nI 3) hx hb dL_of_39 (by decide) ?_
        refine lw_icmp_ne (tgt := 51) (a := 4) (b := 3) hx hb dL_of_40 (by decide) (by omega) (by omega) (fun c40 => ?_) (fun c40 => ?_)
        · skip
          refine lv_iload_n hx hb dL_of_51 rfl (lv_at hl 1 rfl) ?_
          refine lv_iconst (v := nI 4) hx hb dL_of_52 (by decide) ?_
          refine lw_icmp_ne (tgt := 64) (a := 4) (b := 4) hx hb dL_of_53 (by decide) (by omega) (by omega) (fun c53 => ?_) (fun c53 => ?_)
          · exfalso; omega
          · skip
            refine lv_aload_n hx hb dL_of_56 rfl (lv_at hl 0 rfl) ?_
            refine lv_iload_n hx hb dL_of_57 rfl (lv_at hl 2 rfl) ?_
            refine sg_xcalli hD hS hA (vx_runV (As := [.int i]) (rest := []) ⟨hx, hb, hml, hown, hts⟩ (c_X2_shares l hfl D Y _ _ x aM N aO aL aC P i hQ.self) (cwV 1 hts gL_of_X2_shares rfl rfl rfl (by decide +kernel) ⟨(Nat.le_of_ble_eq_true rfl), (Nat.le_of_ble_eq_true rfl)⟩) (sg_preV (q := (RX2, TX2, 5)) (hQ.1) rfl hK hP hD hN hX hS hA) rfl rfl hl.1 rfl (lv_room (Nat.le_of_ble_eq_true rfl)) dL_of_58 ⟨(Nat.le_of_ble_eq_true rfl), (Nat.le_of_ble_eq_true rfl)⟩) (fun E ce q9 H locs hpx hP hD hS hce hcv hcl => ?_) (fun r2 σ' H locs hw hP hD hS => ?_)
            · obtain ⟨rfl, hn⟩ := hpx
              refine vx_catch hown [] ⟨0, 84, 85, 46⟩ [] htab (fun z hz => absurd hz List.not_mem_nil) rfl (by decide) (hts (.classLink RL 46 "java/lang/IndexOutOfBoundsException") (by decide +kernel)) (va_Nw.use rfl (hN.2.2.1 _ (List.mem_of_getElem? (i := 0) rfl))) hce hcv hcl (W.eq (g2 := F0 m 85 ls [.ref q9]) rfl ?_)
              refine lv_astore (lv' := [(4, .ref q9), (0, .ref x), (1, .int (nI 4)), (2, .int i), (3, .int z3)]) hx hb dL_of_85 hl (by decide) rfl (fun ls hl => ?_)
              refine lv_bipush (v := (-101)) hx hb dL_of_87 (by decide) ?_
              exact vx_ret (sg_iret hx hb hr rfl hlocks hP hD hS (Nat.le_of_ble_eq_true rfl) (Nat.le_of_ble_eq_true rfl) dL_of_89 (Or.inl ⟨hn, rfl, rfl⟩))
            obtain ⟨hr2, hvi, rfl⟩ := hw
            refine lv_goto (tgt := 84) hx hb dL_of_61 (by decide) ?_
            exact vx_ret (sg_iret hx hb hr rfl hlocks hP hD hS (Nat.le_of_ble_eq_true rfl) (Nat.le_of_ble_eq_true rfl) dL_of_84 (Or.inr (⟨hvi, hr2.trans ((shares_A hR hvi).trans hv.symm), rfl⟩)))
        · exfalso; omega
      · exfalso; omega
    · exfalso; omega
  · exfalso; omega

set_option maxHeartbeats 4000000 in
set_option maxRecDepth 100000 in
theorem c_L_of5 (l : Launch) (hfl : l.stackTraces = false) (D : va_G) (Y : Nat → ClassId) (σ : sg_W) (sz : Nat) (x : Nat) (M : MS) (N t c : Nat) (i y : Int32) (hXX : CX Y x σ M N t c σ) (hc : c < 512) (v : Int32) (hv : v = rBought M i y) : vx_Met l yL_of wsL_of ({ frames := 8, cells := 3, slots := 18, locals := 136 } : Room) (va_Pc [.ref x, .int (nI 5), .int i, .int y] (lh_U D Y σ sz)) (va_Qi (fun r σ' => (¬ (vp_in i N ∧ qIn y 0 59) ∧ r = (-101) ∧ σ = σ') ∨ ((vp_in i N ∧ qIn y 0 59) ∧ r = v ∧ σ = σ')) (sg_B D σ sz) (sg_A σ sz)) (sg_T9 D σ sz (fun _ => False)) 3 18 (sg_A σ sz) := by
  refine lh_met (cc := cL_of) (maxL := 5) (ret := (some .int)) (hh := [(0, 84, 85, 46)]) (by decide) rfl (Nat.le_of_ble_eq_true rfl) ?_
  intro p e s m below meth cd9 ls hx hb hml htab hr hown hts hlocks hnm hP hK hD hN hC hX hA hS hsz hl
  have hl : lv_has ls 5 [(0, .ref x), (1, .int (nI 5)), (2, .int i), (3, .int y)] := hl
  obtain ⟨aM, aO, aL, aC, P, hQ, hR, h, hAC, -⟩ := hXX
  refine lv_iload_n hx hb dL_of_0 rfl (lv_at hl 1 rfl) ?_
  refine lw_if_ne (tgt := 12) (a := 5) hx hb dL_of_1 (by decide) (by omega) (fun c1 => ?_) (fun c1 => ?_)
  · skip
    refine lv_iload_n hx hb dL_of_12 rfl (lv_at hl 1 rfl) ?_
    refine lv_iconst (v := nI 1) hx hb dL_of_13 (by decide) ?_
    refine lw_icmp_ne (tgt := 25) (a := 5) (b := 1) hx hb dL_of_14 (by decide) (by omega) (by omega) (fun c14 => ?_) (fun c14 => ?_)
    · skip
      refine lv_iload_n hx hb dL_of_25 rfl (lv_at hl 1 rfl) ?_
      refine lv_iconst (v := nI 2) hx hb dL_of_26 (by decide) ?_
      refine lw_icmp_ne (tgt := 38) (a := 5) (b := 2) hx hb dL_of_27 (by decide) (by omega) (by omega) (fun c27 => ?_) (fun c27 => ?_)
      · skip
        refine lv_iload_n hx hb dL_of_38 rfl (lv_at hl 1 rfl) ?_
        refine lv_iconst (v := nI 3) hx hb dL_of_39 (by decide) ?_
        refine lw_icmp_ne (tgt := 51) (a := 5) (b := 3) hx hb dL_of_40 (by decide) (by omega) (by omega) (fun c40 => ?_) (fun c40 => ?_)
        · skip
          refine lv_iload_n hx hb dL_of_51 rfl (lv_at hl 1 rfl) ?_
          refine lv_iconst (v := nI 4) hx hb dL_of_52 (by decide) ?_
          refine lw_icmp_ne (tgt := 64) (a := 5) (b := 4) hx hb dL_of_53 (by decide) (by omega) (by omega) (fun c53 => ?_) (fun c53 => ?_)
          · skip
            refine lv_iload_n hx hb dL_of_64 rfl (lv_at hl 1 rfl) ?_
            refine lv_iconst (v := nI 5) hx hb dL_of_65 (by decide) ?_
            refine lw_icmp_ne (tgt := 78) (a := 5) (b := 5) hx hb dL_of_66 (by decide) (by omega) (by omega) (fun c66 => ?_) (fun c66 => ?_)
            · exfalso; omega
            · skip
              refine lv_aload_n hx hb dL_of_69 rfl (lv_at hl 0 rfl) ?_
              refine lv_iload_n hx hb dL_of_70 rfl (lv_at hl 2 rfl) ?_
              refine lv_iload_n hx hb dL_of_71 rfl (lv_at hl 3 rfl) ?_
              refine sg_xcalli hD hS hA (vx_runV (As := [.int i, .int y]) (rest := []) ⟨hx, hb, hml, hown, hts⟩ (c_X2_bought l hfl D Y _ _ x aM N aO aL aC P i y hQ.self) (cwV 2 hts gL_of_X2_bought rfl rfl rfl (by decide +kernel) ⟨(Nat.le_of_ble_eq_true rfl), (Nat.le_of_ble_eq_true rfl)⟩) (sg_preV (q := (RX2, TX2, 5)) (hQ.1) rfl hK hP hD hN hX hS hA) rfl rfl hl.1 rfl (lv_room (Nat.le_of_ble_eq_true rfl)) dL_of_72 ⟨(Nat.le_of_ble_eq_true rfl), (Nat.le_of_ble_eq_true rfl)⟩) (fun E ce q9 H locs hpx hP hD hS hce hcv hcl => ?_) (fun r2 σ' H locs hw hP hD hS => ?_)
              · obtain ⟨rfl, hn⟩ := hpx
                refine vx_catch hown [] ⟨0, 84, 85, 46⟩ [] htab (fun z hz => absurd hz List.not_mem_nil) rfl (by decide) (hts (.classLink RL 46 "java/lang/IndexOutOfBoundsException") (by decide +kernel)) (va_Nw.use rfl (hN.2.2.1 _ (List.mem_of_getElem? (i := 0) rfl))) hce hcv hcl (W.eq (g2 := F0 m 85 ls [.ref q9]) rfl ?_)
                refine lv_astore (lv' := [(4, .ref q9), (0, .ref x), (1, .int (nI 5)), (2, .int i), (3, .int y)]) hx hb dL_of_85 hl (by decide) rfl (fun ls hl => ?_)
                refine lv_bipush (v := (-101)) hx hb dL_of_87 (by decide) ?_
                exact vx_ret (sg_iret hx hb hr rfl hlocks hP hD hS (Nat.le_of_ble_eq_true rfl) (Nat.le_of_ble_eq_true rfl) dL_of_89 (Or.inl ⟨hn, rfl, rfl⟩))
              obtain ⟨hr2, ⟨hvi, hqy⟩, rfl⟩ := hw
              refine lv_goto (tgt := 84) hx hb dL_of_75 (by decide) ?_
              exact vx_ret (sg_iret hx hb hr rfl hlocks hP hD hS (Nat.le_of_ble_eq_true rfl) (Nat.le_of_ble_eq_true rfl) dL_of_84 (Or.inr (⟨⟨hvi, hqy⟩, hr2.trans ((bought_A h hR hvi hqy).trans hv.symm), rfl⟩)))
          · exfalso; omega
        · exfalso; omega
      · exfalso; omega
    · exfalso; omega
  · exfalso; omega

set_option maxHeartbeats 4000000 in
set_option maxRecDepth 100000 in
theorem c_L_of6 (l : Launch) (hfl : l.stackTraces = false) (D : va_G) (Y : Nat → ClassId) (σ : sg_W) (sz : Nat) (x : Nat) (M : MS) (N t c : Nat) (i y : Int32) (hXX : CX Y x σ M N t c σ) (hc : c < 512) (v : Int32) (hv : v = rPaid M i y) : vx_Met l yL_of wsL_of ({ frames := 8, cells := 3, slots := 18, locals := 136 } : Room) (va_Pc [.ref x, .int (nI 6), .int i, .int y] (lh_U D Y σ sz)) (va_Qi (fun r σ' => (¬ (vp_in i N ∧ qIn y 0 59) ∧ r = (-101) ∧ σ = σ') ∨ ((vp_in i N ∧ qIn y 0 59) ∧ r = v ∧ σ = σ')) (sg_B D σ sz) (sg_A σ sz)) (sg_T9 D σ sz (fun _ => False)) 3 18 (sg_A σ sz) := by
  refine lh_met (cc := cL_of) (maxL := 5) (ret := (some .int)) (hh := [(0, 84, 85, 46)]) (by decide) rfl (Nat.le_of_ble_eq_true rfl) ?_
  intro p e s m below meth cd9 ls hx hb hml htab hr hown hts hlocks hnm hP hK hD hN hC hX hA hS hsz hl
  have hl : lv_has ls 5 [(0, .ref x), (1, .int (nI 6)), (2, .int i), (3, .int y)] := hl
  obtain ⟨aM, aO, aL, aC, P, hQ, hR, h, hAC, -⟩ := hXX
  refine lv_iload_n hx hb dL_of_0 rfl (lv_at hl 1 rfl) ?_
  refine lw_if_ne (tgt := 12) (a := 6) hx hb dL_of_1 (by decide) (by omega) (fun c1 => ?_) (fun c1 => ?_)
  · skip
    refine lv_iload_n hx hb dL_of_12 rfl (lv_at hl 1 rfl) ?_
    refine lv_iconst (v := nI 1) hx hb dL_of_13 (by decide) ?_
    refine lw_icmp_ne (tgt := 25) (a := 6) (b := 1) hx hb dL_of_14 (by decide) (by omega) (by omega) (fun c14 => ?_) (fun c14 => ?_)
    · skip
      refine lv_iload_n hx hb dL_of_25 rfl (lv_at hl 1 rfl) ?_
      refine lv_iconst (v := nI 2) hx hb dL_of_26 (by decide) ?_
      refine lw_icmp_ne (tgt := 38) (a := 6) (b := 2) hx hb dL_of_27 (by decide) (by omega) (by omega) (fun c27 => ?_) (fun c27 => ?_)
      · skip
        refine lv_iload_n hx hb dL_of_38 rfl (lv_at hl 1 rfl) ?_
        refine lv_iconst (v := nI 3) hx hb dL_of_39 (by decide) ?_
        refine lw_icmp_ne (tgt := 51) (a := 6) (b := 3) hx hb dL_of_40 (by decide) (by omega) (by omega) (fun c40 => ?_) (fun c40 => ?_)
        · skip
          refine lv_iload_n hx hb dL_of_51 rfl (lv_at hl 1 rfl) ?_
          refine lv_iconst (v := nI 4) hx hb dL_of_52 (by decide) ?_
          refine lw_icmp_ne (tgt := 64) (a := 6) (b := 4) hx hb dL_of_53 (by decide) (by omega) (by omega) (fun c53 => ?_) (fun c53 => ?_)
          · skip
            refine lv_iload_n hx hb dL_of_64 rfl (lv_at hl 1 rfl) ?_
            refine lv_iconst (v := nI 5) hx hb dL_of_65 (by decide) ?_
            refine lw_icmp_ne (tgt := 78) (a := 6) (b := 5) hx hb dL_of_66 (by decide) (by omega) (by omega) (fun c66 => ?_) (fun c66 => ?_)
            · skip
              refine lv_aload_n hx hb dL_of_78 rfl (lv_at hl 0 rfl) ?_
              refine lv_iload_n hx hb dL_of_79 rfl (lv_at hl 2 rfl) ?_
              refine lv_iload_n hx hb dL_of_80 rfl (lv_at hl 3 rfl) ?_
              refine sg_xcalli hD hS hA (vx_runV (As := [.int i, .int y]) (rest := []) ⟨hx, hb, hml, hown, hts⟩ (c_X2_paidEach l hfl D Y _ _ x aM N aO aL aC P i y hQ.self) (cwV 2 hts gL_of_X2_paidEach rfl rfl rfl (by decide +kernel) ⟨(Nat.le_of_ble_eq_true rfl), (Nat.le_of_ble_eq_true rfl)⟩) (sg_preV (q := (RX2, TX2, 5)) (hQ.1) rfl hK hP hD hN hX hS hA) rfl rfl hl.1 rfl (lv_room (Nat.le_of_ble_eq_true rfl)) dL_of_81 ⟨(Nat.le_of_ble_eq_true rfl), (Nat.le_of_ble_eq_true rfl)⟩) (fun E ce q9 H locs hpx hP hD hS hce hcv hcl => ?_) (fun r2 σ' H locs hw hP hD hS => ?_)
              · obtain ⟨rfl, hn⟩ := hpx
                refine vx_catch hown [] ⟨0, 84, 85, 46⟩ [] htab (fun z hz => absurd hz List.not_mem_nil) rfl (by decide) (hts (.classLink RL 46 "java/lang/IndexOutOfBoundsException") (by decide +kernel)) (va_Nw.use rfl (hN.2.2.1 _ (List.mem_of_getElem? (i := 0) rfl))) hce hcv hcl (W.eq (g2 := F0 m 85 ls [.ref q9]) rfl ?_)
                refine lv_astore (lv' := [(4, .ref q9), (0, .ref x), (1, .int (nI 6)), (2, .int i), (3, .int y)]) hx hb dL_of_85 hl (by decide) rfl (fun ls hl => ?_)
                refine lv_bipush (v := (-101)) hx hb dL_of_87 (by decide) ?_
                exact vx_ret (sg_iret hx hb hr rfl hlocks hP hD hS (Nat.le_of_ble_eq_true rfl) (Nat.le_of_ble_eq_true rfl) dL_of_89 (Or.inl ⟨hn, rfl, rfl⟩))
              obtain ⟨hr2, ⟨hvi, hqy⟩, rfl⟩ := hw
              exact vx_ret (sg_iret hx hb hr rfl hlocks hP hD hS (Nat.le_of_ble_eq_true rfl) (Nat.le_of_ble_eq_true rfl) dL_of_84 (Or.inr (⟨⟨hvi, hqy⟩, hr2.trans ((paidEach_A h hR hvi hqy).trans hv.symm), rfl⟩)))
            · exfalso; omega
          · exfalso; omega
        · exfalso; omega
      · exfalso; omega
    · exfalso; omega
  · exfalso; omega

set_option maxHeartbeats 4000000 in
set_option maxRecDepth 100000 in
theorem c_L_sum0 (l : Launch) (hfl : l.stackTraces = false) (D : va_G) (Y : Nat → ClassId) (σ : sg_W) (sz : Nat) (x : Nat) (M : MS) (N t c : Nat) (i y : Int32) (hXX : CX Y x σ M N t c σ) (hc : c < 512) (v : Int64) (hv : v = cN M (tN i) (tN y)) : vx_Met l yL_sum wsL_sum ({ frames := 8, cells := 3, slots := 18, locals := 135 } : Room) (va_Pc [.ref x, .int (nI 0), .int i, .int y] (lh_U D Y σ sz)) (va_Ql (fun r σ' => (¬ (vp_in i N ∧ qIn y 0 4) ∧ r = (-987654321987654321) ∧ σ = σ') ∨ ((vp_in i N ∧ qIn y 0 4) ∧ r = v ∧ σ = σ')) (sg_B D σ sz) (sg_A σ sz)) (sg_T9 D σ sz (fun _ => False)) 3 18 (sg_A σ sz) := by
  refine lh_met (cc := cL_sum) (maxL := 5) (ret := (some .long)) (hh := [(0, 70, 71, 46)]) (by decide) rfl (Nat.le_of_ble_eq_true rfl) ?_
  intro p e s m below meth cd9 ls hx hb hml htab hr hown hts hlocks hnm hP hK hD hN hC hX hA hS hsz hl
  have hl : lv_has ls 5 [(0, .ref x), (1, .int (nI 0)), (2, .int i), (3, .int y)] := hl
  obtain ⟨aM, aO, aL, aC, P, hQ, hR, h, hAC, -⟩ := hXX
  refine lv_iload_n hx hb dL_sum_0 rfl (lv_at hl 1 rfl) ?_
  refine lw_if_ne (tgt := 13) (a := 0) hx hb dL_sum_1 (by decide) (by omega) (fun c1 => ?_) (fun c1 => ?_)
  · exfalso; omega
  · skip
    refine lv_aload_n hx hb dL_sum_4 rfl (lv_at hl 0 rfl) ?_
    refine lv_iload_n hx hb dL_sum_5 rfl (lv_at hl 2 rfl) ?_
    refine lv_iload_n hx hb dL_sum_6 rfl (lv_at hl 3 rfl) ?_
    refine sg_xcalll hD hS hA (vx_runV (As := [.int i, .int y]) (rest := []) ⟨hx, hb, hml, hown, hts⟩ (c_X2_counted l hfl D Y _ _ x aM N aO aL aC P i y hQ.self) (cwV 2 hts gL_sum_X2_counted rfl rfl rfl (by decide +kernel) ⟨(Nat.le_of_ble_eq_true rfl), (Nat.le_of_ble_eq_true rfl)⟩) (sg_preV (q := (RX2, TX2, 5)) (hQ.1) rfl hK hP hD hN hX hS hA) rfl rfl hl.1 rfl (lv_room (Nat.le_of_ble_eq_true rfl)) dL_sum_7 ⟨(Nat.le_of_ble_eq_true rfl), (Nat.le_of_ble_eq_true rfl)⟩) (fun E ce q9 H locs hpx hP hD hS hce hcv hcl => ?_) (fun r2 σ' H locs hw hP hD hS => ?_)
    · obtain ⟨rfl, hn⟩ := hpx
      refine vx_catch hown [] ⟨0, 70, 71, 46⟩ [] htab (fun z hz => absurd hz List.not_mem_nil) rfl (by decide) (hts (.classLink RL 46 "java/lang/IndexOutOfBoundsException") (by decide +kernel)) (va_Nw.use rfl (hN.2.2.1 _ (List.mem_of_getElem? (i := 0) rfl))) hce hcv hcl (W.eq (g2 := F0 m 71 ls [.ref q9]) rfl ?_)
      refine lv_astore (lv' := [(4, .ref q9), (0, .ref x), (1, .int (nI 0)), (2, .int i), (3, .int y)]) hx hb dL_sum_71 hl (by decide) rfl (fun ls hl => ?_)
      refine lv_ldc2 (v := (-987654321987654321)) hx hb hown (hts (.constantLong RL 91 (-987654321987654321)) (by decide +kernel)) dL_sum_73 ?_
      exact vx_ret (sg_lret hx hb hr hlocks hP hD hS (Nat.le_of_ble_eq_true rfl) (Nat.le_of_ble_eq_true rfl) dL_sum_76 (Or.inl ⟨hn, rfl, rfl⟩))
    obtain ⟨hr2, ⟨hvi, hqy⟩, rfl⟩ := hw
    refine lv_goto (tgt := 70) hx hb dL_sum_10 (by decide) ?_
    exact vx_ret (sg_lret hx hb hr hlocks hP hD hS (Nat.le_of_ble_eq_true rfl) (Nat.le_of_ble_eq_true rfl) dL_sum_70 (Or.inr (⟨⟨hvi, hqy⟩, hr2.trans ((counted_A hR hvi hqy).trans hv.symm), rfl⟩)))

set_option maxHeartbeats 4000000 in
set_option maxRecDepth 100000 in
theorem c_L_sum1 (l : Launch) (hfl : l.stackTraces = false) (D : va_G) (Y : Nat → ClassId) (σ : sg_W) (sz : Nat) (x : Nat) (M : MS) (N t c : Nat) (i z3 : Int32) (hXX : CX Y x σ M N t c σ) (hc : c < 512) (v : Int64) (hv : v = sL M 8 (tN i) + (sI M 6 (tN i)).toInt64 + (sI M 7 (tN i)).toInt64) : vx_Met l yL_sum wsL_sum ({ frames := 8, cells := 1, slots := 6, locals := 134 } : Room) (va_Pc [.ref x, .int (nI 1), .int i, .int z3] (lh_U D Y σ sz)) (va_Ql (fun r σ' => (¬ vp_in i N ∧ r = (-987654321987654321) ∧ σ = σ') ∨ (vp_in i N ∧ r = v ∧ σ = σ')) (sg_B D σ sz) (sg_A σ sz)) (sg_T9 D σ sz (fun _ => False)) 1 6 (sg_A σ sz) := by
  refine lh_met (cc := cL_sum) (maxL := 5) (ret := (some .long)) (hh := [(0, 70, 71, 46)]) (by decide) rfl (Nat.le_of_ble_eq_true rfl) ?_
  intro p e s m below meth cd9 ls hx hb hml htab hr hown hts hlocks hnm hP hK hD hN hC hX hA hS hsz hl
  have hl : lv_has ls 5 [(0, .ref x), (1, .int (nI 1)), (2, .int i), (3, .int z3)] := hl
  obtain ⟨aM, aO, aL, aC, P, hQ, hR, h, hAC, -⟩ := hXX
  refine lv_iload_n hx hb dL_sum_0 rfl (lv_at hl 1 rfl) ?_
  refine lw_if_ne (tgt := 13) (a := 1) hx hb dL_sum_1 (by decide) (by omega) (fun c1 => ?_) (fun c1 => ?_)
  · skip
    refine lv_iload_n hx hb dL_sum_13 rfl (lv_at hl 1 rfl) ?_
    refine lv_iconst (v := nI 1) hx hb dL_sum_14 (by decide) ?_
    refine lw_icmp_ne (tgt := 26) (a := 1) (b := 1) hx hb dL_sum_15 (by decide) (by omega) (by omega) (fun c15 => ?_) (fun c15 => ?_)
    · exfalso; omega
    · skip
      refine lv_aload_n hx hb dL_sum_18 rfl (lv_at hl 0 rfl) ?_
      refine lv_iload_n hx hb dL_sum_19 rfl (lv_at hl 2 rfl) ?_
      refine sg_xcalll hD hS hA (vx_runV (As := [.int i]) (rest := []) ⟨hx, hb, hml, hown, hts⟩ (c_X2_traced l hfl D Y _ _ x aM N aO aL aC P i hQ.self) (cwV 1 hts gL_sum_X2_traced rfl rfl rfl (by decide +kernel) ⟨(Nat.le_of_ble_eq_true rfl), (Nat.le_of_ble_eq_true rfl)⟩) (sg_preV (q := (RX2, TX2, 5)) (hQ.1) rfl hK hP hD hN hX hS hA) rfl rfl hl.1 rfl (lv_room (Nat.le_of_ble_eq_true rfl)) dL_sum_20 ⟨(Nat.le_of_ble_eq_true rfl), (Nat.le_of_ble_eq_true rfl)⟩) (fun E ce q9 H locs hpx hP hD hS hce hcv hcl => ?_) (fun r2 σ' H locs hw hP hD hS => ?_)
      · obtain ⟨rfl, hn⟩ := hpx
        refine vx_catch hown [] ⟨0, 70, 71, 46⟩ [] htab (fun z hz => absurd hz List.not_mem_nil) rfl (by decide) (hts (.classLink RL 46 "java/lang/IndexOutOfBoundsException") (by decide +kernel)) (va_Nw.use rfl (hN.2.2.1 _ (List.mem_of_getElem? (i := 0) rfl))) hce hcv hcl (W.eq (g2 := F0 m 71 ls [.ref q9]) rfl ?_)
        refine lv_astore (lv' := [(4, .ref q9), (0, .ref x), (1, .int (nI 1)), (2, .int i), (3, .int z3)]) hx hb dL_sum_71 hl (by decide) rfl (fun ls hl => ?_)
        refine lv_ldc2 (v := (-987654321987654321)) hx hb hown (hts (.constantLong RL 91 (-987654321987654321)) (by decide +kernel)) dL_sum_73 ?_
        exact vx_ret (sg_lret hx hb hr hlocks hP hD hS (Nat.le_of_ble_eq_true rfl) (Nat.le_of_ble_eq_true rfl) dL_sum_76 (Or.inl ⟨hn, rfl, rfl⟩))
      obtain ⟨hr2, hvi, rfl⟩ := hw
      refine lv_goto (tgt := 70) hx hb dL_sum_23 (by decide) ?_
      exact vx_ret (sg_lret hx hb hr hlocks hP hD hS (Nat.le_of_ble_eq_true rfl) (Nat.le_of_ble_eq_true rfl) dL_sum_70 (Or.inr (⟨hvi, hr2.trans ((traced_A hR hvi).trans hv.symm), rfl⟩)))
  · exfalso; omega

set_option maxHeartbeats 4000000 in
set_option maxRecDepth 100000 in
theorem c_L_sum2 (l : Launch) (hfl : l.stackTraces = false) (D : va_G) (Y : Nat → ClassId) (σ : sg_W) (sz : Nat) (x : Nat) (M : MS) (N t c : Nat) (i z3 : Int32) (hXX : CX Y x σ M N t c σ) (hc : c < 512) (v : Int64) (hv : v = sL M 9 (tN i)) : vx_Met l yL_sum wsL_sum ({ frames := 8, cells := 1, slots := 6, locals := 133 } : Room) (va_Pc [.ref x, .int (nI 2), .int i, .int z3] (lh_U D Y σ sz)) (va_Ql (fun r σ' => (¬ vp_in i N ∧ r = (-987654321987654321) ∧ σ = σ') ∨ (vp_in i N ∧ r = v ∧ σ = σ')) (sg_B D σ sz) (sg_A σ sz)) (sg_T9 D σ sz (fun _ => False)) 1 6 (sg_A σ sz) := by
  refine lh_met (cc := cL_sum) (maxL := 5) (ret := (some .long)) (hh := [(0, 70, 71, 46)]) (by decide) rfl (Nat.le_of_ble_eq_true rfl) ?_
  intro p e s m below meth cd9 ls hx hb hml htab hr hown hts hlocks hnm hP hK hD hN hC hX hA hS hsz hl
  have hl : lv_has ls 5 [(0, .ref x), (1, .int (nI 2)), (2, .int i), (3, .int z3)] := hl
  obtain ⟨aM, aO, aL, aC, P, hQ, hR, h, hAC, -⟩ := hXX
  refine lv_iload_n hx hb dL_sum_0 rfl (lv_at hl 1 rfl) ?_
  refine lw_if_ne (tgt := 13) (a := 2) hx hb dL_sum_1 (by decide) (by omega) (fun c1 => ?_) (fun c1 => ?_)
  · skip
    refine lv_iload_n hx hb dL_sum_13 rfl (lv_at hl 1 rfl) ?_
    refine lv_iconst (v := nI 1) hx hb dL_sum_14 (by decide) ?_
    refine lw_icmp_ne (tgt := 26) (a := 2) (b := 1) hx hb dL_sum_15 (by decide) (by omega) (by omega) (fun c15 => ?_) (fun c15 => ?_)
    · skip
      refine lv_iload_n hx hb dL_sum_26 rfl (lv_at hl 1 rfl) ?_
      refine lv_iconst (v := nI 2) hx hb dL_sum_27 (by decide) ?_
      refine lw_icmp_ne (tgt := 39) (a := 2) (b := 2) hx hb dL_sum_28 (by decide) (by omega) (by omega) (fun c28 => ?_) (fun c28 => ?_)
      · exfalso; omega
      · skip
        refine lv_aload_n hx hb dL_sum_31 rfl (lv_at hl 0 rfl) ?_
        refine lv_iload_n hx hb dL_sum_32 rfl (lv_at hl 2 rfl) ?_
        refine sg_xcalll hD hS hA (vx_runV (As := [.int i]) (rest := []) ⟨hx, hb, hml, hown, hts⟩ (c_X2_kept l hfl D Y _ _ x aM N aO aL aC P i hQ.self) (cwV 1 hts gL_sum_X2_kept rfl rfl rfl (by decide +kernel) ⟨(Nat.le_of_ble_eq_true rfl), (Nat.le_of_ble_eq_true rfl)⟩) (sg_preV (q := (RX2, TX2, 5)) (hQ.1) rfl hK hP hD hN hX hS hA) rfl rfl hl.1 rfl (lv_room (Nat.le_of_ble_eq_true rfl)) dL_sum_33 ⟨(Nat.le_of_ble_eq_true rfl), (Nat.le_of_ble_eq_true rfl)⟩) (fun E ce q9 H locs hpx hP hD hS hce hcv hcl => ?_) (fun r2 σ' H locs hw hP hD hS => ?_)
        · obtain ⟨rfl, hn⟩ := hpx
          refine vx_catch hown [] ⟨0, 70, 71, 46⟩ [] htab (fun z hz => absurd hz List.not_mem_nil) rfl (by decide) (hts (.classLink RL 46 "java/lang/IndexOutOfBoundsException") (by decide +kernel)) (va_Nw.use rfl (hN.2.2.1 _ (List.mem_of_getElem? (i := 0) rfl))) hce hcv hcl (W.eq (g2 := F0 m 71 ls [.ref q9]) rfl ?_)
          refine lv_astore (lv' := [(4, .ref q9), (0, .ref x), (1, .int (nI 2)), (2, .int i), (3, .int z3)]) hx hb dL_sum_71 hl (by decide) rfl (fun ls hl => ?_)
          refine lv_ldc2 (v := (-987654321987654321)) hx hb hown (hts (.constantLong RL 91 (-987654321987654321)) (by decide +kernel)) dL_sum_73 ?_
          exact vx_ret (sg_lret hx hb hr hlocks hP hD hS (Nat.le_of_ble_eq_true rfl) (Nat.le_of_ble_eq_true rfl) dL_sum_76 (Or.inl ⟨hn, rfl, rfl⟩))
        obtain ⟨hr2, hvi, rfl⟩ := hw
        refine lv_goto (tgt := 70) hx hb dL_sum_36 (by decide) ?_
        exact vx_ret (sg_lret hx hb hr hlocks hP hD hS (Nat.le_of_ble_eq_true rfl) (Nat.le_of_ble_eq_true rfl) dL_sum_70 (Or.inr (⟨hvi, hr2.trans ((kept_A hR hvi).trans hv.symm), rfl⟩)))
    · exfalso; omega
  · exfalso; omega

set_option maxHeartbeats 4000000 in
set_option maxRecDepth 100000 in
theorem c_L_sum3 (l : Launch) (hfl : l.stackTraces = false) (D : va_G) (Y : Nat → ClassId) (σ : sg_W) (sz : Nat) (x : Nat) (M : MS) (N t c : Nat) (i z3 : Int32) (hXX : CX Y x σ M N t c σ) (hc : c < 512) (v : Int64) (hv : v = sL M 13 (tN i)) : vx_Met l yL_sum wsL_sum ({ frames := 8, cells := 1, slots := 6, locals := 133 } : Room) (va_Pc [.ref x, .int (nI 3), .int i, .int z3] (lh_U D Y σ sz)) (va_Ql (fun r σ' => (¬ vp_in i N ∧ r = (-987654321987654321) ∧ σ = σ') ∨ (vp_in i N ∧ r = v ∧ σ = σ')) (sg_B D σ sz) (sg_A σ sz)) (sg_T9 D σ sz (fun _ => False)) 1 6 (sg_A σ sz) := by
  refine lh_met (cc := cL_sum) (maxL := 5) (ret := (some .long)) (hh := [(0, 70, 71, 46)]) (by decide) rfl (Nat.le_of_ble_eq_true rfl) ?_
  intro p e s m below meth cd9 ls hx hb hml htab hr hown hts hlocks hnm hP hK hD hN hC hX hA hS hsz hl
  have hl : lv_has ls 5 [(0, .ref x), (1, .int (nI 3)), (2, .int i), (3, .int z3)] := hl
  obtain ⟨aM, aO, aL, aC, P, hQ, hR, h, hAC, -⟩ := hXX
  refine lv_iload_n hx hb dL_sum_0 rfl (lv_at hl 1 rfl) ?_
  refine lw_if_ne (tgt := 13) (a := 3) hx hb dL_sum_1 (by decide) (by omega) (fun c1 => ?_) (fun c1 => ?_)
  · skip
    refine lv_iload_n hx hb dL_sum_13 rfl (lv_at hl 1 rfl) ?_
    refine lv_iconst (v := nI 1) hx hb dL_sum_14 (by decide) ?_
    refine lw_icmp_ne (tgt := 26) (a := 3) (b := 1) hx hb dL_sum_15 (by decide) (by omega) (by omega) (fun c15 => ?_) (fun c15 => ?_)
    · skip
      refine lv_iload_n hx hb dL_sum_26 rfl (lv_at hl 1 rfl) ?_
      refine lv_iconst (v := nI 2) hx hb dL_sum_27 (by decide) ?_
      refine lw_icmp_ne (tgt := 39) (a := 3) (b := 2) hx hb dL_sum_28 (by decide) (by omega) (by omega) (fun c28 => ?_) (fun c28 => ?_)
      · skip
        refine lv_iload_n hx hb dL_sum_39 rfl (lv_at hl 1 rfl) ?_
        refine lv_iconst (v := nI 3) hx hb dL_sum_40 (by decide) ?_
        refine lw_icmp_ne (tgt := 52) (a := 3) (b := 3) hx hb dL_sum_41 (by decide) (by omega) (by omega) (fun c41 => ?_) (fun c41 => ?_)
        · exfalso; omega
        · skip
          refine lv_aload_n hx hb dL_sum_44 rfl (lv_at hl 0 rfl) ?_
          refine lv_iload_n hx hb dL_sum_45 rfl (lv_at hl 2 rfl) ?_
          refine sg_xcalll hD hS hA (vx_runV (As := [.int i]) (rest := []) ⟨hx, hb, hml, hown, hts⟩ (c_X2_pay l hfl D Y _ _ x aM N aO aL aC P i hQ.self) (cwV 1 hts gL_sum_X2_pay rfl rfl rfl (by decide +kernel) ⟨(Nat.le_of_ble_eq_true rfl), (Nat.le_of_ble_eq_true rfl)⟩) (sg_preV (q := (RX2, TX2, 5)) (hQ.1) rfl hK hP hD hN hX hS hA) rfl rfl hl.1 rfl (lv_room (Nat.le_of_ble_eq_true rfl)) dL_sum_46 ⟨(Nat.le_of_ble_eq_true rfl), (Nat.le_of_ble_eq_true rfl)⟩) (fun E ce q9 H locs hpx hP hD hS hce hcv hcl => ?_) (fun r2 σ' H locs hw hP hD hS => ?_)
          · obtain ⟨rfl, hn⟩ := hpx
            refine vx_catch hown [] ⟨0, 70, 71, 46⟩ [] htab (fun z hz => absurd hz List.not_mem_nil) rfl (by decide) (hts (.classLink RL 46 "java/lang/IndexOutOfBoundsException") (by decide +kernel)) (va_Nw.use rfl (hN.2.2.1 _ (List.mem_of_getElem? (i := 0) rfl))) hce hcv hcl (W.eq (g2 := F0 m 71 ls [.ref q9]) rfl ?_)
            refine lv_astore (lv' := [(4, .ref q9), (0, .ref x), (1, .int (nI 3)), (2, .int i), (3, .int z3)]) hx hb dL_sum_71 hl (by decide) rfl (fun ls hl => ?_)
            refine lv_ldc2 (v := (-987654321987654321)) hx hb hown (hts (.constantLong RL 91 (-987654321987654321)) (by decide +kernel)) dL_sum_73 ?_
            exact vx_ret (sg_lret hx hb hr hlocks hP hD hS (Nat.le_of_ble_eq_true rfl) (Nat.le_of_ble_eq_true rfl) dL_sum_76 (Or.inl ⟨hn, rfl, rfl⟩))
          obtain ⟨hr2, hvi, rfl⟩ := hw
          refine lv_goto (tgt := 70) hx hb dL_sum_49 (by decide) ?_
          exact vx_ret (sg_lret hx hb hr hlocks hP hD hS (Nat.le_of_ble_eq_true rfl) (Nat.le_of_ble_eq_true rfl) dL_sum_70 (Or.inr (⟨hvi, hr2.trans ((pay_A hR hvi).trans hv.symm), rfl⟩)))
      · exfalso; omega
    · exfalso; omega
  · exfalso; omega

set_option maxHeartbeats 4000000 in
set_option maxRecDepth 100000 in
theorem c_L_sum4 (l : Launch) (hfl : l.stackTraces = false) (D : va_G) (Y : Nat → ClassId) (σ : sg_W) (sz : Nat) (x : Nat) (M : MS) (N t c : Nat) (i z3 : Int32) (hXX : CX Y x σ M N t c σ) (hc : c < 512) (v : Int64) (hv : v = sL M 14 (tN i)) : vx_Met l yL_sum wsL_sum ({ frames := 8, cells := 1, slots := 6, locals := 133 } : Room) (va_Pc [.ref x, .int (nI 4), .int i, .int z3] (lh_U D Y σ sz)) (va_Ql (fun r σ' => (¬ vp_in i N ∧ r = (-987654321987654321) ∧ σ = σ') ∨ (vp_in i N ∧ r = v ∧ σ = σ')) (sg_B D σ sz) (sg_A σ sz)) (sg_T9 D σ sz (fun _ => False)) 1 6 (sg_A σ sz) := by
  refine lh_met (cc := cL_sum) (maxL := 5) (ret := (some .long)) (hh := [(0, 70, 71, 46)]) (by decide) rfl (Nat.le_of_ble_eq_true rfl) ?_
  intro p e s m below meth cd9 ls hx hb hml htab hr hown hts hlocks hnm hP hK hD hN hC hX hA hS hsz hl
  have hl : lv_has ls 5 [(0, .ref x), (1, .int (nI 4)), (2, .int i), (3, .int z3)] := hl
  obtain ⟨aM, aO, aL, aC, P, hQ, hR, h, hAC, -⟩ := hXX
  refine lv_iload_n hx hb dL_sum_0 rfl (lv_at hl 1 rfl) ?_
  refine lw_if_ne (tgt := 13) (a := 4) hx hb dL_sum_1 (by decide) (by omega) (fun c1 => ?_) (fun c1 => ?_)
  · skip
    refine lv_iload_n hx hb dL_sum_13 rfl (lv_at hl 1 rfl) ?_
    refine lv_iconst (v := nI 1) hx hb dL_sum_14 (by decide) ?_
    refine lw_icmp_ne (tgt := 26) (a := 4) (b := 1) hx hb dL_sum_15 (by decide) (by omega) (by omega) (fun c15 => ?_) (fun c15 => ?_)
    · skip
      refine lv_iload_n hx hb dL_sum_26 rfl (lv_at hl 1 rfl) ?_
      refine lv_iconst (v := nI 2) hx hb dL_sum_27 (by decide) ?_
      refine lw_icmp_ne (tgt := 39) (a := 4) (b := 2) hx hb dL_sum_28 (by decide) (by omega) (by omega) (fun c28 => ?_) (fun c28 => ?_)
      · skip
        refine lv_iload_n hx hb dL_sum_39 rfl (lv_at hl 1 rfl) ?_
        refine lv_iconst (v := nI 3) hx hb dL_sum_40 (by decide) ?_
        refine lw_icmp_ne (tgt := 52) (a := 4) (b := 3) hx hb dL_sum_41 (by decide) (by omega) (by omega) (fun c41 => ?_) (fun c41 => ?_)
        · skip
          refine lv_iload_n hx hb dL_sum_52 rfl (lv_at hl 1 rfl) ?_
          refine lv_iconst (v := nI 4) hx hb dL_sum_53 (by decide) ?_
          refine lw_icmp_ne (tgt := 65) (a := 4) (b := 4) hx hb dL_sum_54 (by decide) (by omega) (by omega) (fun c54 => ?_) (fun c54 => ?_)
          · exfalso; omega
          · skip
            refine lv_aload_n hx hb dL_sum_57 rfl (lv_at hl 0 rfl) ?_
            refine lv_iload_n hx hb dL_sum_58 rfl (lv_at hl 2 rfl) ?_
            refine sg_xcalll hD hS hA (vx_runV (As := [.int i]) (rest := []) ⟨hx, hb, hml, hown, hts⟩ (c_X2_gain l hfl D Y _ _ x aM N aO aL aC P i hQ.self) (cwV 1 hts gL_sum_X2_gain rfl rfl rfl (by decide +kernel) ⟨(Nat.le_of_ble_eq_true rfl), (Nat.le_of_ble_eq_true rfl)⟩) (sg_preV (q := (RX2, TX2, 5)) (hQ.1) rfl hK hP hD hN hX hS hA) rfl rfl hl.1 rfl (lv_room (Nat.le_of_ble_eq_true rfl)) dL_sum_59 ⟨(Nat.le_of_ble_eq_true rfl), (Nat.le_of_ble_eq_true rfl)⟩) (fun E ce q9 H locs hpx hP hD hS hce hcv hcl => ?_) (fun r2 σ' H locs hw hP hD hS => ?_)
            · obtain ⟨rfl, hn⟩ := hpx
              refine vx_catch hown [] ⟨0, 70, 71, 46⟩ [] htab (fun z hz => absurd hz List.not_mem_nil) rfl (by decide) (hts (.classLink RL 46 "java/lang/IndexOutOfBoundsException") (by decide +kernel)) (va_Nw.use rfl (hN.2.2.1 _ (List.mem_of_getElem? (i := 0) rfl))) hce hcv hcl (W.eq (g2 := F0 m 71 ls [.ref q9]) rfl ?_)
              refine lv_astore (lv' := [(4, .ref q9), (0, .ref x), (1, .int (nI 4)), (2, .int i), (3, .int z3)]) hx hb dL_sum_71 hl (by decide) rfl (fun ls hl => ?_)
              refine lv_ldc2 (v := (-987654321987654321)) hx hb hown (hts (.constantLong RL 91 (-987654321987654321)) (by decide +kernel)) dL_sum_73 ?_
              exact vx_ret (sg_lret hx hb hr hlocks hP hD hS (Nat.le_of_ble_eq_true rfl) (Nat.le_of_ble_eq_true rfl) dL_sum_76 (Or.inl ⟨hn, rfl, rfl⟩))
            obtain ⟨hr2, hvi, rfl⟩ := hw
            refine lv_goto (tgt := 70) hx hb dL_sum_62 (by decide) ?_
            exact vx_ret (sg_lret hx hb hr hlocks hP hD hS (Nat.le_of_ble_eq_true rfl) (Nat.le_of_ble_eq_true rfl) dL_sum_70 (Or.inr (⟨hvi, hr2.trans ((gain_A hR hvi).trans hv.symm), rfl⟩)))
        · exfalso; omega
      · exfalso; omega
    · exfalso; omega
  · exfalso; omega

set_option maxHeartbeats 4000000 in
set_option maxRecDepth 100000 in
theorem c_L_sum5 (l : Launch) (hfl : l.stackTraces = false) (D : va_G) (Y : Nat → ClassId) (σ : sg_W) (sz : Nat) (x : Nat) (M : MS) (N t c : Nat) (i z3 : Int32) (hXX : CX Y x σ M N t c σ) (hc : c < 512) (v : Int64) (hv : v = gN M (tN i) 10) : vx_Met l yL_sum wsL_sum ({ frames := 8, cells := 1, slots := 6, locals := 133 } : Room) (va_Pc [.ref x, .int (nI 5), .int i, .int z3] (lh_U D Y σ sz)) (va_Ql (fun r σ' => (¬ vp_in i N ∧ r = (-987654321987654321) ∧ σ = σ') ∨ (vp_in i N ∧ r = v ∧ σ = σ')) (sg_B D σ sz) (sg_A σ sz)) (sg_T9 D σ sz (fun _ => False)) 1 6 (sg_A σ sz) := by
  refine lh_met (cc := cL_sum) (maxL := 5) (ret := (some .long)) (hh := [(0, 70, 71, 46)]) (by decide) rfl (Nat.le_of_ble_eq_true rfl) ?_
  intro p e s m below meth cd9 ls hx hb hml htab hr hown hts hlocks hnm hP hK hD hN hC hX hA hS hsz hl
  have hl : lv_has ls 5 [(0, .ref x), (1, .int (nI 5)), (2, .int i), (3, .int z3)] := hl
  obtain ⟨aM, aO, aL, aC, P, hQ, hR, h, hAC, -⟩ := hXX
  refine lv_iload_n hx hb dL_sum_0 rfl (lv_at hl 1 rfl) ?_
  refine lw_if_ne (tgt := 13) (a := 5) hx hb dL_sum_1 (by decide) (by omega) (fun c1 => ?_) (fun c1 => ?_)
  · skip
    refine lv_iload_n hx hb dL_sum_13 rfl (lv_at hl 1 rfl) ?_
    refine lv_iconst (v := nI 1) hx hb dL_sum_14 (by decide) ?_
    refine lw_icmp_ne (tgt := 26) (a := 5) (b := 1) hx hb dL_sum_15 (by decide) (by omega) (by omega) (fun c15 => ?_) (fun c15 => ?_)
    · skip
      refine lv_iload_n hx hb dL_sum_26 rfl (lv_at hl 1 rfl) ?_
      refine lv_iconst (v := nI 2) hx hb dL_sum_27 (by decide) ?_
      refine lw_icmp_ne (tgt := 39) (a := 5) (b := 2) hx hb dL_sum_28 (by decide) (by omega) (by omega) (fun c28 => ?_) (fun c28 => ?_)
      · skip
        refine lv_iload_n hx hb dL_sum_39 rfl (lv_at hl 1 rfl) ?_
        refine lv_iconst (v := nI 3) hx hb dL_sum_40 (by decide) ?_
        refine lw_icmp_ne (tgt := 52) (a := 5) (b := 3) hx hb dL_sum_41 (by decide) (by omega) (by omega) (fun c41 => ?_) (fun c41 => ?_)
        · skip
          refine lv_iload_n hx hb dL_sum_52 rfl (lv_at hl 1 rfl) ?_
          refine lv_iconst (v := nI 4) hx hb dL_sum_53 (by decide) ?_
          refine lw_icmp_ne (tgt := 65) (a := 5) (b := 4) hx hb dL_sum_54 (by decide) (by omega) (by omega) (fun c54 => ?_) (fun c54 => ?_)
          · skip
            refine lv_aload_n hx hb dL_sum_65 rfl (lv_at hl 0 rfl) ?_
            refine lv_iload_n hx hb dL_sum_66 rfl (lv_at hl 2 rfl) ?_
            refine sg_xcalll hD hS hA (vx_runV (As := [.int i]) (rest := []) ⟨hx, hb, hml, hown, hts⟩ (c_X2_gainNow l hfl D Y _ _ x aM N aO aL aC P i hQ.self) (cwV 1 hts gL_sum_X2_gainNow rfl rfl rfl (by decide +kernel) ⟨(Nat.le_of_ble_eq_true rfl), (Nat.le_of_ble_eq_true rfl)⟩) (sg_preV (q := (RX2, TX2, 5)) (hQ.1) rfl hK hP hD hN hX hS hA) rfl rfl hl.1 rfl (lv_room (Nat.le_of_ble_eq_true rfl)) dL_sum_67 ⟨(Nat.le_of_ble_eq_true rfl), (Nat.le_of_ble_eq_true rfl)⟩) (fun E ce q9 H locs hpx hP hD hS hce hcv hcl => ?_) (fun r2 σ' H locs hw hP hD hS => ?_)
            · obtain ⟨rfl, hn⟩ := hpx
              refine vx_catch hown [] ⟨0, 70, 71, 46⟩ [] htab (fun z hz => absurd hz List.not_mem_nil) rfl (by decide) (hts (.classLink RL 46 "java/lang/IndexOutOfBoundsException") (by decide +kernel)) (va_Nw.use rfl (hN.2.2.1 _ (List.mem_of_getElem? (i := 0) rfl))) hce hcv hcl (W.eq (g2 := F0 m 71 ls [.ref q9]) rfl ?_)
              refine lv_astore (lv' := [(4, .ref q9), (0, .ref x), (1, .int (nI 5)), (2, .int i), (3, .int z3)]) hx hb dL_sum_71 hl (by decide) rfl (fun ls hl => ?_)
              refine lv_ldc2 (v := (-987654321987654321)) hx hb hown (hts (.constantLong RL 91 (-987654321987654321)) (by decide +kernel)) dL_sum_73 ?_
              exact vx_ret (sg_lret hx hb hr hlocks hP hD hS (Nat.le_of_ble_eq_true rfl) (Nat.le_of_ble_eq_true rfl) dL_sum_76 (Or.inl ⟨hn, rfl, rfl⟩))
            obtain ⟨hr2, hvi, rfl⟩ := hw
            exact vx_ret (sg_lret hx hb hr hlocks hP hD hS (Nat.le_of_ble_eq_true rfl) (Nat.le_of_ble_eq_true rfl) dL_sum_70 (Or.inr (⟨hvi, hr2.trans ((gainNow_A h hR hvi).trans hv.symm), rfl⟩)))
          · exfalso; omega
        · exfalso; omega
      · exfalso; omega
    · exfalso; omega
  · exfalso; omega
