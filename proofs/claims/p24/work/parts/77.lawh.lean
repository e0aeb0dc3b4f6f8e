theorem now_ge {M : MS} {N t c : Nat} (h : IV M N t c 7) (h0 : 0 < t) : 0 ≤ sS M 0 := by
  have h6 := h.1.2.1
  rw [h.now h0]
  exact nI_pos' (by omega)
theorem AC_nx {qs : Nat → Nat} {P : PS} {N : Nat} {a b : Int32} {q : Prop} {dq : Decidable q} (h : AC P N) : AC (uPS (uPS (if q then pAll qs N P 6 else P) 2 a) 3 b) N := by
  intro i hi
  rw [pC_uPS, pC_uPS]
  split
  · exact AC_all h 6 i hi
  · exact h i hi
set_option maxHeartbeats 4000000 in
set_option maxRecDepth 100000 in
theorem c_L_begun (l : Launch) (hfl : l.stackTraces = false) (D : va_G) (Y : Nat → ClassId) (σ : sg_W) (sz : Nat) (x : Nat) (M : MS) (N t c : Nat) (y : Int32) (hXX : CX Y x σ M N t c σ) (hc : c < 512) : vx_Met l yL_begun wsL_begun ({ frames := 7, cells := 6, slots := 42, locals := 111 } : Room) (va_Pc [.ref x, .int y] (lh_U D Y σ sz)) (va_Qi (fun r σ' => (¬ qIn y 1 100000 ∧ r = (-101) ∧ σ = σ') ∨ ((qIn y 1 100000 ∧ ¬ t < 60) ∧ r = (-102) ∧ σ = σ') ∨ ((qIn y 1 100000 ∧ t < 60) ∧ r = nI t ∧ CX Y x σ (nNext M y) N (t + 1) (c + 1) σ')) (sg_B D σ sz) (sg_A σ sz)) (sg_T9 D σ sz (fun _ => False)) 6 42 (sg_A σ sz) := by
  refine lh_met (cc := cL_begun) (maxL := 3) (ret := (some .int)) (hh := [(0, 5, 6, 26), (0, 5, 10, 28)]) (by decide) rfl (Nat.le_of_ble_eq_true rfl) ?_
  intro p e s m below meth cd9 ls hx hb hml htab hr hown hts hlocks hnm hP hK hD hN hC hX hA hS hsz hl
  have hl : lv_has ls 3 [(0, .ref x), (1, .int y)] := hl
  obtain ⟨aM, aO, aL, aC, P, hQ, hR, h, hAC, -⟩ := hXX
  refine lv_aload_n hx hb dL_begun_0 rfl (lv_at hl 0 rfl) ?_
  refine lv_iload_n hx hb dL_begun_1 rfl (lv_at hl 1 rfl) ?_
  refine sg_xcalli hD hS hA (vx_runV (As := [.int y]) (rest := []) ⟨hx, hb, hml, hown, hts⟩ (c_X2_next l hfl D Y _ _ x aM N aO aL aC P y hQ.self (next_B h hR)) (cwV 1 hts gL_begun_X2_next rfl rfl rfl (by decide +kernel) ⟨(Nat.le_of_ble_eq_true rfl), (Nat.le_of_ble_eq_true rfl)⟩) (sg_preV (q := (RX2, TX2, 5)) (hQ.1) rfl hK hP hD hN hX hS hA) rfl rfl hl.1 rfl (lv_room (Nat.le_of_ble_eq_true rfl)) dL_begun_2 ⟨(Nat.le_of_ble_eq_true rfl), (Nat.le_of_ble_eq_true rfl)⟩) (fun E ce q9 H locs hpx hP hD hS hce hcv hcl => ?_) (fun r2 σ' H locs hw hP hD hS => ?_)
  · rcases hpx with ⟨rfl, hn⟩ | ⟨hqy, rfl, hn⟩
    · refine vx_catch hown [] ⟨0, 5, 6, 26⟩ [⟨0, 5, 10, 28⟩] htab (fun z hz => absurd hz List.not_mem_nil) rfl (by decide) (hts (.classLink RL 26 "java/lang/IllegalArgumentException") (by decide +kernel)) (va_Nw.use rfl (hN.2.2.1 _ (List.mem_of_getElem? (i := 1) rfl))) hce hcv hcl (W.eq (g2 := F0 m 6 ls [.ref q9]) rfl ?_)
      refine lv_astore_n (lv' := [(2, .ref q9), (0, .ref x), (1, .int y)]) hx hb dL_begun_6 rfl hl (by decide) rfl (fun ls hl => ?_)
      refine lv_bipush (v := (-101)) hx hb dL_begun_7 (by decide) ?_
      exact vx_ret (sg_iret hx hb hr rfl hlocks hP hD hS (Nat.le_of_ble_eq_true rfl) (Nat.le_of_ble_eq_true rfl) dL_begun_9 (Or.inl ⟨hn, rfl, rfl⟩))
    · refine vx_catch hown [⟨0, 5, 6, 26⟩] ⟨0, 5, 10, 28⟩ [] htab (fun z hz => by
        rcases List.mem_cons.mp hz with rfl | hz
        · exact Or.inr ⟨by decide, "java/lang/IllegalArgumentException", hts (.classLink RL 26 "java/lang/IllegalArgumentException") (by decide +kernel), hC.2.2⟩
        exact absurd hz List.not_mem_nil) rfl (by decide) (hts (.classLink RL 28 "java/lang/IllegalStateException") (by decide +kernel)) (va_Nw.use rfl (hN.2.2.1 _ (List.mem_of_getElem? (i := 2) rfl))) hce hcv hcl (W.eq (g2 := F0 m 10 ls [.ref q9]) rfl ?_)
      refine lv_astore_n (lv' := [(2, .ref q9), (0, .ref x), (1, .int y)]) hx hb dL_begun_10 rfl hl (by decide) rfl (fun ls hl => ?_)
      refine lv_bipush (v := (-102)) hx hb dL_begun_11 (by decide) ?_
      exact vx_ret (sg_iret hx hb hr rfl hlocks hP hD hS (Nat.le_of_ble_eq_true rfl) (Nat.le_of_ble_eq_true rfl) dL_begun_13 (Or.inr (Or.inl ⟨⟨hqy, fun z => hn (hR.2.1 ▸ (now_lt h).mpr z)⟩, rfl, rfl⟩)))
  obtain ⟨hr2, hqy, h59, qs, hQ⟩ := hw
  rw [hR.2.1] at hr2 h59
  have hS9 := next_S (qs := qs) h hR hc hqy h59
  exact vx_ret (sg_iret hx hb hr rfl hlocks hP hD hS (Nat.le_of_ble_eq_true rfl) (Nat.le_of_ble_eq_true rfl) dL_begun_5 (Or.inr (Or.inr (⟨⟨hqy, (now_lt h).mp h59⟩, hr2.trans (by rw [h.1.2.2.2.2, Int32.sub_add_cancel]), CX.mk hQ hS9.2 hS9.1 (AC_nx hAC)⟩))))

set_option maxHeartbeats 4000000 in
set_option maxRecDepth 100000 in
theorem c_L_set0 (l : Launch) (hfl : l.stackTraces = false) (D : va_G) (Y : Nat → ClassId) (σ : sg_W) (sz : Nat) (x : Nat) (M : MS) (N t c : Nat) (y : Int32) (hXX : CX Y x σ M N t c σ) (hc : c < 512) : vx_Met l yL_set wsL_set ({ frames := 7, cells := 1, slots := 6, locals := 112 } : Room) (va_Pc [.ref x, .int (nI 0), .int y] (lh_U D Y σ sz)) (va_Qi (fun r σ' => (¬ qIn y 0 10000000 ∧ r = (-101) ∧ σ = σ') ∨ (qIn y 0 10000000 ∧ r = sS M 2 ∧ CX Y x σ (uS M 2 y) N t (c + 1) σ')) (sg_B D σ sz) (sg_A σ sz)) (sg_T9 D σ sz (fun _ => False)) 1 6 (sg_A σ sz) := by
  refine lh_met (cc := cL_set) (maxL := 4) (ret := (some .int)) (hh := [(0, 17, 18, 26), (0, 17, 22, 28)]) (by decide) rfl (Nat.le_of_ble_eq_true rfl) ?_
  intro p e s m below meth cd9 ls hx hb hml htab hr hown hts hlocks hnm hP hK hD hN hC hX hA hS hsz hl
  have hl : lv_has ls 4 [(0, .ref x), (1, .int (nI 0)), (2, .int y)] := hl
  obtain ⟨aM, aO, aL, aC, P, hQ, hR, h, hAC, -⟩ := hXX
  refine lv_iload_n hx hb dL_set_0 rfl (lv_at hl 1 rfl) ?_
  refine lw_if_ne (tgt := 12) (a := 0) hx hb dL_set_1 (by decide) (by omega) (fun c1 => ?_) (fun c1 => ?_)
  · exfalso; omega
  · skip
    refine lv_aload_n hx hb dL_set_4 rfl (lv_at hl 0 rfl) ?_
    refine lv_iload_n hx hb dL_set_5 rfl (lv_at hl 2 rfl) ?_
    refine sg_xcalli hD hS hA (vx_runV (As := [.int y]) (rest := []) ⟨hx, hb, hml, hown, hts⟩ (c_X2_ceiling l hfl D Y _ _ x aM N aO aL aC P y hQ.self) (cwV 1 hts gL_set_X2_ceiling rfl rfl rfl (by decide +kernel) ⟨(Nat.le_of_ble_eq_true rfl), (Nat.le_of_ble_eq_true rfl)⟩) (sg_preV (q := (RX2, TX2, 5)) (hQ.1) rfl hK hP hD hN hX hS hA) rfl rfl hl.1 rfl (lv_room (Nat.le_of_ble_eq_true rfl)) dL_set_6 ⟨(Nat.le_of_ble_eq_true rfl), (Nat.le_of_ble_eq_true rfl)⟩) (fun E ce q9 H locs hpx hP hD hS hce hcv hcl => ?_) (fun r2 σ' H locs hw hP hD hS => ?_)
    · obtain ⟨rfl, hn⟩ := hpx
      refine vx_catch hown [] ⟨0, 17, 18, 26⟩ [⟨0, 17, 22, 28⟩] htab (fun z hz => absurd hz List.not_mem_nil) rfl (by decide) (hts (.classLink RL 26 "java/lang/IllegalArgumentException") (by decide +kernel)) (va_Nw.use rfl (hN.2.2.1 _ (List.mem_of_getElem? (i := 1) rfl))) hce hcv hcl (W.eq (g2 := F0 m 18 ls [.ref q9]) rfl ?_)
      refine lv_astore_n (lv' := [(3, .ref q9), (0, .ref x), (1, .int (nI 0)), (2, .int y)]) hx hb dL_set_18 rfl hl (by decide) rfl (fun ls hl => ?_)
      refine lv_bipush (v := (-101)) hx hb dL_set_19 (by decide) ?_
      exact vx_ret (sg_iret hx hb hr rfl hlocks hP hD hS (Nat.le_of_ble_eq_true rfl) (Nat.le_of_ble_eq_true rfl) dL_set_21 (Or.inl ⟨hn, rfl, rfl⟩))
    obtain ⟨hr2, hqy, hQ⟩ := hw
    refine lv_goto (tgt := 17) hx hb dL_set_9 (by decide) ?_
    exact vx_ret (sg_iret hx hb hr rfl hlocks hP hD hS (Nat.le_of_ble_eq_true rfl) (Nat.le_of_ble_eq_true rfl) dL_set_17 (Or.inr (⟨hqy, hr2.trans hR.2.2.1, CX.mk hQ (ceil_S h hR).2 (ceil_S (v := y) h hR).1 hAC⟩)))

set_option maxHeartbeats 4000000 in
set_option maxRecDepth 100000 in
theorem c_L_set1 (l : Launch) (hfl : l.stackTraces = false) (D : va_G) (Y : Nat → ClassId) (σ : sg_W) (sz : Nat) (x : Nat) (M : MS) (N t c : Nat) (y : Int32) (hXX : CX Y x σ M N t c σ) (hc : c < 512) (hN6 : N < 6) : vx_Met l yL_set wsL_set ({ frames := 8, cells := 5, slots := 50, locals := 132 } : Room) (va_Pc [.ref x, .int (nI 1), .int y] (lh_U D Y σ sz)) (va_Qi (fun r σ' => (¬ qIn y 1 15 ∧ r = (-101) ∧ σ = σ') ∨ ((qIn y 1 15 ∧ ¬ 0 < t) ∧ r = (-102) ∧ σ = σ') ∨ ((qIn y 1 15 ∧ 0 < t) ∧ r = nI N ∧ CX Y x σ (nJoin M y) (N + 1) t (c + 1) σ')) (sg_B D σ sz) (sg_A σ sz)) (sg_T9 D σ sz (fun _ => False)) 5 50 (sg_A σ sz) := by
  refine lh_met (cc := cL_set) (maxL := 4) (ret := (some .int)) (hh := [(0, 17, 18, 26), (0, 17, 22, 28)]) (by decide) rfl (Nat.le_of_ble_eq_true rfl) ?_
  intro p e s m below meth cd9 ls hx hb hml htab hr hown hts hlocks hnm hP hK hD hN hC hX hA hS hsz hl
  have hl : lv_has ls 4 [(0, .ref x), (1, .int (nI 1)), (2, .int y)] := hl
  obtain ⟨aM, aO, aL, aC, P, hQ, hR, h, hAC, -⟩ := hXX
  refine lv_iload_n hx hb dL_set_0 rfl (lv_at hl 1 rfl) ?_
  refine lw_if_ne (tgt := 12) (a := 1) hx hb dL_set_1 (by decide) (by omega) (fun c1 => ?_) (fun c1 => ?_)
  · skip
    refine lv_aload_n hx hb dL_set_12 rfl (lv_at hl 0 rfl) ?_
    refine lv_iload_n hx hb dL_set_13 rfl (lv_at hl 2 rfl) ?_
    refine sg_xcalli hD hS hA (vx_runV (As := [.int y]) (rest := []) ⟨hx, hb, hml, hown, hts⟩ (c_X2_join l hfl D Y _ _ x aM N aO aL aC P y hQ.self hR.1) (cwV 1 hts gL_set_X2_join rfl rfl rfl (by decide +kernel) ⟨(Nat.le_of_ble_eq_true rfl), (Nat.le_of_ble_eq_true rfl)⟩) (sg_preV (q := (RX2, TX2, 5)) (hQ.1) rfl hK hP hD hN hX hS hA) rfl rfl hl.1 rfl (lv_room (Nat.le_of_ble_eq_true rfl)) dL_set_14 ⟨(Nat.le_of_ble_eq_true rfl), (Nat.le_of_ble_eq_true rfl)⟩) (fun E ce q9 H locs hpx hP hD hS hce hcv hcl => ?_) (fun r2 σ' H locs hw hP hD hS => ?_)
    · rcases hpx with ⟨rfl, hn⟩ | ⟨hqy, rfl, hn⟩
      · refine vx_catch hown [] ⟨0, 17, 18, 26⟩ [⟨0, 17, 22, 28⟩] htab (fun z hz => absurd hz List.not_mem_nil) rfl (by decide) (hts (.classLink RL 26 "java/lang/IllegalArgumentException") (by decide +kernel)) (va_Nw.use rfl (hN.2.2.1 _ (List.mem_of_getElem? (i := 1) rfl))) hce hcv hcl (W.eq (g2 := F0 m 18 ls [.ref q9]) rfl ?_)
        refine lv_astore_n (lv' := [(3, .ref q9), (0, .ref x), (1, .int (nI 1)), (2, .int y)]) hx hb dL_set_18 rfl hl (by decide) rfl (fun ls hl => ?_)
        refine lv_bipush (v := (-101)) hx hb dL_set_19 (by decide) ?_
        exact vx_ret (sg_iret hx hb hr rfl hlocks hP hD hS (Nat.le_of_ble_eq_true rfl) (Nat.le_of_ble_eq_true rfl) dL_set_21 (Or.inl ⟨hn, rfl, rfl⟩))
      · refine vx_catch hown [⟨0, 17, 18, 26⟩] ⟨0, 17, 22, 28⟩ [] htab (fun z hz => by
          rcases List.mem_cons.mp hz with rfl | hz
          · exact Or.inr ⟨by decide, "java/lang/IllegalArgumentException", hts (.classLink RL 26 "java/lang/IllegalArgumentException") (by decide +kernel), hC.2.2⟩
          exact absurd hz List.not_mem_nil) rfl (by decide) (hts (.classLink RL 28 "java/lang/IllegalStateException") (by decide +kernel)) (va_Nw.use rfl (hN.2.2.1 _ (List.mem_of_getElem? (i := 2) rfl))) hce hcv hcl (W.eq (g2 := F0 m 22 ls [.ref q9]) rfl ?_)
        refine lv_astore_n (lv' := [(3, .ref q9), (0, .ref x), (1, .int (nI 1)), (2, .int y)]) hx hb dL_set_22 rfl hl (by decide) rfl (fun ls hl => ?_)
        refine lv_bipush (v := (-102)) hx hb dL_set_23 (by decide) ?_
        exact vx_ret (sg_iret hx hb hr rfl hlocks hP hD hS (Nat.le_of_ble_eq_true rfl) (Nat.le_of_ble_eq_true rfl) dL_set_25 (Or.inr (Or.inl ⟨⟨hqy, fun z => hn ⟨(now_none h hR).mpr z, hN6⟩⟩, rfl, rfl⟩)))
    obtain ⟨hr2, hqy, hjo, aO2, aL2, aC2, hQ⟩ := hw
    have hS9 := join_S h hR hqy (now_ge h ((now_none h hR).mp hjo.1)) hN6
    exact vx_ret (sg_iret hx hb hr rfl hlocks hP hD hS (Nat.le_of_ble_eq_true rfl) (Nat.le_of_ble_eq_true rfl) dL_set_17 (Or.inr (Or.inr (⟨⟨hqy, (now_none h hR).mp hjo.1⟩, hr2, CX.mk hQ hS9.2 hS9.1 (AC_join hAC)⟩))))
  · exfalso; omega

set_option maxHeartbeats 4000000 in
set_option maxRecDepth 100000 in
theorem c_L_act0 (l : Launch) (hfl : l.stackTraces = false) (D : va_G) (Y : Nat → ClassId) (σ : sg_W) (sz : Nat) (x : Nat) (M : MS) (N t c : Nat) (i y : Int32) (hXX : CX Y x σ M N t c σ) (hc : c < 512) : vx_Met l yL_act wsL_act ({ frames := 8, cells := 3, slots := 18, locals := 136 } : Room) (va_Pc [.ref x, .int (nI 0), .int i, .int y] (lh_U D Y σ sz)) (va_Qi (fun r σ' => (¬ vp_in i N ∧ r = (-101) ∧ σ = σ') ∨ ((vp_in i N ∧ ¬ qIn y 1 15) ∧ r = (-102) ∧ σ = σ') ∨ ((vp_in i N ∧ qIn y 1 15 ∧ ¬ sI M 5 (tN i) = 0) ∧ r = (-103) ∧ σ = σ') ∨ ((vp_in i N ∧ qIn y 1 15 ∧ sI M 5 (tN i) = 0) ∧ r = sI M 4 (tN i) ∧ CX Y x σ (nRate M i y) N t (c + 1) σ')) (sg_B D σ sz) (sg_A σ sz)) (sg_T9 D σ sz (fun _ => False)) 3 18 (sg_A σ sz) := by
  refine lh_met (cc := cL_act) (maxL := 5) (ret := (some .int)) (hh := [(0, 33, 34, 46), (0, 33, 39, 26), (0, 33, 44, 28)]) (by decide) rfl (Nat.le_of_ble_eq_true rfl) ?_
  intro p e s m below meth cd9 ls hx hb hml htab hr hown hts hlocks hnm hP hK hD hN hC hX hA hS hsz hl
  have hl : lv_has ls 5 [(0, .ref x), (1, .int (nI 0)), (2, .int i), (3, .int y)] := hl
  obtain ⟨aM, aO, aL, aC, P, hQ, hR, h, hAC, -⟩ := hXX
  refine lv_iload_n hx hb dL_act_0 rfl (lv_at hl 1 rfl) ?_
  refine lw_if_ne (tgt := 13) (a := 0) hx hb dL_act_1 (by decide) (by omega) (fun c1 => ?_) (fun c1 => ?_)
  · exfalso; omega
  · skip
    refine lv_aload_n hx hb dL_act_4 rfl (lv_at hl 0 rfl) ?_
    refine lv_iload_n hx hb dL_act_5 rfl (lv_at hl 2 rfl) ?_
    refine lv_iload_n hx hb dL_act_6 rfl (lv_at hl 3 rfl) ?_
    refine sg_xcalli hD hS hA (vx_runV (As := [.int i, .int y]) (rest := []) ⟨hx, hb, hml, hown, hts⟩ (c_X2_rate l hfl D Y _ _ x aM N aO aL aC P i y hQ.self) (cwV 2 hts gL_act_X2_rate rfl rfl rfl (by decide +kernel) ⟨(Nat.le_of_ble_eq_true rfl), (Nat.le_of_ble_eq_true rfl)⟩) (sg_preV (q := (RX2, TX2, 5)) (hQ.1) rfl hK hP hD hN hX hS hA) rfl rfl hl.1 rfl (lv_room (Nat.le_of_ble_eq_true rfl)) dL_act_7 ⟨(Nat.le_of_ble_eq_true rfl), (Nat.le_of_ble_eq_true rfl)⟩) (fun E ce q9 H locs hpx hP hD hS hce hcv hcl => ?_) (fun r2 σ' H locs hw hP hD hS => ?_)
    · rcases hpx with ⟨rfl, hn⟩ | ⟨hvi, rfl, hn⟩ | ⟨hvi, hqy, rfl, hn⟩
      · refine vx_catch hown [] ⟨0, 33, 34, 46⟩ [⟨0, 33, 39, 26⟩, ⟨0, 33, 44, 28⟩] htab (fun z hz => absurd hz List.not_mem_nil) rfl (by decide) (hts (.classLink RL 46 "java/lang/IndexOutOfBoundsException") (by decide +kernel)) (va_Nw.use rfl (hN.2.2.1 _ (List.mem_of_getElem? (i := 0) rfl))) hce hcv hcl (W.eq (g2 := F0 m 34 ls [.ref q9]) rfl ?_)
        refine lv_astore (lv' := [(4, .ref q9), (0, .ref x), (1, .int (nI 0)), (2, .int i), (3, .int y)]) hx hb dL_act_34 hl (by decide) rfl (fun ls hl => ?_)
        refine lv_bipush (v := (-101)) hx hb dL_act_36 (by decide) ?_
        exact vx_ret (sg_iret hx hb hr rfl hlocks hP hD hS (Nat.le_of_ble_eq_true rfl) (Nat.le_of_ble_eq_true rfl) dL_act_38 (Or.inl ⟨hn, rfl, rfl⟩))
      · refine vx_catch hown [⟨0, 33, 34, 46⟩] ⟨0, 33, 39, 26⟩ [⟨0, 33, 44, 28⟩] htab (fun z hz => by
          rcases List.mem_cons.mp hz with rfl | hz
          · exact Or.inr ⟨by decide, "java/lang/IndexOutOfBoundsException", hts (.classLink RL 46 "java/lang/IndexOutOfBoundsException") (by decide +kernel), hC.1⟩
          exact absurd hz List.not_mem_nil) rfl (by decide) (hts (.classLink RL 26 "java/lang/IllegalArgumentException") (by decide +kernel)) (va_Nw.use rfl (hN.2.2.1 _ (List.mem_of_getElem? (i := 1) rfl))) hce hcv hcl (W.eq (g2 := F0 m 39 ls [.ref q9]) rfl ?_)
        refine lv_astore (lv' := [(4, .ref q9), (0, .ref x), (1, .int (nI 0)), (2, .int i), (3, .int y)]) hx hb dL_act_39 hl (by decide) rfl (fun ls hl => ?_)
        refine lv_bipush (v := (-102)) hx hb dL_act_41 (by decide) ?_
        exact vx_ret (sg_iret hx hb hr rfl hlocks hP hD hS (Nat.le_of_ble_eq_true rfl) (Nat.le_of_ble_eq_true rfl) dL_act_43 (Or.inr (Or.inl ⟨⟨hvi, hn⟩, rfl, rfl⟩)))
      · refine vx_catch hown [⟨0, 33, 34, 46⟩, ⟨0, 33, 39, 26⟩] ⟨0, 33, 44, 28⟩ [] htab (fun z hz => by
          rcases List.mem_cons.mp hz with rfl | hz
          · exact Or.inr ⟨by decide, "java/lang/IndexOutOfBoundsException", hts (.classLink RL 46 "java/lang/IndexOutOfBoundsException") (by decide +kernel), hC.2.1⟩
          rcases List.mem_cons.mp hz with rfl | hz
          · exact Or.inr ⟨by decide, "java/lang/IllegalArgumentException", hts (.classLink RL 26 "java/lang/IllegalArgumentException") (by decide +kernel), hC.2.2⟩
          exact absurd hz List.not_mem_nil) rfl (by decide) (hts (.classLink RL 28 "java/lang/IllegalStateException") (by decide +kernel)) (va_Nw.use rfl (hN.2.2.1 _ (List.mem_of_getElem? (i := 2) rfl))) hce hcv hcl (W.eq (g2 := F0 m 44 ls [.ref q9]) rfl ?_)
        refine lv_astore (lv' := [(4, .ref q9), (0, .ref x), (1, .int (nI 0)), (2, .int i), (3, .int y)]) hx hb dL_act_44 hl (by decide) rfl (fun ls hl => ?_)
        refine lv_bipush (v := (-103)) hx hb dL_act_46 (by decide) ?_
        exact vx_ret (sg_iret hx hb hr rfl hlocks hP hD hS (Nat.le_of_ble_eq_true rfl) (Nat.le_of_ble_eq_true rfl) dL_act_48 (Or.inr (Or.inr (Or.inl ⟨⟨hvi, hqy, fun q => hn ((memK hR hvi).1.2.1.trans q)⟩, rfl, rfl⟩))))
    obtain ⟨hr2, hvi, hqy, hlf, hQ⟩ := hw
    refine lv_goto (tgt := 33) hx hb dL_act_10 (by decide) ?_
    exact vx_ret (sg_iret hx hb hr rfl hlocks hP hD hS (Nat.le_of_ble_eq_true rfl) (Nat.le_of_ble_eq_true rfl) dL_act_33 (Or.inr (Or.inr (Or.inr (⟨⟨hvi, hqy, (memK hR hvi).1.2.1.symm.trans hlf⟩, hr2.trans (memK hR hvi).1.1, CX.mk hQ (rate_S h hR hvi hqy).2 (rate_S h hR hvi hqy).1 (AC_rate hAC (vp_lt hvi))⟩)))))

set_option maxHeartbeats 4000000 in
set_option maxRecDepth 100000 in
theorem c_L_act1 (l : Launch) (hfl : l.stackTraces = false) (D : va_G) (Y : Nat → ClassId) (σ : sg_W) (sz : Nat) (x : Nat) (M : MS) (N t c : Nat) (i y : Int32) (hXX : CX Y x σ M N t c σ) (hc : c < 512) : vx_Met l yL_act wsL_act ({ frames := 8, cells := 3, slots := 18, locals := 135 } : Room) (va_Pc [.ref x, .int (nI 1), .int i, .int y] (lh_U D Y σ sz)) (va_Qi (fun r σ' => (¬ vp_in i N ∧ r = (-101) ∧ σ = σ') ∨ ((vp_in i N ∧ ¬ qIn y 0 5000000) ∧ r = (-102) ∧ σ = σ') ∨ ((vp_in i N ∧ qIn y 0 5000000 ∧ ¬ sI M 5 (tN i) = 0) ∧ r = (-103) ∧ σ = σ') ∨ ((vp_in i N ∧ qIn y 0 5000000 ∧ sI M 5 (tN i) = 0) ∧ r = rSlip M i y ∧ CX Y x σ (nSlip M i y) N t (c + 1) σ')) (sg_B D σ sz) (sg_A σ sz)) (sg_T9 D σ sz (fun _ => False)) 3 18 (sg_A σ sz) := by
  refine lh_met (cc := cL_act) (maxL := 5) (ret := (some .int)) (hh := [(0, 33, 34, 46), (0, 33, 39, 26), (0, 33, 44, 28)]) (by decide) rfl (Nat.le_of_ble_eq_true rfl) ?_
  intro p e s m below meth cd9 ls hx hb hml htab hr hown hts hlocks hnm hP hK hD hN hC hX hA hS hsz hl
  have hl : lv_has ls 5 [(0, .ref x), (1, .int (nI 1)), (2, .int i), (3, .int y)] := hl
  obtain ⟨aM, aO, aL, aC, P, hQ, hR, h, hAC, -⟩ := hXX
  refine lv_iload_n hx hb dL_act_0 rfl (lv_at hl 1 rfl) ?_
  refine lw_if_ne (tgt := 13) (a := 1) hx hb dL_act_1 (by decide) (by omega) (fun c1 => ?_) (fun c1 => ?_)
  · skip
    refine lv_iload_n hx hb dL_act_13 rfl (lv_at hl 1 rfl) ?_
    refine lv_iconst (v := nI 1) hx hb dL_act_14 (by decide) ?_
    refine lw_icmp_ne (tgt := 27) (a := 1) (b := 1) hx hb dL_act_15 (by decide) (by omega) (by omega) (fun c15 => ?_) (fun c15 => ?_)
    · exfalso; omega
    · skip
      refine lv_aload_n hx hb dL_act_18 rfl (lv_at hl 0 rfl) ?_
      refine lv_iload_n hx hb dL_act_19 rfl (lv_at hl 2 rfl) ?_
      refine lv_iload_n hx hb dL_act_20 rfl (lv_at hl 3 rfl) ?_
      refine sg_xcalli hD hS hA (vx_runV (As := [.int i, .int y]) (rest := []) ⟨hx, hb, hml, hown, hts⟩ (c_X2_slip l hfl D Y _ _ x aM N aO aL aC P i y hQ.self) (cwV 2 hts gL_act_X2_slip rfl rfl rfl (by decide +kernel) ⟨(Nat.le_of_ble_eq_true rfl), (Nat.le_of_ble_eq_true rfl)⟩) (sg_preV (q := (RX2, TX2, 5)) (hQ.1) rfl hK hP hD hN hX hS hA) rfl rfl hl.1 rfl (lv_room (Nat.le_of_ble_eq_true rfl)) dL_act_21 ⟨(Nat.le_of_ble_eq_true rfl), (Nat.le_of_ble_eq_true rfl)⟩) (fun E ce q9 H locs hpx hP hD hS hce hcv hcl => ?_) (fun r2 σ' H locs hw hP hD hS => ?_)
      · rcases hpx with ⟨rfl, hn⟩ | ⟨hvi, rfl, hn⟩ | ⟨hvi, hqy, rfl, hn⟩
        · refine vx_catch hown [] ⟨0, 33, 34, 46⟩ [⟨0, 33, 39, 26⟩, ⟨0, 33, 44, 28⟩] htab (fun z hz => absurd hz List.not_mem_nil) rfl (by decide) (hts (.classLink RL 46 "java/lang/IndexOutOfBoundsException") (by decide +kernel)) (va_Nw.use rfl (hN.2.2.1 _ (List.mem_of_getElem? (i := 0) rfl))) hce hcv hcl (W.eq (g2 := F0 m 34 ls [.ref q9]) rfl ?_)
          refine lv_astore (lv' := [(4, .ref q9), (0, .ref x), (1, .int (nI 1)), (2, .int i), (3, .int y)]) hx hb dL_act_34 hl (by decide) rfl (fun ls hl => ?_)
          refine lv_bipush (v := (-101)) hx hb dL_act_36 (by decide) ?_
          exact vx_ret (sg_iret hx hb hr rfl hlocks hP hD hS (Nat.le_of_ble_eq_true rfl) (Nat.le_of_ble_eq_true rfl) dL_act_38 (Or.inl ⟨hn, rfl, rfl⟩))
        · refine vx_catch hown [⟨0, 33, 34, 46⟩] ⟨0, 33, 39, 26⟩ [⟨0, 33, 44, 28⟩] htab (fun z hz => by
            rcases List.mem_cons.mp hz with rfl | hz
            · exact Or.inr ⟨by decide, "java/lang/IndexOutOfBoundsException", hts (.classLink RL 46 "java/lang/IndexOutOfBoundsException") (by decide +kernel), hC.1⟩
            exact absurd hz List.not_mem_nil) rfl (by decide) (hts (.classLink RL 26 "java/lang/IllegalArgumentException") (by decide +kernel)) (va_Nw.use rfl (hN.2.2.1 _ (List.mem_of_getElem? (i := 1) rfl))) hce hcv hcl (W.eq (g2 := F0 m 39 ls [.ref q9]) rfl ?_)
          refine lv_astore (lv' := [(4, .ref q9), (0, .ref x), (1, .int (nI 1)), (2, .int i), (3, .int y)]) hx hb dL_act_39 hl (by decide) rfl (fun ls hl => ?_)
          refine lv_bipush (v := (-102)) hx hb dL_act_41 (by decide) ?_
          exact vx_ret (sg_iret hx hb hr rfl hlocks hP hD hS (Nat.le_of_ble_eq_true rfl) (Nat.le_of_ble_eq_true rfl) dL_act_43 (Or.inr (Or.inl ⟨⟨hvi, hn⟩, rfl, rfl⟩)))
        · refine vx_catch hown [⟨0, 33, 34, 46⟩, ⟨0, 33, 39, 26⟩] ⟨0, 33, 44, 28⟩ [] htab (fun z hz => by
            rcases List.mem_cons.mp hz with rfl | hz
            · exact Or.inr ⟨by decide, "java/lang/IndexOutOfBoundsException", hts (.classLink RL 46 "java/lang/IndexOutOfBoundsException") (by decide +kernel), hC.2.1⟩
            rcases List.mem_cons.mp hz with rfl | hz
            · exact Or.inr ⟨by decide, "java/lang/IllegalArgumentException", hts (.classLink RL 26 "java/lang/IllegalArgumentException") (by decide +kernel), hC.2.2⟩
            exact absurd hz List.not_mem_nil) rfl (by decide) (hts (.classLink RL 28 "java/lang/IllegalStateException") (by decide +kernel)) (va_Nw.use rfl (hN.2.2.1 _ (List.mem_of_getElem? (i := 2) rfl))) hce hcv hcl (W.eq (g2 := F0 m 44 ls [.ref q9]) rfl ?_)
          refine lv_astore (lv' := [(4, .ref q9), (0, .ref x), (1, .int (nI 1)), (2, .int i), (3, .int y)]) hx hb dL_act_44 hl (by decide) rfl (fun ls hl => ?_)
          refine lv_bipush (v := (-103)) hx hb dL_act_46 (by decide) ?_
          exact vx_ret (sg_iret hx hb hr rfl hlocks hP hD hS (Nat.le_of_ble_eq_true rfl) (Nat.le_of_ble_eq_true rfl) dL_act_48 (Or.inr (Or.inr (Or.inl ⟨⟨hvi, hqy, fun q => hn ((memK hR hvi).1.2.1.trans q)⟩, rfl, rfl⟩))))
      obtain ⟨hr2, hvi, hqy, hlf, hQ⟩ := hw
      have hS9 := slip_S h hc hR hvi hqy
      refine lv_goto (tgt := 33) hx hb dL_act_24 (by decide) ?_
      exact vx_ret (sg_iret hx hb hr rfl hlocks hP hD hS (Nat.le_of_ble_eq_true rfl) (Nat.le_of_ble_eq_true rfl) dL_act_33 (Or.inr (Or.inr (Or.inr (⟨⟨hvi, hqy, (memK hR hvi).1.2.1.symm.trans hlf⟩, hr2.trans hS9.2.2, CX.mk hQ hS9.2.1 hS9.1 (AC_slip hAC (vp_lt hvi))⟩)))))
  · exfalso; omega

set_option maxHeartbeats 4000000 in
set_option maxRecDepth 100000 in
theorem c_L_leaves (l : Launch) (hfl : l.stackTraces = false) (D : va_G) (Y : Nat → ClassId) (σ : sg_W) (sz : Nat) (x : Nat) (M : MS) (N t c : Nat) (i : Int32) (hXX : CX Y x σ M N t c σ) (hc : c < 512) : vx_Met l yL_leaves wsL_leaves ({ frames := 8, cells := 3, slots := 18, locals := 134 } : Room) (va_Pc [.ref x, .int i] (lh_U D Y σ sz)) (va_Qi (fun r σ' => (¬ vp_in i N ∧ r = (-101) ∧ σ = σ') ∨ ((vp_in i N ∧ ¬ sI M 5 (tN i) = 0) ∧ r = (-102) ∧ σ = σ') ∨ ((vp_in i N ∧ sI M 5 (tN i) = 0) ∧ r = sI M 6 (tN i) ∧ CX Y x σ (nLeave M i) N t (c + 1) σ')) (sg_B D σ sz) (sg_A σ sz)) (sg_T9 D σ sz (fun _ => False)) 3 18 (sg_A σ sz) := by
  refine lh_met (cc := cL_leaves) (maxL := 3) (ret := (some .int)) (hh := [(0, 5, 6, 46), (0, 5, 10, 28)]) (by decide) rfl (Nat.le_of_ble_eq_true rfl) ?_
  intro p e s m below meth cd9 ls hx hb hml htab hr hown hts hlocks hnm hP hK hD hN hC hX hA hS hsz hl
  have hl : lv_has ls 3 [(0, .ref x), (1, .int i)] := hl
  obtain ⟨aM, aO, aL, aC, P, hQ, hR, h, hAC, -⟩ := hXX
  refine lv_aload_n hx hb dL_leaves_0 rfl (lv_at hl 0 rfl) ?_
  refine lv_iload_n hx hb dL_leaves_1 rfl (lv_at hl 1 rfl) ?_
  refine sg_xcalli hD hS hA (vx_runV (As := [.int i]) (rest := []) ⟨hx, hb, hml, hown, hts⟩ (c_X2_leave l hfl D Y _ _ x aM N aO aL aC P i hQ.self) (cwV 1 hts gL_leaves_X2_leave rfl rfl rfl (by decide +kernel) ⟨(Nat.le_of_ble_eq_true rfl), (Nat.le_of_ble_eq_true rfl)⟩) (sg_preV (q := (RX2, TX2, 5)) (hQ.1) rfl hK hP hD hN hX hS hA) rfl rfl hl.1 rfl (lv_room (Nat.le_of_ble_eq_true rfl)) dL_leaves_2 ⟨(Nat.le_of_ble_eq_true rfl), (Nat.le_of_ble_eq_true rfl)⟩) (fun E ce q9 H locs hpx hP hD hS hce hcv hcl => ?_) (fun r2 σ' H locs hw hP hD hS => ?_)
  · rcases hpx with ⟨rfl, hn⟩ | ⟨hvi, rfl, hn⟩
    · refine vx_catch hown [] ⟨0, 5, 6, 46⟩ [⟨0, 5, 10, 28⟩] htab (fun z hz => absurd hz List.not_mem_nil) rfl (by decide) (hts (.classLink RL 46 "java/lang/IndexOutOfBoundsException") (by decide +kernel)) (va_Nw.use rfl (hN.2.2.1 _ (List.mem_of_getElem? (i := 0) rfl))) hce hcv hcl (W.eq (g2 := F0 m 6 ls [.ref q9]) rfl ?_)
      refine lv_astore_n (lv' := [(2, .ref q9), (0, .ref x), (1, .int i)]) hx hb dL_leaves_6 rfl hl (by decide) rfl (fun ls hl => ?_)
      refine lv_bipush (v := (-101)) hx hb dL_leaves_7 (by decide) ?_
      exact vx_ret (sg_iret hx hb hr rfl hlocks hP hD hS (Nat.le_of_ble_eq_true rfl) (Nat.le_of_ble_eq_true rfl) dL_leaves_9 (Or.inl ⟨hn, rfl, rfl⟩))
    · refine vx_catch hown [⟨0, 5, 6, 46⟩] ⟨0, 5, 10, 28⟩ [] htab (fun z hz => by
        rcases List.mem_cons.mp hz with rfl | hz
        · exact Or.inr ⟨by decide, "java/lang/IndexOutOfBoundsException", hts (.classLink RL 46 "java/lang/IndexOutOfBoundsException") (by decide +kernel), hC.2.1⟩
        exact absurd hz List.not_mem_nil) rfl (by decide) (hts (.classLink RL 28 "java/lang/IllegalStateException") (by decide +kernel)) (va_Nw.use rfl (hN.2.2.1 _ (List.mem_of_getElem? (i := 2) rfl))) hce hcv hcl (W.eq (g2 := F0 m 10 ls [.ref q9]) rfl ?_)
      refine lv_astore_n (lv' := [(2, .ref q9), (0, .ref x), (1, .int i)]) hx hb dL_leaves_10 rfl hl (by decide) rfl (fun ls hl => ?_)
      refine lv_bipush (v := (-102)) hx hb dL_leaves_11 (by decide) ?_
      exact vx_ret (sg_iret hx hb hr rfl hlocks hP hD hS (Nat.le_of_ble_eq_true rfl) (Nat.le_of_ble_eq_true rfl) dL_leaves_13 (Or.inr (Or.inl ⟨⟨hvi, fun q => hn ((memK hR hvi).1.2.1.trans q)⟩, rfl, rfl⟩)))
  obtain ⟨hr2, hvi, hlf, hQ⟩ := hw
  have hS9 := leave_S h hR hvi ((memK hR hvi).1.2.1.symm.trans hlf)
  exact vx_ret (sg_iret hx hb hr rfl hlocks hP hD hS (Nat.le_of_ble_eq_true rfl) (Nat.le_of_ble_eq_true rfl) dL_leaves_5 (Or.inr (Or.inr (⟨⟨hvi, (memK hR hvi).1.2.1.symm.trans hlf⟩, hr2.trans hS9.2.2, CX.mk hQ hS9.2.1 hS9.1 (AC_leave hAC (vp_lt hvi))⟩))))

set_option maxHeartbeats 4000000 in
set_option maxRecDepth 100000 in
theorem c_L_act2 (l : Launch) (hfl : l.stackTraces = false) (D : va_G) (Y : Nat → ClassId) (σ : sg_W) (sz : Nat) (x : Nat) (M : MS) (N t c : Nat) (i y : Int32) (hXX : CX Y x σ M N t c σ) (hc : c < 512) (Z : mSell) (hZ : Z = xSell M i y) (S3 : Int32) (hS3 : S3 = sH M (tN i) 10) : vx_Met l yL_act wsL_act ({ frames := 8, cells := 3, slots := 18, locals := 135 } : Room) (va_Pc [.ref x, .int (nI 2), .int i, .int y] (lh_U D Y σ sz)) (va_Qi (fun r σ' => (¬ vp_in i N ∧ r = (-101) ∧ σ = σ') ∨ ((vp_in i N ∧ ¬ qIn y 1 1000000) ∧ r = (-102) ∧ σ = σ') ∨ ((vp_in i N ∧ qIn y 1 1000000 ∧ ¬ y ≤ S3) ∧ r = (-103) ∧ σ = σ') ∨ ((vp_in i N ∧ qIn y 1 1000000 ∧ y ≤ S3) ∧ r = Z.2.2 ∧ CX Y x σ (Z.1) N t (c + 1) σ')) (sg_B D σ sz) (sg_A σ sz)) (sg_T9 D σ sz (fun _ => False)) 3 18 (sg_A σ sz) := by
  refine lh_met (cc := cL_act) (maxL := 5) (ret := (some .int)) (hh := [(0, 33, 34, 46), (0, 33, 39, 26), (0, 33, 44, 28)]) (by decide) rfl (Nat.le_of_ble_eq_true rfl) ?_
  intro p e s m below meth cd9 ls hx hb hml htab hr hown hts hlocks hnm hP hK hD hN hC hX hA hS hsz hl
  have hl : lv_has ls 5 [(0, .ref x), (1, .int (nI 2)), (2, .int i), (3, .int y)] := hl
  obtain ⟨aM, aO, aL, aC, P, hQ, hR, h, hAC, -⟩ := hXX
  obtain ⟨G9, hG9⟩ : ∃ G9, G9 = kSellN (pS P 2) (pS P 3) 10 (pC P (tN i), y, 0) := ⟨_, rfl⟩
  obtain ⟨S2, hS2⟩ : ∃ S2, S2 = kSum (pC P (tN i)) 10 := ⟨_, rfl⟩
  refine lv_iload_n hx hb dL_act_0 rfl (lv_at hl 1 rfl) ?_
  refine lw_if_ne (tgt := 13) (a := 2) hx hb dL_act_1 (by decide) (by omega) (fun c1 => ?_) (fun c1 => ?_)
  · skip
    refine lv_iload_n hx hb dL_act_13 rfl (lv_at hl 1 rfl) ?_
    refine lv_iconst (v := nI 1) hx hb dL_act_14 (by decide) ?_
    refine lw_icmp_ne (tgt := 27) (a := 2) (b := 1) hx hb dL_act_15 (by decide) (by omega) (by omega) (fun c15 => ?_) (fun c15 => ?_)
    · skip
      refine lv_aload_n hx hb dL_act_27 rfl (lv_at hl 0 rfl) ?_
      refine lv_iload_n hx hb dL_act_28 rfl (lv_at hl 2 rfl) ?_
      refine lv_iload_n hx hb dL_act_29 rfl (lv_at hl 3 rfl) ?_
      refine sg_xcalli hD hS hA (vx_runV (As := [.int i, .int y]) (rest := []) ⟨hx, hb, hml, hown, hts⟩ (c_X2_sellG l hfl D Y _ _ x aM N aO aL aC P i y hQ.self G9 hG9 S2 hS2) (cwV 2 hts gL_act_X2_sell rfl rfl rfl (by decide +kernel) ⟨(Nat.le_of_ble_eq_true rfl), (Nat.le_of_ble_eq_true rfl)⟩) (sg_preV (q := (RX2, TX2, 5)) (hQ.1) rfl hK hP hD hN hX hS hA) rfl rfl hl.1 rfl (lv_room (Nat.le_of_ble_eq_true rfl)) dL_act_30 ⟨(Nat.le_of_ble_eq_true rfl), (Nat.le_of_ble_eq_true rfl)⟩) (fun E ce q9 H locs hpx hP hD hS hce hcv hcl => ?_) (fun r2 σ' H locs hw hP hD hS => ?_)
      · rcases hpx with ⟨rfl, hn⟩ | ⟨hvi, rfl, hn⟩ | ⟨hvi, hqy, rfl, hn⟩
        · refine vx_catch hown [] ⟨0, 33, 34, 46⟩ [⟨0, 33, 39, 26⟩, ⟨0, 33, 44, 28⟩] htab (fun z hz => absurd hz List.not_mem_nil) rfl (by decide) (hts (.classLink RL 46 "java/lang/IndexOutOfBoundsException") (by decide +kernel)) (va_Nw.use rfl (hN.2.2.1 _ (List.mem_of_getElem? (i := 0) rfl))) hce hcv hcl (W.eq (g2 := F0 m 34 ls [.ref q9]) rfl ?_)
          refine lv_astore (lv' := [(4, .ref q9), (0, .ref x), (1, .int (nI 2)), (2, .int i), (3, .int y)]) hx hb dL_act_34 hl (by decide) rfl (fun ls hl => ?_)
          refine lv_bipush (v := (-101)) hx hb dL_act_36 (by decide) ?_
          exact vx_ret (sg_iret hx hb hr rfl hlocks hP hD hS (Nat.le_of_ble_eq_true rfl) (Nat.le_of_ble_eq_true rfl) dL_act_38 (Or.inl ⟨hn, rfl, rfl⟩))
        · refine vx_catch hown [⟨0, 33, 34, 46⟩] ⟨0, 33, 39, 26⟩ [⟨0, 33, 44, 28⟩] htab (fun z hz => by
            rcases List.mem_cons.mp hz with rfl | hz
            · exact Or.inr ⟨by decide, "java/lang/IndexOutOfBoundsException", hts (.classLink RL 46 "java/lang/IndexOutOfBoundsException") (by decide +kernel), hC.1⟩
            exact absurd hz List.not_mem_nil) rfl (by decide) (hts (.classLink RL 26 "java/lang/IllegalArgumentException") (by decide +kernel)) (va_Nw.use rfl (hN.2.2.1 _ (List.mem_of_getElem? (i := 1) rfl))) hce hcv hcl (W.eq (g2 := F0 m 39 ls [.ref q9]) rfl ?_)
          refine lv_astore (lv' := [(4, .ref q9), (0, .ref x), (1, .int (nI 2)), (2, .int i), (3, .int y)]) hx hb dL_act_39 hl (by decide) rfl (fun ls hl => ?_)
          refine lv_bipush (v := (-102)) hx hb dL_act_41 (by decide) ?_
          exact vx_ret (sg_iret hx hb hr rfl hlocks hP hD hS (Nat.le_of_ble_eq_true rfl) (Nat.le_of_ble_eq_true rfl) dL_act_43 (Or.inr (Or.inl ⟨⟨hvi, hn⟩, rfl, rfl⟩)))
        · refine vx_catch hown [⟨0, 33, 34, 46⟩, ⟨0, 33, 39, 26⟩] ⟨0, 33, 44, 28⟩ [] htab (fun z hz => by
            rcases List.mem_cons.mp hz with rfl | hz
            · exact Or.inr ⟨by decide, "java/lang/IndexOutOfBoundsException", hts (.classLink RL 46 "java/lang/IndexOutOfBoundsException") (by decide +kernel), hC.2.1⟩
            rcases List.mem_cons.mp hz with rfl | hz
            · exact Or.inr ⟨by decide, "java/lang/IllegalArgumentException", hts (.classLink RL 26 "java/lang/IllegalArgumentException") (by decide +kernel), hC.2.2⟩
            exact absurd hz List.not_mem_nil) rfl (by decide) (hts (.classLink RL 28 "java/lang/IllegalStateException") (by decide +kernel)) (va_Nw.use rfl (hN.2.2.1 _ (List.mem_of_getElem? (i := 2) rfl))) hce hcv hcl (W.eq (g2 := F0 m 44 ls [.ref q9]) rfl ?_)
          refine lv_astore (lv' := [(4, .ref q9), (0, .ref x), (1, .int (nI 2)), (2, .int i), (3, .int y)]) hx hb dL_act_44 hl (by decide) rfl (fun ls hl => ?_)
          refine lv_bipush (v := (-103)) hx hb dL_act_46 (by decide) ?_
          exact vx_ret (sg_iret hx hb hr rfl hlocks hP hD hS (Nat.le_of_ble_eq_true rfl) (Nat.le_of_ble_eq_true rfl) dL_act_48 (Or.inr (Or.inr (Or.inl ⟨⟨hvi, hqy, fun q => hn (by rw [hS2, shares_A hR hvi, ← hS3]; exact q)⟩, rfl, rfl⟩))))
      obtain ⟨hr2, hvi, hqy, hsl, hQ⟩ := hw
      obtain ⟨hI, hR2, hA2⟩ := sell_S h hR hvi hqy
      have hA9 := AC_sell (now := pS P 2) (price := pS P 3) (y := y) hAC (vp_lt hvi)
      rw [← hZ] at hI hR2 hA2
      rw [← hG9] at hR2 hA2 hA9
      exact vx_ret (sg_iret hx hb hr rfl hlocks hP hD hS (Nat.le_of_ble_eq_true rfl) (Nat.le_of_ble_eq_true rfl) dL_act_33 (Or.inr (Or.inr (Or.inr (⟨⟨hvi, hqy, by rw [hS3, ← shares_A hR hvi, ← hS2]; exact hsl⟩, hr2.trans hA2, CX.mk hQ hR2 hI hA9⟩)))))
    · exfalso; omega
  · exfalso; omega
