theorem join_c {M : MS} {N t c : Nat} {P : PS} (h : IV M N t c 7) (hR : RW M N P) : (¬ pS P 2 = -1 ∧ N < 6) ↔ (0 ≤ sS M 0 ∧ sS M 3 < 6) := by
  have h6 := h.1.1
  have h60 := h.1.2.1
  rw [hR.2.1, h.1.2.2.2.1]
  have e : nI N < 6 ↔ N < 6 := nI_ltI (b := 6) (by omega) (by omega)
  rcases Nat.eq_zero_or_pos t with hz | hz
  · rw [h.1.2.2.2.2, hz]
    constructor
    · rintro ⟨q, -⟩
      exact absurd rfl q
    · rintro ⟨q, -⟩
      exact absurd q (by decide)
  · rw [h.now hz, e]
    have hp : 0 ≤ nI (t - 1) := nI_pos' (by omega)
    refine ⟨fun q => ⟨hp, q.2⟩, fun q => ⟨fun z => ?_, q.2⟩⟩
    rw [z] at hp
    exact absurd hp (by decide)

set_option maxHeartbeats 4000000 in
set_option maxRecDepth 100000 in
theorem c_L_ceiling (l : Launch) (hfl : l.stackTraces = false) (D : va_G) (Y : Nat → ClassId) (σ : sg_W) (sz : Nat) (x b aM N t c : Nat) (aO aL aC : Nat → Nat) (P : PS) (M : MS) (f : Nat → Int64) (y : Int32) (hQ : PF Y x aM N aO aL aC σ P σ) (ho : σ 120 = some (b, .inl (Y 1, 1, .inr (.inl f)))) (h : IV M N t c 7) (hc : c < 512) (hR : RW M N P) : vx_Met l yL_ceiling wsL_ceiling ({ frames := 7, cells := 1, slots := 6, locals := 112 } : Room) (va_Pc [.ref x, .int y, .ref b] (lh_U D Y σ sz)) (va_Qi (fun r σ' => HQ Y x b σ (tCeil y) (uS (uS M 19 0) 2 y) (c + 1) ((sS M 2).toInt64) r σ') (sg_B D σ sz) (sg_A σ sz)) (sg_T9 D σ sz (fun _ => False)) 1 6 (sg_A σ sz) := by
  refine lh_met (cc := cL_ceiling) (maxL := 4) (ret := (some .int)) (hh := [(0, 9, 12, 13)]) (by decide) rfl (Nat.le_of_ble_eq_true rfl) ?_
  intro p e s m below meth cd9 ls hx hb hml htab hr hown hts hlocks hnm hP hK hD hN hC hX hA hS hsz hl
  have hl : lv_has ls 4 [(0, .ref x), (1, .int y), (2, .ref b)] := hl
  refine lv_aload_n hx hb dL_ceiling_0 rfl (lv_at hl 2 rfl) ?_
  refine lv_iconst (v := 0) hx hb dL_ceiling_1 (by decide) ?_
  refine lv_aload_n hx hb dL_ceiling_2 rfl (lv_at hl 0 rfl) ?_
  refine lv_iload_n hx hb dL_ceiling_3 rfl (lv_at hl 1 rfl) ?_
  refine sg_xcalli hD hS hA (vx_runV (As := [.int y]) (rest := [.int 0, .ref b]) ⟨hx, hb, hml, hown, hts⟩ (c_X2_ceiling l hfl D Y _ _ x aM N aO aL aC P y hQ.self) (cwV 1 hts gL_ceiling_X2_ceiling rfl rfl rfl (by decide +kernel) ⟨(Nat.le_of_ble_eq_true rfl), (Nat.le_of_ble_eq_true rfl)⟩) (sg_preV (q := (RX2, TX2, 5)) (hQ.1) rfl hK hP hD hN hX hS hA) rfl rfl hl.1 rfl (lv_room (Nat.le_of_ble_eq_true rfl)) dL_ceiling_4 ⟨(Nat.le_of_ble_eq_true rfl), (Nat.le_of_ble_eq_true rfl)⟩) (fun E ce q9 H locs hpx hP hD hS hce hcv hcl => ?_) (fun r2 σ' H locs hw hP hD hS => ?_)
  · obtain ⟨rfl, hn⟩ := hpx
    refine vx_catch hown [] ⟨0, 9, 12, 13⟩ [] htab (fun z hz => absurd hz List.not_mem_nil) rfl (by decide) (hts (.classLink RL 13 "java/lang/IllegalArgumentException") (by decide +kernel)) (va_Nw.use rfl (hN.2.2.1 _ (List.mem_of_getElem? (i := 1) rfl))) hce hcv hcl (W.eq (g2 := F0 m 12 ls [.ref q9]) rfl ?_)
    refine lv_astore_n (lv' := [(3, .ref q9), (0, .ref x), (1, .int y), (2, .ref b)]) hx hb dL_ceiling_12 rfl hl (by decide) rfl (fun ls hl => ?_)
    refine lv_iconst (v := 1) hx hb dL_ceiling_13 (by decide) ?_
    exact vx_ret (sg_iret hx hb hr rfl hlocks hP hD hS (Nat.le_of_ble_eq_true rfl) (Nat.le_of_ble_eq_true rfl) dL_ceiling_14 (HQ.no (show tCeil y = 1 from t1_1 hn) (by decide)))
  obtain ⟨hr2, hqy, hQ⟩ := hw
  have hr2 := hr2.trans hR.2.2.1
  have hI := (ceil_S (v := y) (h.u19 (v := 0)) (hR.u19 (v := 0))).1
  have hR2 := (ceil_S (v := y) (h.u19 (v := 0)) (hR.u19 (v := 0))).2
  subst hr2
  refine lv_i2l hx hb dL_ceiling_7 rfl ?_
  refine sg_last hx hb hK hP hD hS (n := 120) (N := 1) ((hQ.2.2.2.1 120 (by omega)).trans ho) (vp_in_nI (n := 0) (by decide) (by decide)) dL_ceiling_8 (fun H locs hP hD hS => ?_)
  refine lv_goto (tgt := 15) hx hb dL_ceiling_9 (by decide) ?_
  refine lv_iconst (v := 0) hx hb dL_ceiling_15 (by decide) ?_
  exact vx_ret (sg_iret hx hb hr rfl hlocks hP hD hS (Nat.le_of_ble_eq_true rfl) (Nat.le_of_ble_eq_true rfl) dL_ceiling_16 (HQ.ok (show tCeil y = 0 from t1_0 hqy) (GX.mk hQ hI hR2)))

set_option maxHeartbeats 4000000 in
set_option maxRecDepth 100000 in
theorem c_L_money (l : Launch) (hfl : l.stackTraces = false) (D : va_G) (Y : Nat → ClassId) (σ : sg_W) (sz : Nat) (x b aM N t c : Nat) (aO aL aC : Nat → Nat) (P : PS) (M : MS) (f : Nat → Int64) (i : Int32) (hQ : PF Y x aM N aO aL aC σ P σ) (ho : σ 120 = some (b, .inl (Y 1, 1, .inr (.inl f)))) (h : IV M N t c 7) (hc : c < 512) (hR : RW M N P) : vx_Met l yL_money wsL_money ({ frames := 8, cells := 1, slots := 6, locals := 133 } : Room) (va_Pc [.ref x, .int i, .ref b] (lh_U D Y σ sz)) (va_Qi (fun r σ' => HQ Y x b σ (tMem M i) (uS M 19 0) (c + 1) ((sI M 6 (tN i)).toInt64) r σ') (sg_B D σ sz) (sg_A σ sz)) (sg_T9 D σ sz (fun _ => False)) 1 6 (sg_A σ sz) := by
  refine lh_met (cc := cL_money) (maxL := 4) (ret := (some .int)) (hh := [(0, 9, 12, 27)]) (by decide) rfl (Nat.le_of_ble_eq_true rfl) ?_
  intro p e s m below meth cd9 ls hx hb hml htab hr hown hts hlocks hnm hP hK hD hN hC hX hA hS hsz hl
  have hl : lv_has ls 4 [(0, .ref x), (1, .int i), (2, .ref b)] := hl
  refine lv_aload_n hx hb dL_money_0 rfl (lv_at hl 2 rfl) ?_
  refine lv_iconst (v := 0) hx hb dL_money_1 (by decide) ?_
  refine lv_aload_n hx hb dL_money_2 rfl (lv_at hl 0 rfl) ?_
  refine lv_iload_n hx hb dL_money_3 rfl (lv_at hl 1 rfl) ?_
  refine sg_xcalli hD hS hA (vx_runV (As := [.int i]) (rest := [.int 0, .ref b]) ⟨hx, hb, hml, hown, hts⟩ (c_X2_money l hfl D Y _ _ x aM N aO aL aC P i hQ.self) (cwV 1 hts gL_money_X2_money rfl rfl rfl (by decide +kernel) ⟨(Nat.le_of_ble_eq_true rfl), (Nat.le_of_ble_eq_true rfl)⟩) (sg_preV (q := (RX2, TX2, 5)) (hQ.1) rfl hK hP hD hN hX hS hA) rfl rfl hl.1 rfl (lv_room (Nat.le_of_ble_eq_true rfl)) dL_money_4 ⟨(Nat.le_of_ble_eq_true rfl), (Nat.le_of_ble_eq_true rfl)⟩) (fun E ce q9 H locs hpx hP hD hS hce hcv hcl => ?_) (fun r2 σ' H locs hw hP hD hS => ?_)
  · obtain ⟨rfl, hn⟩ := hpx
    refine vx_catch hown [] ⟨0, 9, 12, 27⟩ [] htab (fun z hz => absurd hz List.not_mem_nil) rfl (by decide) (hts (.classLink RL 27 "java/lang/IndexOutOfBoundsException") (by decide +kernel)) (va_Nw.use rfl (hN.2.2.1 _ (List.mem_of_getElem? (i := 0) rfl))) hce hcv hcl (W.eq (g2 := F0 m 12 ls [.ref q9]) rfl ?_)
    refine lv_astore_n (lv' := [(3, .ref q9), (0, .ref x), (1, .int i), (2, .ref b)]) hx hb dL_money_12 rfl hl (by decide) rfl (fun ls hl => ?_)
    refine lv_iconst (v := 1) hx hb dL_money_13 (by decide) ?_
    exact vx_ret (sg_iret hx hb hr rfl hlocks hP hD hS (Nat.le_of_ble_eq_true rfl) (Nat.le_of_ble_eq_true rfl) dL_money_14 (HQ.no (show tMem M i = 1 from t1_1 (fun q => hn ((h.mem i).mp q))) (by decide)))
  obtain ⟨hr2, hvi, rfl⟩ := hw
  have hr2 := hr2.trans (money_A hR hvi)
  have hI := (q_S h hR 0).1
  have hR2 := (q_S h hR 0).2
  subst hr2
  refine lv_i2l hx hb dL_money_7 rfl ?_
  refine sg_last hx hb hK hP hD hS (n := 120) (N := 1) ((hQ.2.2.2.1 120 (by omega)).trans ho) (vp_in_nI (n := 0) (by decide) (by decide)) dL_money_8 (fun H locs hP hD hS => ?_)
  refine lv_goto (tgt := 15) hx hb dL_money_9 (by decide) ?_
  refine lv_iconst (v := 0) hx hb dL_money_15 (by decide) ?_
  exact vx_ret (sg_iret hx hb hr rfl hlocks hP hD hS (Nat.le_of_ble_eq_true rfl) (Nat.le_of_ble_eq_true rfl) dL_money_16 (HQ.ok (show tMem M i = 0 from t1_0 ((h.mem i).mpr hvi)) (GX.mk hQ hI hR2)))

set_option maxHeartbeats 4000000 in
set_option maxRecDepth 100000 in
theorem c_L_offerMonth (l : Launch) (hfl : l.stackTraces = false) (D : va_G) (Y : Nat → ClassId) (σ : sg_W) (sz : Nat) (x b aM N t c : Nat) (aO aL aC : Nat → Nat) (P : PS) (M : MS) (f : Nat → Int64) (i : Int32) (hQ : PF Y x aM N aO aL aC σ P σ) (ho : σ 120 = some (b, .inl (Y 1, 1, .inr (.inl f)))) (h : IV M N t c 7) (hc : c < 512) (hR : RW M N P) : vx_Met l yL_offerMonth wsL_offerMonth ({ frames := 8, cells := 1, slots := 6, locals := 133 } : Room) (va_Pc [.ref x, .int i, .ref b] (lh_U D Y σ sz)) (va_Qi (fun r σ' => HQ Y x b σ (tMem M i) (uS M 19 0) (c + 1) ((sI M 10 (tN i)).toInt64) r σ') (sg_B D σ sz) (sg_A σ sz)) (sg_T9 D σ sz (fun _ => False)) 1 6 (sg_A σ sz) := by
  refine lh_met (cc := cL_offerMonth) (maxL := 4) (ret := (some .int)) (hh := [(0, 9, 12, 27)]) (by decide) rfl (Nat.le_of_ble_eq_true rfl) ?_
  intro p e s m below meth cd9 ls hx hb hml htab hr hown hts hlocks hnm hP hK hD hN hC hX hA hS hsz hl
  have hl : lv_has ls 4 [(0, .ref x), (1, .int i), (2, .ref b)] := hl
  refine lv_aload_n hx hb dL_offerMonth_0 rfl (lv_at hl 2 rfl) ?_
  refine lv_iconst (v := 0) hx hb dL_offerMonth_1 (by decide) ?_
  refine lv_aload_n hx hb dL_offerMonth_2 rfl (lv_at hl 0 rfl) ?_
  refine lv_iload_n hx hb dL_offerMonth_3 rfl (lv_at hl 1 rfl) ?_
  refine sg_xcalli hD hS hA (vx_runV (As := [.int i]) (rest := [.int 0, .ref b]) ⟨hx, hb, hml, hown, hts⟩ (c_X2_offerMonth l hfl D Y _ _ x aM N aO aL aC P i hQ.self) (cwV 1 hts gL_offerMonth_X2_offerMonth rfl rfl rfl (by decide +kernel) ⟨(Nat.le_of_ble_eq_true rfl), (Nat.le_of_ble_eq_true rfl)⟩) (sg_preV (q := (RX2, TX2, 5)) (hQ.1) rfl hK hP hD hN hX hS hA) rfl rfl hl.1 rfl (lv_room (Nat.le_of_ble_eq_true rfl)) dL_offerMonth_4 ⟨(Nat.le_of_ble_eq_true rfl), (Nat.le_of_ble_eq_true rfl)⟩) (fun E ce q9 H locs hpx hP hD hS hce hcv hcl => ?_) (fun r2 σ' H locs hw hP hD hS => ?_)
  · obtain ⟨rfl, hn⟩ := hpx
    refine vx_catch hown [] ⟨0, 9, 12, 27⟩ [] htab (fun z hz => absurd hz List.not_mem_nil) rfl (by decide) (hts (.classLink RL 27 "java/lang/IndexOutOfBoundsException") (by decide +kernel)) (va_Nw.use rfl (hN.2.2.1 _ (List.mem_of_getElem? (i := 0) rfl))) hce hcv hcl (W.eq (g2 := F0 m 12 ls [.ref q9]) rfl ?_)
    refine lv_astore_n (lv' := [(3, .ref q9), (0, .ref x), (1, .int i), (2, .ref b)]) hx hb dL_offerMonth_12 rfl hl (by decide) rfl (fun ls hl => ?_)
    refine lv_iconst (v := 1) hx hb dL_offerMonth_13 (by decide) ?_
    exact vx_ret (sg_iret hx hb hr rfl hlocks hP hD hS (Nat.le_of_ble_eq_true rfl) (Nat.le_of_ble_eq_true rfl) dL_offerMonth_14 (HQ.no (show tMem M i = 1 from t1_1 (fun q => hn ((h.mem i).mp q))) (by decide)))
  obtain ⟨hr2, hvi, rfl⟩ := hw
  have hr2 := hr2.trans (offerMonth_A hR hvi)
  have hI := (q_S h hR 0).1
  have hR2 := (q_S h hR 0).2
  subst hr2
  refine lv_i2l hx hb dL_offerMonth_7 rfl ?_
  refine sg_last hx hb hK hP hD hS (n := 120) (N := 1) ((hQ.2.2.2.1 120 (by omega)).trans ho) (vp_in_nI (n := 0) (by decide) (by decide)) dL_offerMonth_8 (fun H locs hP hD hS => ?_)
  refine lv_goto (tgt := 15) hx hb dL_offerMonth_9 (by decide) ?_
  refine lv_iconst (v := 0) hx hb dL_offerMonth_15 (by decide) ?_
  exact vx_ret (sg_iret hx hb hr rfl hlocks hP hD hS (Nat.le_of_ble_eq_true rfl) (Nat.le_of_ble_eq_true rfl) dL_offerMonth_16 (HQ.ok (show tMem M i = 0 from t1_0 ((h.mem i).mpr hvi)) (GX.mk hQ hI hR2)))

set_option maxHeartbeats 4000000 in
set_option maxRecDepth 100000 in
theorem c_L_offerPrice (l : Launch) (hfl : l.stackTraces = false) (D : va_G) (Y : Nat → ClassId) (σ : sg_W) (sz : Nat) (x b aM N t c : Nat) (aO aL aC : Nat → Nat) (P : PS) (M : MS) (f : Nat → Int64) (i : Int32) (hQ : PF Y x aM N aO aL aC σ P σ) (ho : σ 120 = some (b, .inl (Y 1, 1, .inr (.inl f)))) (h : IV M N t c 7) (hc : c < 512) (hR : RW M N P) : vx_Met l yL_offerPrice wsL_offerPrice ({ frames := 8, cells := 1, slots := 6, locals := 133 } : Room) (va_Pc [.ref x, .int i, .ref b] (lh_U D Y σ sz)) (va_Qi (fun r σ' => HQ Y x b σ (tMem M i) (uS M 19 0) (c + 1) ((sI M 1 (tN (sI M 10 (tN i)))).toInt64) r σ') (sg_B D σ sz) (sg_A σ sz)) (sg_T9 D σ sz (fun _ => False)) 1 6 (sg_A σ sz) := by
  refine lh_met (cc := cL_offerPrice) (maxL := 4) (ret := (some .int)) (hh := [(0, 9, 12, 27)]) (by decide) rfl (Nat.le_of_ble_eq_true rfl) ?_
  intro p e s m below meth cd9 ls hx hb hml htab hr hown hts hlocks hnm hP hK hD hN hC hX hA hS hsz hl
  have hl : lv_has ls 4 [(0, .ref x), (1, .int i), (2, .ref b)] := hl
  refine lv_aload_n hx hb dL_offerPrice_0 rfl (lv_at hl 2 rfl) ?_
  refine lv_iconst (v := 0) hx hb dL_offerPrice_1 (by decide) ?_
  refine lv_aload_n hx hb dL_offerPrice_2 rfl (lv_at hl 0 rfl) ?_
  refine lv_iload_n hx hb dL_offerPrice_3 rfl (lv_at hl 1 rfl) ?_
  refine sg_xcalli hD hS hA (vx_runV (As := [.int i]) (rest := [.int 0, .ref b]) ⟨hx, hb, hml, hown, hts⟩ (c_X2_offerPrice l hfl D Y _ _ x aM N aO aL aC P i hQ.self) (cwV 1 hts gL_offerPrice_X2_offerPrice rfl rfl rfl (by decide +kernel) ⟨(Nat.le_of_ble_eq_true rfl), (Nat.le_of_ble_eq_true rfl)⟩) (sg_preV (q := (RX2, TX2, 5)) (hQ.1) rfl hK hP hD hN hX hS hA) rfl rfl hl.1 rfl (lv_room (Nat.le_of_ble_eq_true rfl)) dL_offerPrice_4 ⟨(Nat.le_of_ble_eq_true rfl), (Nat.le_of_ble_eq_true rfl)⟩) (fun E ce q9 H locs hpx hP hD hS hce hcv hcl => ?_) (fun r2 σ' H locs hw hP hD hS => ?_)
  · obtain ⟨rfl, hn⟩ := hpx
    refine vx_catch hown [] ⟨0, 9, 12, 27⟩ [] htab (fun z hz => absurd hz List.not_mem_nil) rfl (by decide) (hts (.classLink RL 27 "java/lang/IndexOutOfBoundsException") (by decide +kernel)) (va_Nw.use rfl (hN.2.2.1 _ (List.mem_of_getElem? (i := 0) rfl))) hce hcv hcl (W.eq (g2 := F0 m 12 ls [.ref q9]) rfl ?_)
    refine lv_astore_n (lv' := [(3, .ref q9), (0, .ref x), (1, .int i), (2, .ref b)]) hx hb dL_offerPrice_12 rfl hl (by decide) rfl (fun ls hl => ?_)
    refine lv_iconst (v := 1) hx hb dL_offerPrice_13 (by decide) ?_
    exact vx_ret (sg_iret hx hb hr rfl hlocks hP hD hS (Nat.le_of_ble_eq_true rfl) (Nat.le_of_ble_eq_true rfl) dL_offerPrice_14 (HQ.no (show tMem M i = 1 from t1_1 (fun q => hn ((h.mem i).mp q))) (by decide)))
  obtain ⟨hr2, hvi, rfl⟩ := hw
  have hr2 := hr2.trans (offerPrice_A hR hvi)
  have hI := (q_S h hR 0).1
  have hR2 := (q_S h hR 0).2
  subst hr2
  refine lv_i2l hx hb dL_offerPrice_7 rfl ?_
  refine sg_last hx hb hK hP hD hS (n := 120) (N := 1) ((hQ.2.2.2.1 120 (by omega)).trans ho) (vp_in_nI (n := 0) (by decide) (by decide)) dL_offerPrice_8 (fun H locs hP hD hS => ?_)
  refine lv_goto (tgt := 15) hx hb dL_offerPrice_9 (by decide) ?_
  refine lv_iconst (v := 0) hx hb dL_offerPrice_15 (by decide) ?_
  exact vx_ret (sg_iret hx hb hr rfl hlocks hP hD hS (Nat.le_of_ble_eq_true rfl) (Nat.le_of_ble_eq_true rfl) dL_offerPrice_16 (HQ.ok (show tMem M i = 0 from t1_0 ((h.mem i).mpr hvi)) (GX.mk hQ hI hR2)))

set_option maxHeartbeats 4000000 in
set_option maxRecDepth 100000 in
theorem c_L_resets (l : Launch) (hfl : l.stackTraces = false) (D : va_G) (Y : Nat → ClassId) (σ : sg_W) (sz : Nat) (x b aM N t c : Nat) (aO aL aC : Nat → Nat) (P : PS) (M : MS) (f : Nat → Int64) (i : Int32) (hQ : PF Y x aM N aO aL aC σ P σ) (ho : σ 120 = some (b, .inl (Y 1, 1, .inr (.inl f)))) (h : IV M N t c 7) (hc : c < 512) (hR : RW M N P) : vx_Met l yL_resets wsL_resets ({ frames := 8, cells := 1, slots := 6, locals := 133 } : Room) (va_Pc [.ref x, .int i, .ref b] (lh_U D Y σ sz)) (va_Qi (fun r σ' => HQ Y x b σ (tMem M i) (uS M 19 0) (c + 1) ((sI M 12 (tN i)).toInt64) r σ') (sg_B D σ sz) (sg_A σ sz)) (sg_T9 D σ sz (fun _ => False)) 1 6 (sg_A σ sz) := by
  refine lh_met (cc := cL_resets) (maxL := 4) (ret := (some .int)) (hh := [(0, 9, 12, 27)]) (by decide) rfl (Nat.le_of_ble_eq_true rfl) ?_
  intro p e s m below meth cd9 ls hx hb hml htab hr hown hts hlocks hnm hP hK hD hN hC hX hA hS hsz hl
  have hl : lv_has ls 4 [(0, .ref x), (1, .int i), (2, .ref b)] := hl
  refine lv_aload_n hx hb dL_resets_0 rfl (lv_at hl 2 rfl) ?_
  refine lv_iconst (v := 0) hx hb dL_resets_1 (by decide) ?_
  refine lv_aload_n hx hb dL_resets_2 rfl (lv_at hl 0 rfl) ?_
  refine lv_iload_n hx hb dL_resets_3 rfl (lv_at hl 1 rfl) ?_
  refine sg_xcalli hD hS hA (vx_runV (As := [.int i]) (rest := [.int 0, .ref b]) ⟨hx, hb, hml, hown, hts⟩ (c_X2_resets l hfl D Y _ _ x aM N aO aL aC P i hQ.self) (cwV 1 hts gL_resets_X2_resets rfl rfl rfl (by decide +kernel) ⟨(Nat.le_of_ble_eq_true rfl), (Nat.le_of_ble_eq_true rfl)⟩) (sg_preV (q := (RX2, TX2, 5)) (hQ.1) rfl hK hP hD hN hX hS hA) rfl rfl hl.1 rfl (lv_room (Nat.le_of_ble_eq_true rfl)) dL_resets_4 ⟨(Nat.le_of_ble_eq_true rfl), (Nat.le_of_ble_eq_true rfl)⟩) (fun E ce q9 H locs hpx hP hD hS hce hcv hcl => ?_) (fun r2 σ' H locs hw hP hD hS => ?_)
  · obtain ⟨rfl, hn⟩ := hpx
    refine vx_catch hown [] ⟨0, 9, 12, 27⟩ [] htab (fun z hz => absurd hz List.not_mem_nil) rfl (by decide) (hts (.classLink RL 27 "java/lang/IndexOutOfBoundsException") (by decide +kernel)) (va_Nw.use rfl (hN.2.2.1 _ (List.mem_of_getElem? (i := 0) rfl))) hce hcv hcl (W.eq (g2 := F0 m 12 ls [.ref q9]) rfl ?_)
    refine lv_astore_n (lv' := [(3, .ref q9), (0, .ref x), (1, .int i), (2, .ref b)]) hx hb dL_resets_12 rfl hl (by decide) rfl (fun ls hl => ?_)
    refine lv_iconst (v := 1) hx hb dL_resets_13 (by decide) ?_
    exact vx_ret (sg_iret hx hb hr rfl hlocks hP hD hS (Nat.le_of_ble_eq_true rfl) (Nat.le_of_ble_eq_true rfl) dL_resets_14 (HQ.no (show tMem M i = 1 from t1_1 (fun q => hn ((h.mem i).mp q))) (by decide)))
  obtain ⟨hr2, hvi, rfl⟩ := hw
  have hr2 := hr2.trans (resets_A hR hvi)
  have hI := (q_S h hR 0).1
  have hR2 := (q_S h hR 0).2
  subst hr2
  refine lv_i2l hx hb dL_resets_7 rfl ?_
  refine sg_last hx hb hK hP hD hS (n := 120) (N := 1) ((hQ.2.2.2.1 120 (by omega)).trans ho) (vp_in_nI (n := 0) (by decide) (by decide)) dL_resets_8 (fun H locs hP hD hS => ?_)
  refine lv_goto (tgt := 15) hx hb dL_resets_9 (by decide) ?_
  refine lv_iconst (v := 0) hx hb dL_resets_15 (by decide) ?_
  exact vx_ret (sg_iret hx hb hr rfl hlocks hP hD hS (Nat.le_of_ble_eq_true rfl) (Nat.le_of_ble_eq_true rfl) dL_resets_16 (HQ.ok (show tMem M i = 0 from t1_0 ((h.mem i).mpr hvi)) (GX.mk hQ hI hR2)))

set_option maxHeartbeats 4000000 in
set_option maxRecDepth 100000 in
theorem c_L_shares (l : Launch) (hfl : l.stackTraces = false) (D : va_G) (Y : Nat → ClassId) (σ : sg_W) (sz : Nat) (x b aM N t c : Nat) (aO aL aC : Nat → Nat) (P : PS) (M : MS) (f : Nat → Int64) (i : Int32) (hQ : PF Y x aM N aO aL aC σ P σ) (ho : σ 120 = some (b, .inl (Y 1, 1, .inr (.inl f)))) (h : IV M N t c 7) (hc : c < 512) (hR : RW M N P) : vx_Met l yL_shares wsL_shares ({ frames := 8, cells := 1, slots := 6, locals := 133 } : Room) (va_Pc [.ref x, .int i, .ref b] (lh_U D Y σ sz)) (va_Qi (fun r σ' => HQ Y x b σ (tMem M i) (uS M 19 0) (c + 1) ((sH M (tN i) 10).toInt64) r σ') (sg_B D σ sz) (sg_A σ sz)) (sg_T9 D σ sz (fun _ => False)) 1 6 (sg_A σ sz) := by
  refine lh_met (cc := cL_shares) (maxL := 4) (ret := (some .int)) (hh := [(0, 9, 12, 27)]) (by decide) rfl (Nat.le_of_ble_eq_true rfl) ?_
  intro p e s m below meth cd9 ls hx hb hml htab hr hown hts hlocks hnm hP hK hD hN hC hX hA hS hsz hl
  have hl : lv_has ls 4 [(0, .ref x), (1, .int i), (2, .ref b)] := hl
  refine lv_aload_n hx hb dL_shares_0 rfl (lv_at hl 2 rfl) ?_
  refine lv_iconst (v := 0) hx hb dL_shares_1 (by decide) ?_
  refine lv_aload_n hx hb dL_shares_2 rfl (lv_at hl 0 rfl) ?_
  refine lv_iload_n hx hb dL_shares_3 rfl (lv_at hl 1 rfl) ?_
  refine sg_xcalli hD hS hA (vx_runV (As := [.int i]) (rest := [.int 0, .ref b]) ⟨hx, hb, hml, hown, hts⟩ (c_X2_shares l hfl D Y _ _ x aM N aO aL aC P i hQ.self) (cwV 1 hts gL_shares_X2_shares rfl rfl rfl (by decide +kernel) ⟨(Nat.le_of_ble_eq_true rfl), (Nat.le_of_ble_eq_true rfl)⟩) (sg_preV (q := (RX2, TX2, 5)) (hQ.1) rfl hK hP hD hN hX hS hA) rfl rfl hl.1 rfl (lv_room (Nat.le_of_ble_eq_true rfl)) dL_shares_4 ⟨(Nat.le_of_ble_eq_true rfl), (Nat.le_of_ble_eq_true rfl)⟩) (fun E ce q9 H locs hpx hP hD hS hce hcv hcl => ?_) (fun r2 σ' H locs hw hP hD hS => ?_)
  · obtain ⟨rfl, hn⟩ := hpx
    refine vx_catch hown [] ⟨0, 9, 12, 27⟩ [] htab (fun z hz => absurd hz List.not_mem_nil) rfl (by decide) (hts (.classLink RL 27 "java/lang/IndexOutOfBoundsException") (by decide +kernel)) (va_Nw.use rfl (hN.2.2.1 _ (List.mem_of_getElem? (i := 0) rfl))) hce hcv hcl (W.eq (g2 := F0 m 12 ls [.ref q9]) rfl ?_)
    refine lv_astore_n (lv' := [(3, .ref q9), (0, .ref x), (1, .int i), (2, .ref b)]) hx hb dL_shares_12 rfl hl (by decide) rfl (fun ls hl => ?_)
    refine lv_iconst (v := 1) hx hb dL_shares_13 (by decide) ?_
    exact vx_ret (sg_iret hx hb hr rfl hlocks hP hD hS (Nat.le_of_ble_eq_true rfl) (Nat.le_of_ble_eq_true rfl) dL_shares_14 (HQ.no (show tMem M i = 1 from t1_1 (fun q => hn ((h.mem i).mp q))) (by decide)))
  obtain ⟨hr2, hvi, rfl⟩ := hw
  have hr2 := hr2.trans (shares_A hR hvi)
  have hI := (q_S h hR 0).1
  have hR2 := (q_S h hR 0).2
  subst hr2
  refine lv_i2l hx hb dL_shares_7 rfl ?_
  refine sg_last hx hb hK hP hD hS (n := 120) (N := 1) ((hQ.2.2.2.1 120 (by omega)).trans ho) (vp_in_nI (n := 0) (by decide) (by decide)) dL_shares_8 (fun H locs hP hD hS => ?_)
  refine lv_goto (tgt := 15) hx hb dL_shares_9 (by decide) ?_
  refine lv_iconst (v := 0) hx hb dL_shares_15 (by decide) ?_
  exact vx_ret (sg_iret hx hb hr rfl hlocks hP hD hS (Nat.le_of_ble_eq_true rfl) (Nat.le_of_ble_eq_true rfl) dL_shares_16 (HQ.ok (show tMem M i = 0 from t1_0 ((h.mem i).mpr hvi)) (GX.mk hQ hI hR2)))

set_option maxHeartbeats 4000000 in
set_option maxRecDepth 100000 in
theorem c_L_bought (l : Launch) (hfl : l.stackTraces = false) (D : va_G) (Y : Nat → ClassId) (σ : sg_W) (sz : Nat) (x b aM N t c : Nat) (aO aL aC : Nat → Nat) (P : PS) (M : MS) (f : Nat → Int64) (i y : Int32) (hQ : PF Y x aM N aO aL aC σ P σ) (ho : σ 120 = some (b, .inl (Y 1, 1, .inr (.inl f)))) (h : IV M N t c 7) (hc : c < 512) (hR : RW M N P) : vx_Met l yL_bought wsL_bought ({ frames := 8, cells := 3, slots := 18, locals := 136 } : Room) (va_Pc [.ref x, .int i, .int y, .ref b] (lh_U D Y σ sz)) (va_Qi (fun r σ' => HQ Y x b σ (tMonth M i y) (uS M 19 0) (c + 1) ((rBought M i y).toInt64) r σ') (sg_B D σ sz) (sg_A σ sz)) (sg_T9 D σ sz (fun _ => False)) 3 18 (sg_A σ sz) := by
  refine lh_met (cc := cL_bought) (maxL := 5) (ret := (some .int)) (hh := [(0, 10, 13, 27)]) (by decide) rfl (Nat.le_of_ble_eq_true rfl) ?_
  intro p e s m below meth cd9 ls hx hb hml htab hr hown hts hlocks hnm hP hK hD hN hC hX hA hS hsz hl
  have hl : lv_has ls 5 [(0, .ref x), (1, .int i), (2, .int y), (3, .ref b)] := hl
  refine lv_aload_n hx hb dL_bought_0 rfl (lv_at hl 3 rfl) ?_
  refine lv_iconst (v := 0) hx hb dL_bought_1 (by decide) ?_
  refine lv_aload_n hx hb dL_bought_2 rfl (lv_at hl 0 rfl) ?_
  refine lv_iload_n hx hb dL_bought_3 rfl (lv_at hl 1 rfl) ?_
  refine lv_iload_n hx hb dL_bought_4 rfl (lv_at hl 2 rfl) ?_
  refine sg_xcalli hD hS hA (vx_runV (As := [.int i, .int y]) (rest := [.int 0, .ref b]) ⟨hx, hb, hml, hown, hts⟩ (c_X2_bought l hfl D Y _ _ x aM N aO aL aC P i y hQ.self) (cwV 2 hts gL_bought_X2_bought rfl rfl rfl (by decide +kernel) ⟨(Nat.le_of_ble_eq_true rfl), (Nat.le_of_ble_eq_true rfl)⟩) (sg_preV (q := (RX2, TX2, 5)) (hQ.1) rfl hK hP hD hN hX hS hA) rfl rfl hl.1 rfl (lv_room (Nat.le_of_ble_eq_true rfl)) dL_bought_5 ⟨(Nat.le_of_ble_eq_true rfl), (Nat.le_of_ble_eq_true rfl)⟩) (fun E ce q9 H locs hpx hP hD hS hce hcv hcl => ?_) (fun r2 σ' H locs hw hP hD hS => ?_)
  · obtain ⟨rfl, hn⟩ := hpx
    refine vx_catch hown [] ⟨0, 10, 13, 27⟩ [] htab (fun z hz => absurd hz List.not_mem_nil) rfl (by decide) (hts (.classLink RL 27 "java/lang/IndexOutOfBoundsException") (by decide +kernel)) (va_Nw.use rfl (hN.2.2.1 _ (List.mem_of_getElem? (i := 0) rfl))) hce hcv hcl (W.eq (g2 := F0 m 13 ls [.ref q9]) rfl ?_)
    refine lv_astore (lv' := [(4, .ref q9), (0, .ref x), (1, .int i), (2, .int y), (3, .ref b)]) hx hb dL_bought_13 hl (by decide) rfl (fun ls hl => ?_)
    refine lv_iconst (v := 1) hx hb dL_bought_15 (by decide) ?_
    exact vx_ret (sg_iret hx hb hr rfl hlocks hP hD hS (Nat.le_of_ble_eq_true rfl) (Nat.le_of_ble_eq_true rfl) dL_bought_16 (HQ.no (show tMonth M i y = 1 from t1_1 (fun q => hn ⟨(h.mem i).mp q.1, q.2⟩)) (by decide)))
  obtain ⟨hr2, ⟨hvi, hqy⟩, rfl⟩ := hw
  have hr2 := hr2.trans (bought_A h hR hvi hqy)
  have hI := (q_S h hR 0).1
  have hR2 := (q_S h hR 0).2
  subst hr2
  refine lv_i2l hx hb dL_bought_8 rfl ?_
  refine sg_last hx hb hK hP hD hS (n := 120) (N := 1) ((hQ.2.2.2.1 120 (by omega)).trans ho) (vp_in_nI (n := 0) (by decide) (by decide)) dL_bought_9 (fun H locs hP hD hS => ?_)
  refine lv_goto (tgt := 17) hx hb dL_bought_10 (by decide) ?_
  refine lv_iconst (v := 0) hx hb dL_bought_17 (by decide) ?_
  exact vx_ret (sg_iret hx hb hr rfl hlocks hP hD hS (Nat.le_of_ble_eq_true rfl) (Nat.le_of_ble_eq_true rfl) dL_bought_18 (HQ.ok (show tMonth M i y = 0 from t1_0 ⟨((h.mem i).mpr hvi), hqy⟩) (GX.mk hQ hI hR2)))

set_option maxHeartbeats 4000000 in
set_option maxRecDepth 100000 in
theorem c_L_paidEach (l : Launch) (hfl : l.stackTraces = false) (D : va_G) (Y : Nat → ClassId) (σ : sg_W) (sz : Nat) (x b aM N t c : Nat) (aO aL aC : Nat → Nat) (P : PS) (M : MS) (f : Nat → Int64) (i y : Int32) (hQ : PF Y x aM N aO aL aC σ P σ) (ho : σ 120 = some (b, .inl (Y 1, 1, .inr (.inl f)))) (h : IV M N t c 7) (hc : c < 512) (hR : RW M N P) : vx_Met l yL_paidEach wsL_paidEach ({ frames := 8, cells := 3, slots := 18, locals := 136 } : Room) (va_Pc [.ref x, .int i, .int y, .ref b] (lh_U D Y σ sz)) (va_Qi (fun r σ' => HQ Y x b σ (tMonth M i y) (uS M 19 0) (c + 1) ((rPaid M i y).toInt64) r σ') (sg_B D σ sz) (sg_A σ sz)) (sg_T9 D σ sz (fun _ => False)) 3 18 (sg_A σ sz) := by
  refine lh_met (cc := cL_paidEach) (maxL := 5) (ret := (some .int)) (hh := [(0, 10, 13, 27)]) (by decide) rfl (Nat.le_of_ble_eq_true rfl) ?_
  intro p e s m below meth cd9 ls hx hb hml htab hr hown hts hlocks hnm hP hK hD hN hC hX hA hS hsz hl
  have hl : lv_has ls 5 [(0, .ref x), (1, .int i), (2, .int y), (3, .ref b)] := hl
  refine lv_aload_n hx hb dL_paidEach_0 rfl (lv_at hl 3 rfl) ?_
  refine lv_iconst (v := 0) hx hb dL_paidEach_1 (by decide) ?_
  refine lv_aload_n hx hb dL_paidEach_2 rfl (lv_at hl 0 rfl) ?_
  refine lv_iload_n hx hb dL_paidEach_3 rfl (lv_at hl 1 rfl) ?_
  refine lv_iload_n hx hb dL_paidEach_4 rfl (lv_at hl 2 rfl) ?_
  refine sg_xcalli hD hS hA (vx_runV (As := [.int i, .int y]) (rest := [.int 0, .ref b]) ⟨hx, hb, hml, hown, hts⟩ (c_X2_paidEach l hfl D Y _ _ x aM N aO aL aC P i y hQ.self) (cwV 2 hts gL_paidEach_X2_paidEach rfl rfl rfl (by decide +kernel) ⟨(Nat.le_of_ble_eq_true rfl), (Nat.le_of_ble_eq_true rfl)⟩) (sg_preV (q := (RX2, TX2, 5)) (hQ.1) rfl hK hP hD hN hX hS hA) rfl rfl hl.1 rfl (lv_room (Nat.le_of_ble_eq_true rfl)) dL_paidEach_5 ⟨(Nat.le_of_ble_eq_true rfl), (Nat.le_of_ble_eq_true rfl)⟩) (fun E ce q9 H locs hpx hP hD hS hce hcv hcl => ?_) (fun r2 σ' H locs hw hP hD hS => ?_)
  · obtain ⟨rfl, hn⟩ := hpx
    refine vx_catch hown [] ⟨0, 10, 13, 27⟩ [] htab (fun z hz => absurd hz List.not_mem_nil) rfl (by decide) (hts (.classLink RL 27 "java/lang/IndexOutOfBoundsException") (by decide +kernel)) (va_Nw.use rfl (hN.2.2.1 _ (List.mem_of_getElem? (i := 0) rfl))) hce hcv hcl (W.eq (g2 := F0 m 13 ls [.ref q9]) rfl ?_)
    refine lv_astore (lv' := [(4, .ref q9), (0, .ref x), (1, .int i), (2, .int y), (3, .ref b)]) hx hb dL_paidEach_13 hl (by decide) rfl (fun ls hl => ?_)
    refine lv_iconst (v := 1) hx hb dL_paidEach_15 (by decide) ?_
    exact vx_ret (sg_iret hx hb hr rfl hlocks hP hD hS (Nat.le_of_ble_eq_true rfl) (Nat.le_of_ble_eq_true rfl) dL_paidEach_16 (HQ.no (show tMonth M i y = 1 from t1_1 (fun q => hn ⟨(h.mem i).mp q.1, q.2⟩)) (by decide)))
  obtain ⟨hr2, ⟨hvi, hqy⟩, rfl⟩ := hw
  have hr2 := hr2.trans (paidEach_A h hR hvi hqy)
  have hI := (q_S h hR 0).1
  have hR2 := (q_S h hR 0).2
  subst hr2
  refine lv_i2l hx hb dL_paidEach_8 rfl ?_
  refine sg_last hx hb hK hP hD hS (n := 120) (N := 1) ((hQ.2.2.2.1 120 (by omega)).trans ho) (vp_in_nI (n := 0) (by decide) (by decide)) dL_paidEach_9 (fun H locs hP hD hS => ?_)
  refine lv_goto (tgt := 17) hx hb dL_paidEach_10 (by decide) ?_
  refine lv_iconst (v := 0) hx hb dL_paidEach_17 (by decide) ?_
  exact vx_ret (sg_iret hx hb hr rfl hlocks hP hD hS (Nat.le_of_ble_eq_true rfl) (Nat.le_of_ble_eq_true rfl) dL_paidEach_18 (HQ.ok (show tMonth M i y = 0 from t1_0 ⟨((h.mem i).mpr hvi), hqy⟩) (GX.mk hQ hI hR2)))

set_option maxHeartbeats 4000000 in
set_option maxRecDepth 100000 in
theorem c_L_counted (l : Launch) (hfl : l.stackTraces = false) (D : va_G) (Y : Nat → ClassId) (σ : sg_W) (sz : Nat) (x b aM N t c : Nat) (aO aL aC : Nat → Nat) (P : PS) (M : MS) (f : Nat → Int64) (i y : Int32) (hQ : PF Y x aM N aO aL aC σ P σ) (ho : σ 120 = some (b, .inl (Y 1, 1, .inr (.inl f)))) (h : IV M N t c 7) (hc : c < 512) (hR : RW M N P) : vx_Met l yL_counted wsL_counted ({ frames := 8, cells := 3, slots := 18, locals := 135 } : Room) (va_Pc [.ref x, .int i, .int y, .ref b] (lh_U D Y σ sz)) (va_Qi (fun r σ' => HQ Y x b σ (tYear M i y) (uS M 19 0) (c + 1) ((cN M (tN i) (tN y))) r σ') (sg_B D σ sz) (sg_A σ sz)) (sg_T9 D σ sz (fun _ => False)) 3 18 (sg_A σ sz) := by
  refine lh_met (cc := cL_counted) (maxL := 5) (ret := (some .int)) (hh := [(0, 9, 12, 27)]) (by decide) rfl (Nat.le_of_ble_eq_true rfl) ?_
  intro p e s m below meth cd9 ls hx hb hml htab hr hown hts hlocks hnm hP hK hD hN hC hX hA hS hsz hl
  have hl : lv_has ls 5 [(0, .ref x), (1, .int i), (2, .int y), (3, .ref b)] := hl
  refine lv_aload_n hx hb dL_counted_0 rfl (lv_at hl 3 rfl) ?_
  refine lv_iconst (v := 0) hx hb dL_counted_1 (by decide) ?_
  refine lv_aload_n hx hb dL_counted_2 rfl (lv_at hl 0 rfl) ?_
  refine lv_iload_n hx hb dL_counted_3 rfl (lv_at hl 1 rfl) ?_
  refine lv_iload_n hx hb dL_counted_4 rfl (lv_at hl 2 rfl) ?_
  refine sg_xcalll hD hS hA (vx_runV (As := [.int i, .int y]) (rest := [.int 0, .ref b]) ⟨hx, hb, hml, hown, hts⟩ (c_X2_counted l hfl D Y _ _ x aM N aO aL aC P i y hQ.self) (cwV 2 hts gL_counted_X2_counted rfl rfl rfl (by decide +kernel) ⟨(Nat.le_of_ble_eq_true rfl), (Nat.le_of_ble_eq_true rfl)⟩) (sg_preV (q := (RX2, TX2, 5)) (hQ.1) rfl hK hP hD hN hX hS hA) rfl rfl hl.1 rfl (lv_room (Nat.le_of_ble_eq_true rfl)) dL_counted_5 ⟨(Nat.le_of_ble_eq_true rfl), (Nat.le_of_ble_eq_true rfl)⟩) (fun E ce q9 H locs hpx hP hD hS hce hcv hcl => ?_) (fun r2 σ' H locs hw hP hD hS => ?_)
  · obtain ⟨rfl, hn⟩ := hpx
    refine vx_catch hown [] ⟨0, 9, 12, 27⟩ [] htab (fun z hz => absurd hz List.not_mem_nil) rfl (by decide) (hts (.classLink RL 27 "java/lang/IndexOutOfBoundsException") (by decide +kernel)) (va_Nw.use rfl (hN.2.2.1 _ (List.mem_of_getElem? (i := 0) rfl))) hce hcv hcl (W.eq (g2 := F0 m 12 ls [.ref q9]) rfl ?_)
    refine lv_astore (lv' := [(4, .ref q9), (0, .ref x), (1, .int i), (2, .int y), (3, .ref b)]) hx hb dL_counted_12 hl (by decide) rfl (fun ls hl => ?_)
    refine lv_iconst (v := 1) hx hb dL_counted_14 (by decide) ?_
    exact vx_ret (sg_iret hx hb hr rfl hlocks hP hD hS (Nat.le_of_ble_eq_true rfl) (Nat.le_of_ble_eq_true rfl) dL_counted_15 (HQ.no (show tYear M i y = 1 from t1_1 (fun q => hn ⟨(h.mem i).mp q.1, q.2⟩)) (by decide)))
  obtain ⟨hr2, ⟨hvi, hqy⟩, rfl⟩ := hw
  have hr2 := hr2.trans (counted_A hR hvi hqy)
  have hI := (q_S h hR 0).1
  have hR2 := (q_S h hR 0).2
  subst hr2
  refine sg_last hx hb hK hP hD hS (n := 120) (N := 1) ((hQ.2.2.2.1 120 (by omega)).trans ho) (vp_in_nI (n := 0) (by decide) (by decide)) dL_counted_8 (fun H locs hP hD hS => ?_)
  refine lv_goto (tgt := 16) hx hb dL_counted_9 (by decide) ?_
  refine lv_iconst (v := 0) hx hb dL_counted_16 (by decide) ?_
  exact vx_ret (sg_iret hx hb hr rfl hlocks hP hD hS (Nat.le_of_ble_eq_true rfl) (Nat.le_of_ble_eq_true rfl) dL_counted_17 (HQ.ok (show tYear M i y = 0 from t1_0 ⟨((h.mem i).mpr hvi), hqy⟩) (GX.mk hQ hI hR2)))

set_option maxHeartbeats 4000000 in
set_option maxRecDepth 100000 in
theorem c_L_traced (l : Launch) (hfl : l.stackTraces = false) (D : va_G) (Y : Nat → ClassId) (σ : sg_W) (sz : Nat) (x b aM N t c : Nat) (aO aL aC : Nat → Nat) (P : PS) (M : MS) (f : Nat → Int64) (i : Int32) (hQ : PF Y x aM N aO aL aC σ P σ) (ho : σ 120 = some (b, .inl (Y 1, 1, .inr (.inl f)))) (h : IV M N t c 7) (hc : c < 512) (hR : RW M N P) : vx_Met l yL_traced wsL_traced ({ frames := 8, cells := 1, slots := 6, locals := 134 } : Room) (va_Pc [.ref x, .int i, .ref b] (lh_U D Y σ sz)) (va_Qi (fun r σ' => HQ Y x b σ (tMem M i) (uS M 19 0) (c + 1) ((sL M 8 (tN i) + (sI M 6 (tN i)).toInt64 + (sI M 7 (tN i)).toInt64)) r σ') (sg_B D σ sz) (sg_A σ sz)) (sg_T9 D σ sz (fun _ => False)) 1 6 (sg_A σ sz) := by
  refine lh_met (cc := cL_traced) (maxL := 4) (ret := (some .int)) (hh := [(0, 8, 11, 27)]) (by decide) rfl (Nat.le_of_ble_eq_true rfl) ?_
  intro p e s m below meth cd9 ls hx hb hml htab hr hown hts hlocks hnm hP hK hD hN hC hX hA hS hsz hl
  have hl : lv_has ls 4 [(0, .ref x), (1, .int i), (2, .ref b)] := hl
  refine lv_aload_n hx hb dL_traced_0 rfl (lv_at hl 2 rfl) ?_
  refine lv_iconst (v := 0) hx hb dL_traced_1 (by decide) ?_
  refine lv_aload_n hx hb dL_traced_2 rfl (lv_at hl 0 rfl) ?_
  refine lv_iload_n hx hb dL_traced_3 rfl (lv_at hl 1 rfl) ?_
  refine sg_xcalll hD hS hA (vx_runV (As := [.int i]) (rest := [.int 0, .ref b]) ⟨hx, hb, hml, hown, hts⟩ (c_X2_traced l hfl D Y _ _ x aM N aO aL aC P i hQ.self) (cwV 1 hts gL_traced_X2_traced rfl rfl rfl (by decide +kernel) ⟨(Nat.le_of_ble_eq_true rfl), (Nat.le_of_ble_eq_true rfl)⟩) (sg_preV (q := (RX2, TX2, 5)) (hQ.1) rfl hK hP hD hN hX hS hA) rfl rfl hl.1 rfl (lv_room (Nat.le_of_ble_eq_true rfl)) dL_traced_4 ⟨(Nat.le_of_ble_eq_true rfl), (Nat.le_of_ble_eq_true rfl)⟩) (fun E ce q9 H locs hpx hP hD hS hce hcv hcl => ?_) (fun r2 σ' H locs hw hP hD hS => ?_)
  · obtain ⟨rfl, hn⟩ := hpx
    refine vx_catch hown [] ⟨0, 8, 11, 27⟩ [] htab (fun z hz => absurd hz List.not_mem_nil) rfl (by decide) (hts (.classLink RL 27 "java/lang/IndexOutOfBoundsException") (by decide +kernel)) (va_Nw.use rfl (hN.2.2.1 _ (List.mem_of_getElem? (i := 0) rfl))) hce hcv hcl (W.eq (g2 := F0 m 11 ls [.ref q9]) rfl ?_)
    refine lv_astore_n (lv' := [(3, .ref q9), (0, .ref x), (1, .int i), (2, .ref b)]) hx hb dL_traced_11 rfl hl (by decide) rfl (fun ls hl => ?_)
    refine lv_iconst (v := 1) hx hb dL_traced_12 (by decide) ?_
    exact vx_ret (sg_iret hx hb hr rfl hlocks hP hD hS (Nat.le_of_ble_eq_true rfl) (Nat.le_of_ble_eq_true rfl) dL_traced_13 (HQ.no (show tMem M i = 1 from t1_1 (fun q => hn ((h.mem i).mp q))) (by decide)))
  obtain ⟨hr2, hvi, rfl⟩ := hw
  have hr2 := hr2.trans (traced_A hR hvi)
  have hI := (q_S h hR 0).1
  have hR2 := (q_S h hR 0).2
  subst hr2
  refine sg_last hx hb hK hP hD hS (n := 120) (N := 1) ((hQ.2.2.2.1 120 (by omega)).trans ho) (vp_in_nI (n := 0) (by decide) (by decide)) dL_traced_7 (fun H locs hP hD hS => ?_)
  refine lv_goto (tgt := 14) hx hb dL_traced_8 (by decide) ?_
  refine lv_iconst (v := 0) hx hb dL_traced_14 (by decide) ?_
  exact vx_ret (sg_iret hx hb hr rfl hlocks hP hD hS (Nat.le_of_ble_eq_true rfl) (Nat.le_of_ble_eq_true rfl) dL_traced_15 (HQ.ok (show tMem M i = 0 from t1_0 ((h.mem i).mpr hvi)) (GX.mk hQ hI hR2)))

set_option maxHeartbeats 4000000 in
set_option maxRecDepth 100000 in
theorem c_L_kept (l : Launch) (hfl : l.stackTraces = false) (D : va_G) (Y : Nat → ClassId) (σ : sg_W) (sz : Nat) (x b aM N t c : Nat) (aO aL aC : Nat → Nat) (P : PS) (M : MS) (f : Nat → Int64) (i : Int32) (hQ : PF Y x aM N aO aL aC σ P σ) (ho : σ 120 = some (b, .inl (Y 1, 1, .inr (.inl f)))) (h : IV M N t c 7) (hc : c < 512) (hR : RW M N P) : vx_Met l yL_kept wsL_kept ({ frames := 8, cells := 1, slots := 6, locals := 133 } : Room) (va_Pc [.ref x, .int i, .ref b] (lh_U D Y σ sz)) (va_Qi (fun r σ' => HQ Y x b σ (tMem M i) (uS M 19 0) (c + 1) ((sL M 9 (tN i))) r σ') (sg_B D σ sz) (sg_A σ sz)) (sg_T9 D σ sz (fun _ => False)) 1 6 (sg_A σ sz) := by
  refine lh_met (cc := cL_kept) (maxL := 4) (ret := (some .int)) (hh := [(0, 8, 11, 27)]) (by decide) rfl (Nat.le_of_ble_eq_true rfl) ?_
  intro p e s m below meth cd9 ls hx hb hml htab hr hown hts hlocks hnm hP hK hD hN hC hX hA hS hsz hl
  have hl : lv_has ls 4 [(0, .ref x), (1, .int i), (2, .ref b)] := hl
  refine lv_aload_n hx hb dL_kept_0 rfl (lv_at hl 2 rfl) ?_
  refine lv_iconst (v := 0) hx hb dL_kept_1 (by decide) ?_
  refine lv_aload_n hx hb dL_kept_2 rfl (lv_at hl 0 rfl) ?_
  refine lv_iload_n hx hb dL_kept_3 rfl (lv_at hl 1 rfl) ?_
  refine sg_xcalll hD hS hA (vx_runV (As := [.int i]) (rest := [.int 0, .ref b]) ⟨hx, hb, hml, hown, hts⟩ (c_X2_kept l hfl D Y _ _ x aM N aO aL aC P i hQ.self) (cwV 1 hts gL_kept_X2_kept rfl rfl rfl (by decide +kernel) ⟨(Nat.le_of_ble_eq_true rfl), (Nat.le_of_ble_eq_true rfl)⟩) (sg_preV (q := (RX2, TX2, 5)) (hQ.1) rfl hK hP hD hN hX hS hA) rfl rfl hl.1 rfl (lv_room (Nat.le_of_ble_eq_true rfl)) dL_kept_4 ⟨(Nat.le_of_ble_eq_true rfl), (Nat.le_of_ble_eq_true rfl)⟩) (fun E ce q9 H locs hpx hP hD hS hce hcv hcl => ?_) (fun r2 σ' H locs hw hP hD hS => ?_)
  · obtain ⟨rfl, hn⟩ := hpx
    refine vx_catch hown [] ⟨0, 8, 11, 27⟩ [] htab (fun z hz => absurd hz List.not_mem_nil) rfl (by decide) (hts (.classLink RL 27 "java/lang/IndexOutOfBoundsException") (by decide +kernel)) (va_Nw.use rfl (hN.2.2.1 _ (List.mem_of_getElem? (i := 0) rfl))) hce hcv hcl (W.eq (g2 := F0 m 11 ls [.ref q9]) rfl ?_)
    refine lv_astore_n (lv' := [(3, .ref q9), (0, .ref x), (1, .int i), (2, .ref b)]) hx hb dL_kept_11 rfl hl (by decide) rfl (fun ls hl => ?_)
    refine lv_iconst (v := 1) hx hb dL_kept_12 (by decide) ?_
    exact vx_ret (sg_iret hx hb hr rfl hlocks hP hD hS (Nat.le_of_ble_eq_true rfl) (Nat.le_of_ble_eq_true rfl) dL_kept_13 (HQ.no (show tMem M i = 1 from t1_1 (fun q => hn ((h.mem i).mp q))) (by decide)))
  obtain ⟨hr2, hvi, rfl⟩ := hw
  have hr2 := hr2.trans (kept_A hR hvi)
  have hI := (q_S h hR 0).1
  have hR2 := (q_S h hR 0).2
  subst hr2
  refine sg_last hx hb hK hP hD hS (n := 120) (N := 1) ((hQ.2.2.2.1 120 (by omega)).trans ho) (vp_in_nI (n := 0) (by decide) (by decide)) dL_kept_7 (fun H locs hP hD hS => ?_)
  refine lv_goto (tgt := 14) hx hb dL_kept_8 (by decide) ?_
  refine lv_iconst (v := 0) hx hb dL_kept_14 (by decide) ?_
  exact vx_ret (sg_iret hx hb hr rfl hlocks hP hD hS (Nat.le_of_ble_eq_true rfl) (Nat.le_of_ble_eq_true rfl) dL_kept_15 (HQ.ok (show tMem M i = 0 from t1_0 ((h.mem i).mpr hvi)) (GX.mk hQ hI hR2)))

set_option maxHeartbeats 4000000 in
set_option maxRecDepth 100000 in
theorem c_L_pay (l : Launch) (hfl : l.stackTraces = false) (D : va_G) (Y : Nat → ClassId) (σ : sg_W) (sz : Nat) (x b aM N t c : Nat) (aO aL aC : Nat → Nat) (P : PS) (M : MS) (f : Nat → Int64) (i : Int32) (hQ : PF Y x aM N aO aL aC σ P σ) (ho : σ 120 = some (b, .inl (Y 1, 1, .inr (.inl f)))) (h : IV M N t c 7) (hc : c < 512) (hR : RW M N P) : vx_Met l yL_pay wsL_pay ({ frames := 8, cells := 1, slots := 6, locals := 133 } : Room) (va_Pc [.ref x, .int i, .ref b] (lh_U D Y σ sz)) (va_Qi (fun r σ' => HQ Y x b σ (tMem M i) (uS M 19 0) (c + 1) ((sL M 13 (tN i))) r σ') (sg_B D σ sz) (sg_A σ sz)) (sg_T9 D σ sz (fun _ => False)) 1 6 (sg_A σ sz) := by
  refine lh_met (cc := cL_pay) (maxL := 4) (ret := (some .int)) (hh := [(0, 8, 11, 27)]) (by decide) rfl (Nat.le_of_ble_eq_true rfl) ?_
  intro p e s m below meth cd9 ls hx hb hml htab hr hown hts hlocks hnm hP hK hD hN hC hX hA hS hsz hl
  have hl : lv_has ls 4 [(0, .ref x), (1, .int i), (2, .ref b)] := hl
  refine lv_aload_n hx hb dL_pay_0 rfl (lv_at hl 2 rfl) ?_
  refine lv_iconst (v := 0) hx hb dL_pay_1 (by decide) ?_
  refine lv_aload_n hx hb dL_pay_2 rfl (lv_at hl 0 rfl) ?_
  refine lv_iload_n hx hb dL_pay_3 rfl (lv_at hl 1 rfl) ?_
  refine sg_xcalll hD hS hA (vx_runV (As := [.int i]) (rest := [.int 0, .ref b]) ⟨hx, hb, hml, hown, hts⟩ (c_X2_pay l hfl D Y _ _ x aM N aO aL aC P i hQ.self) (cwV 1 hts gL_pay_X2_pay rfl rfl rfl (by decide +kernel) ⟨(Nat.le_of_ble_eq_true rfl), (Nat.le_of_ble_eq_true rfl)⟩) (sg_preV (q := (RX2, TX2, 5)) (hQ.1) rfl hK hP hD hN hX hS hA) rfl rfl hl.1 rfl (lv_room (Nat.le_of_ble_eq_true rfl)) dL_pay_4 ⟨(Nat.le_of_ble_eq_true rfl), (Nat.le_of_ble_eq_true rfl)⟩) (fun E ce q9 H locs hpx hP hD hS hce hcv hcl => ?_) (fun r2 σ' H locs hw hP hD hS => ?_)
  · obtain ⟨rfl, hn⟩ := hpx
    refine vx_catch hown [] ⟨0, 8, 11, 27⟩ [] htab (fun z hz => absurd hz List.not_mem_nil) rfl (by decide) (hts (.classLink RL 27 "java/lang/IndexOutOfBoundsException") (by decide +kernel)) (va_Nw.use rfl (hN.2.2.1 _ (List.mem_of_getElem? (i := 0) rfl))) hce hcv hcl (W.eq (g2 := F0 m 11 ls [.ref q9]) rfl ?_)
    refine lv_astore_n (lv' := [(3, .ref q9), (0, .ref x), (1, .int i), (2, .ref b)]) hx hb dL_pay_11 rfl hl (by decide) rfl (fun ls hl => ?_)
    refine lv_iconst (v := 1) hx hb dL_pay_12 (by decide) ?_
    exact vx_ret (sg_iret hx hb hr rfl hlocks hP hD hS (Nat.le_of_ble_eq_true rfl) (Nat.le_of_ble_eq_true rfl) dL_pay_13 (HQ.no (show tMem M i = 1 from t1_1 (fun q => hn ((h.mem i).mp q))) (by decide)))
  obtain ⟨hr2, hvi, rfl⟩ := hw
  have hr2 := hr2.trans (pay_A hR hvi)
  have hI := (q_S h hR 0).1
  have hR2 := (q_S h hR 0).2
  subst hr2
  refine sg_last hx hb hK hP hD hS (n := 120) (N := 1) ((hQ.2.2.2.1 120 (by omega)).trans ho) (vp_in_nI (n := 0) (by decide) (by decide)) dL_pay_7 (fun H locs hP hD hS => ?_)
  refine lv_goto (tgt := 14) hx hb dL_pay_8 (by decide) ?_
  refine lv_iconst (v := 0) hx hb dL_pay_14 (by decide) ?_
  exact vx_ret (sg_iret hx hb hr rfl hlocks hP hD hS (Nat.le_of_ble_eq_true rfl) (Nat.le_of_ble_eq_true rfl) dL_pay_15 (HQ.ok (show tMem M i = 0 from t1_0 ((h.mem i).mpr hvi)) (GX.mk hQ hI hR2)))

set_option maxHeartbeats 4000000 in
set_option maxRecDepth 100000 in
theorem c_L_gain (l : Launch) (hfl : l.stackTraces = false) (D : va_G) (Y : Nat → ClassId) (σ : sg_W) (sz : Nat) (x b aM N t c : Nat) (aO aL aC : Nat → Nat) (P : PS) (M : MS) (f : Nat → Int64) (i : Int32) (hQ : PF Y x aM N aO aL aC σ P σ) (ho : σ 120 = some (b, .inl (Y 1, 1, .inr (.inl f)))) (h : IV M N t c 7) (hc : c < 512) (hR : RW M N P) : vx_Met l yL_gain wsL_gain ({ frames := 8, cells := 1, slots := 6, locals := 133 } : Room) (va_Pc [.ref x, .int i, .ref b] (lh_U D Y σ sz)) (va_Qi (fun r σ' => HQ Y x b σ (tMem M i) (uS M 19 0) (c + 1) ((sL M 14 (tN i))) r σ') (sg_B D σ sz) (sg_A σ sz)) (sg_T9 D σ sz (fun _ => False)) 1 6 (sg_A σ sz) := by
  refine lh_met (cc := cL_gain) (maxL := 4) (ret := (some .int)) (hh := [(0, 8, 11, 27)]) (by decide) rfl (Nat.le_of_ble_eq_true rfl) ?_
  intro p e s m below meth cd9 ls hx hb hml htab hr hown hts hlocks hnm hP hK hD hN hC hX hA hS hsz hl
  have hl : lv_has ls 4 [(0, .ref x), (1, .int i), (2, .ref b)] := hl
  refine lv_aload_n hx hb dL_gain_0 rfl (lv_at hl 2 rfl) ?_
  refine lv_iconst (v := 0) hx hb dL_gain_1 (by decide) ?_
  refine lv_aload_n hx hb dL_gain_2 rfl (lv_at hl 0 rfl) ?_
  refine lv_iload_n hx hb dL_gain_3 rfl (lv_at hl 1 rfl) ?_
  refine sg_xcalll hD hS hA (vx_runV (As := [.int i]) (rest := [.int 0, .ref b]) ⟨hx, hb, hml, hown, hts⟩ (c_X2_gain l hfl D Y _ _ x aM N aO aL aC P i hQ.self) (cwV 1 hts gL_gain_X2_gain rfl rfl rfl (by decide +kernel) ⟨(Nat.le_of_ble_eq_true rfl), (Nat.le_of_ble_eq_true rfl)⟩) (sg_preV (q := (RX2, TX2, 5)) (hQ.1) rfl hK hP hD hN hX hS hA) rfl rfl hl.1 rfl (lv_room (Nat.le_of_ble_eq_true rfl)) dL_gain_4 ⟨(Nat.le_of_ble_eq_true rfl), (Nat.le_of_ble_eq_true rfl)⟩) (fun E ce q9 H locs hpx hP hD hS hce hcv hcl => ?_) (fun r2 σ' H locs hw hP hD hS => ?_)
  · obtain ⟨rfl, hn⟩ := hpx
    refine vx_catch hown [] ⟨0, 8, 11, 27⟩ [] htab (fun z hz => absurd hz List.not_mem_nil) rfl (by decide) (hts (.classLink RL 27 "java/lang/IndexOutOfBoundsException") (by decide +kernel)) (va_Nw.use rfl (hN.2.2.1 _ (List.mem_of_getElem? (i := 0) rfl))) hce hcv hcl (W.eq (g2 := F0 m 11 ls [.ref q9]) rfl ?_)
    refine lv_astore_n (lv' := [(3, .ref q9), (0, .ref x), (1, .int i), (2, .ref b)]) hx hb dL_gain_11 rfl hl (by decide) rfl (fun ls hl => ?_)
    refine lv_iconst (v := 1) hx hb dL_gain_12 (by decide) ?_
    exact vx_ret (sg_iret hx hb hr rfl hlocks hP hD hS (Nat.le_of_ble_eq_true rfl) (Nat.le_of_ble_eq_true rfl) dL_gain_13 (HQ.no (show tMem M i = 1 from t1_1 (fun q => hn ((h.mem i).mp q))) (by decide)))
  obtain ⟨hr2, hvi, rfl⟩ := hw
  have hr2 := hr2.trans (gain_A hR hvi)
  have hI := (q_S h hR 0).1
  have hR2 := (q_S h hR 0).2
  subst hr2
  refine sg_last hx hb hK hP hD hS (n := 120) (N := 1) ((hQ.2.2.2.1 120 (by omega)).trans ho) (vp_in_nI (n := 0) (by decide) (by decide)) dL_gain_7 (fun H locs hP hD hS => ?_)
  refine lv_goto (tgt := 14) hx hb dL_gain_8 (by decide) ?_
  refine lv_iconst (v := 0) hx hb dL_gain_14 (by decide) ?_
  exact vx_ret (sg_iret hx hb hr rfl hlocks hP hD hS (Nat.le_of_ble_eq_true rfl) (Nat.le_of_ble_eq_true rfl) dL_gain_15 (HQ.ok (show tMem M i = 0 from t1_0 ((h.mem i).mpr hvi)) (GX.mk hQ hI hR2)))
