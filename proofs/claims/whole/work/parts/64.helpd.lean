theorem c_X2_sellG (l : Launch) (hfl : l.stackTraces = false) (D : va_G) (Y : Nat → ClassId) (σ : sg_W) (sz : Nat) (x aM N : Nat) (aO aL aC : Nat → Nat) (P : PS) (i y : Int32) (hQ : PF Y x aM N aO aL aC σ P σ) (G : kSell) (hG : G = kSellN (pS P 2) (pS P 3) 10 (pC P (tN i), y, 0)) (S2 : Int32) (hS2 : S2 = kSum (pC P (tN i)) 10) : vx_Met l yX2_sell wsX2_sell ({ frames := 7, cells := 3, slots := 18, locals := 112 } : Room) (va_Pc [.ref x, .int i, .int y] (sg_U D Y σ sz)) (va_Qi (fun r σ' => r = G.2.2 ∧ vp_in i N ∧ qIn y 1 1000000 ∧ y ≤ S2 ∧ PF Y x aM N aO aL aC σ (uPC P (tN i) G.1) σ') (sg_B D σ sz) (sg_A σ sz)) (sg_T9 D σ sz (fun E => (E = "java/lang/IndexOutOfBoundsException" ∧ ¬ vp_in i N) ∨ (vp_in i N ∧ E = "java/lang/IllegalArgumentException" ∧ ¬ qIn y 1 1000000) ∨ (vp_in i N ∧ qIn y 1 1000000 ∧ E = "java/lang/IllegalStateException" ∧ ¬ y ≤ S2))) 3 18 (sg_A σ sz) := by
  subst hG
  subst hS2
  exact c_X2_sell l hfl D Y σ sz x aM N aO aL aC P i y hQ
set_option maxHeartbeats 600000 in
set_option maxRecDepth 100000 in
theorem c_L_sellG (l : Launch) (hfl : l.stackTraces = false) (D : va_G) (Y : Nat → ClassId) (σ : sg_W) (sz : Nat) (x b aM N t c : Nat) (aO aL aC : Nat → Nat) (P : PS) (M : MS) (f : Nat → Int64) (i y : Int32) (hQ : PF Y x aM N aO aL aC σ P σ) (ho : σ 120 = some (b, .inl (Y 1, 1, .inr (.inl f)))) (h : IV M N t c 7) (hc : c < 512) (hR : RW M N P) (T : Int32) (hT : T = tSell M i y) (Z : mSell) (hZ : Z = xSell (uS M 19 0) i y) : vx_Met l yL_sell wsL_sell ({ frames := 8, cells := 3, slots := 18, locals := 135 } : Room) (va_Pc [.ref x, .int i, .int y, .ref b] (lh_U D Y σ sz)) (va_Qi (fun r σ' => HQ Y x b σ T Z.1 (c + 1) Z.2.2.toInt64 r σ') (sg_B D σ sz) (sg_A σ sz)) (sg_T9 D σ sz (fun _ => False)) 3 18 (sg_A σ sz) := by
  refine lh_met (cc := cL_sell) (maxL := 5) (ret := (some .int)) (hh := [(0, 10, 13, 27), (0, 10, 17, 13), (0, 10, 21, 15)]) (by decide) rfl (Nat.le_of_ble_eq_true rfl) ?_
  intro p e s m below meth cd9 ls hx hb hml htab hr hown hts hlocks hnm hP hK hD hN hC hX hA hS hsz hl
  have hl : lv_has ls 5 [(0, .ref x), (1, .int i), (2, .int y), (3, .ref b)] := hl
  obtain ⟨G, hG⟩ : ∃ G, G = kSellN (pS P 2) (pS P 3) 10 (pC P (tN i), y, 0) := ⟨_, rfl⟩
  obtain ⟨S2, hS2⟩ : ∃ S2, S2 = kSum (pC P (tN i)) 10 := ⟨_, rfl⟩
  refine lv_aload_n hx hb dL_sell_0 rfl (lv_at hl 3 rfl) ?_
  refine lv_iconst (v := 0) hx hb dL_sell_1 (by decide) ?_
  refine lv_aload_n hx hb dL_sell_2 rfl (lv_at hl 0 rfl) ?_
  refine lv_iload_n hx hb dL_sell_3 rfl (lv_at hl 1 rfl) ?_
  refine lv_iload_n hx hb dL_sell_4 rfl (lv_at hl 2 rfl) ?_
  refine sg_xcalli hD hS hA (vx_runV (As := [.int i, .int y]) (rest := [.int 0, .ref b]) ⟨hx, hb, hml, hown, hts⟩ (c_X2_sellG l hfl D Y _ _ x aM N aO aL aC P i y hQ.self G hG S2 hS2) (cwV 2 hts gL_sell_X2_sell rfl rfl rfl (by decide +kernel) ⟨(Nat.le_of_ble_eq_true rfl), (Nat.le_of_ble_eq_true rfl)⟩) (sg_preV (q := (RX2, TX2, 5)) (hQ.1) rfl hK hP hD hN hX hS hA) rfl rfl hl.1 rfl (lv_room (Nat.le_of_ble_eq_true rfl)) dL_sell_5 ⟨(Nat.le_of_ble_eq_true rfl), (Nat.le_of_ble_eq_true rfl)⟩) (fun E ce q9 H locs hpx hP hD hS hce hcv hcl => ?_) (fun r2 σ' H locs hw hP hD hS => ?_)
  · rcases hpx with ⟨rfl, hn⟩ | ⟨hvi, rfl, hn⟩ | ⟨hvi, hqy, rfl, hn⟩
    · refine vx_catch hown [] ⟨0, 10, 13, 27⟩ [⟨0, 10, 17, 13⟩, ⟨0, 10, 21, 15⟩] htab (fun z hz => absurd hz List.not_mem_nil) rfl (by decide) (hts (.classLink RL 27 "java/lang/IndexOutOfBoundsException") (by decide +kernel)) (va_Nw.use rfl (hN.2.2.1 _ (List.mem_of_getElem? (i := 0) rfl))) hce hcv hcl (W.eq (g2 := F0 m 13 ls [.ref q9]) rfl ?_)
      refine lv_astore (lv' := [(4, .ref q9), (0, .ref x), (1, .int i), (2, .int y), (3, .ref b)]) hx hb dL_sell_13 hl (by decide) rfl (fun ls hl => ?_)
      refine lv_iconst (v := 1) hx hb dL_sell_15 (by decide) ?_
      exact vx_ret (sg_iret hx hb hr rfl hlocks hP hD hS (Nat.le_of_ble_eq_true rfl) (Nat.le_of_ble_eq_true rfl) dL_sell_16 (HQ.no (hT.trans (t3_1 (fun q => hn ((h.mem i).mp q)))) (by decide)))
    · refine vx_catch hown [⟨0, 10, 13, 27⟩] ⟨0, 10, 17, 13⟩ [⟨0, 10, 21, 15⟩] htab (fun z hz => by
      rcases List.mem_cons.mp hz with rfl | hz
      · exact Or.inr ⟨by decide, "java/lang/IndexOutOfBoundsException", hts (.classLink RL 27 "java/lang/IndexOutOfBoundsException") (by decide +kernel), hC.1⟩
      exact absurd hz List.not_mem_nil) rfl (by decide) (hts (.classLink RL 13 "java/lang/IllegalArgumentException") (by decide +kernel)) (va_Nw.use rfl (hN.2.2.1 _ (List.mem_of_getElem? (i := 1) rfl))) hce hcv hcl (W.eq (g2 := F0 m 17 ls [.ref q9]) rfl ?_)
      refine lv_astore (lv' := [(4, .ref q9), (0, .ref x), (1, .int i), (2, .int y), (3, .ref b)]) hx hb dL_sell_17 hl (by decide) rfl (fun ls hl => ?_)
      refine lv_iconst (v := 2) hx hb dL_sell_19 (by decide) ?_
      exact vx_ret (sg_iret hx hb hr rfl hlocks hP hD hS (Nat.le_of_ble_eq_true rfl) (Nat.le_of_ble_eq_true rfl) dL_sell_20 (HQ.no (hT.trans (t3_2 ((h.mem i).mpr hvi) hn)) (by decide)))
    · refine vx_catch hown [⟨0, 10, 13, 27⟩, ⟨0, 10, 17, 13⟩] ⟨0, 10, 21, 15⟩ [] htab (fun z hz => by
      rcases List.mem_cons.mp hz with rfl | hz
      · exact Or.inr ⟨by decide, "java/lang/IndexOutOfBoundsException", hts (.classLink RL 27 "java/lang/IndexOutOfBoundsException") (by decide +kernel), hC.2.1⟩
      rcases List.mem_cons.mp hz with rfl | hz
      · exact Or.inr ⟨by decide, "java/lang/IllegalArgumentException", hts (.classLink RL 13 "java/lang/IllegalArgumentException") (by decide +kernel), hC.2.2⟩
      exact absurd hz List.not_mem_nil) rfl (by decide) (hts (.classLink RL 15 "java/lang/IllegalStateException") (by decide +kernel)) (va_Nw.use rfl (hN.2.2.1 _ (List.mem_of_getElem? (i := 2) rfl))) hce hcv hcl (W.eq (g2 := F0 m 21 ls [.ref q9]) rfl ?_)
      refine lv_astore (lv' := [(4, .ref q9), (0, .ref x), (1, .int i), (2, .int y), (3, .ref b)]) hx hb dL_sell_21 hl (by decide) rfl (fun ls hl => ?_)
      refine lv_iconst (v := 3) hx hb dL_sell_23 (by decide) ?_
      exact vx_ret (sg_iret hx hb hr rfl hlocks hP hD hS (Nat.le_of_ble_eq_true rfl) (Nat.le_of_ble_eq_true rfl) dL_sell_24 (HQ.no (hT.trans (t3_3 ((h.mem i).mpr hvi) hqy (fun q => hn (by rw [hS2, shares_A hR hvi]; exact q.2)))) (by decide)))
  obtain ⟨hr2, hvi, hqy, hsl, hQ⟩ := hw
  obtain ⟨hI, hR2, hA2⟩ := sell_S (h.u19 (v := 0)) (hR.u19 (v := 0)) hvi hqy
  rw [← hZ] at hI hR2 hA2
  rw [← hG] at hR2 hA2
  have hr2 := hr2.trans hA2
  subst hr2
  refine lv_i2l hx hb dL_sell_8 rfl ?_
  refine sg_last hx hb hK hP hD hS (n := 120) (N := 1) ((hQ.2.2.2.1 120 (by omega)).trans ho) (vp_in_nI (n := 0) (by decide) (by decide)) dL_sell_9 (fun H locs hP hD hS => ?_)
  refine lv_goto (tgt := 25) hx hb dL_sell_10 (by decide) ?_
  refine lv_iconst (v := 0) hx hb dL_sell_25 (by decide) ?_
  exact vx_ret (sg_iret hx hb hr rfl hlocks hP hD hS (Nat.le_of_ble_eq_true rfl) (Nat.le_of_ble_eq_true rfl) dL_sell_26 (HQ.ok (hT.trans (t3_0 ((h.mem i).mpr hvi) hqy ⟨((h.mem i).mpr hvi), by rw [← shares_A hR hvi, ← hS2]; exact hsl⟩)) (GX.mk hQ hI hR2)))
theorem c_L_sell (l : Launch) (hfl : l.stackTraces = false) (D : va_G) (Y : Nat → ClassId) (σ : sg_W) (sz : Nat) (x b aM N t c : Nat) (aO aL aC : Nat → Nat) (P : PS) (M : MS) (f : Nat → Int64) (i y : Int32) (hQ : PF Y x aM N aO aL aC σ P σ) (ho : σ 120 = some (b, .inl (Y 1, 1, .inr (.inl f)))) (h : IV M N t c 7) (hc : c < 512) (hR : RW M N P) : vx_Met l yL_sell wsL_sell ({ frames := 8, cells := 3, slots := 18, locals := 135 } : Room) (va_Pc [.ref x, .int i, .int y, .ref b] (lh_U D Y σ sz)) (va_Qi (fun r σ' => HQ Y x b σ (tSell M i y) ((xSell (uS M 19 0) i y).1) (c + 1) ((xSell (uS M 19 0) i y).2.2.toInt64) r σ') (sg_B D σ sz) (sg_A σ sz)) (sg_T9 D σ sz (fun _ => False)) 3 18 (sg_A σ sz) := c_L_sellG l hfl D Y σ sz x b aM N t c aO aL aC P M f i y hQ ho h hc hR _ rfl _ rfl
