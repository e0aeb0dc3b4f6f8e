set_option maxHeartbeats 4000000 in
set_option maxRecDepth 100000 in
theorem c_L_next (l : Launch) (hfl : l.stackTraces = false) (D : va_G) (Y : Nat → ClassId) (σ : sg_W) (sz : Nat) (x b aM N t c : Nat) (aO aL aC : Nat → Nat) (P : PS) (M : MS) (f : Nat → Int64) (y : Int32) (hQ : PF Y x aM N aO aL aC σ P σ) (ho : σ 120 = some (b, .inl (Y 1, 1, .inr (.inl f)))) (h : IV M N t c 7) (hc : c < 512) (hR : RW M N P) : vx_Met l yL_next wsL_next ({ frames := 7, cells := 6, slots := 42, locals := 111 } : Room) (va_Pc [.ref x, .int y, .ref b] (lh_U D Y σ sz)) (va_Qi (fun r σ' => HQ Y x b σ (tNext M y) (nNext (uS M 19 0) y) (c + 1) ((sS M 0 + 1).toInt64) r σ') (sg_B D σ sz) (sg_A σ sz)) (sg_T9 D σ sz (fun _ => False)) 6 42 (sg_A σ sz) := by
  refine lh_met (cc := cL_next) (maxL := 4) (ret := (some .int)) (hh := [(0, 9, 12, 13), (0, 9, 15, 15)]) (by decide) rfl (Nat.le_of_ble_eq_true rfl) ?_
  intro p e s m below meth cd9 ls hx hb hml htab hr hown hts hlocks hnm hP hK hD hN hC hX hA hS hsz hl
  have hl : lv_has ls 4 [(0, .ref x), (1, .int y), (2, .ref b)] := hl
  refine lv_aload_n hx hb dL_next_0 rfl (lv_at hl 2 rfl) ?_
  refine lv_iconst (v := 0) hx hb dL_next_1 (by decide) ?_
  refine lv_aload_n hx hb dL_next_2 rfl (lv_at hl 0 rfl) ?_
  refine lv_iload_n hx hb dL_next_3 rfl (lv_at hl 1 rfl) ?_
  refine sg_xcalli hD hS hA (vx_runV (As := [.int y]) (rest := [.int 0, .ref b]) ⟨hx, hb, hml, hown, hts⟩ (c_X2_next l hfl D Y _ _ x aM N aO aL aC P y hQ.self (next_B h hR)) (cwV 1 hts gL_next_X2_next rfl rfl rfl (by decide +kernel) ⟨(Nat.le_of_ble_eq_true rfl), (Nat.le_of_ble_eq_true rfl)⟩) (sg_preV (q := (RX2, TX2, 5)) (hQ.1) rfl hK hP hD hN hX hS hA) rfl rfl hl.1 rfl (lv_room (Nat.le_of_ble_eq_true rfl)) dL_next_4 ⟨(Nat.le_of_ble_eq_true rfl), (Nat.le_of_ble_eq_true rfl)⟩) (fun E ce q9 H locs hpx hP hD hS hce hcv hcl => ?_) (fun r2 σ' H locs hw hP hD hS => ?_)
  · rcases hpx with ⟨rfl, hn⟩ | ⟨hqy, rfl, hn⟩
    · refine vx_catch hown [] ⟨0, 9, 12, 13⟩ [⟨0, 9, 15, 15⟩] htab (fun z hz => absurd hz List.not_mem_nil) rfl (by decide) (hts (.classLink RL 13 "java/lang/IllegalArgumentException") (by decide +kernel)) (va_Nw.use rfl (hN.2.2.1 _ (List.mem_of_getElem? (i := 1) rfl))) hce hcv hcl (W.eq (g2 := F0 m 12 ls [.ref q9]) rfl ?_)
      refine lv_astore_n (lv' := [(3, .ref q9), (0, .ref x), (1, .int y), (2, .ref b)]) hx hb dL_next_12 rfl hl (by decide) rfl (fun ls hl => ?_)
      refine lv_iconst (v := 1) hx hb dL_next_13 (by decide) ?_
      exact vx_ret (sg_iret hx hb hr rfl hlocks hP hD hS (Nat.le_of_ble_eq_true rfl) (Nat.le_of_ble_eq_true rfl) dL_next_14 (HQ.no (show tNext M y = 1 from t2_1 hn) (by decide)))
    · refine vx_catch hown [⟨0, 9, 12, 13⟩] ⟨0, 9, 15, 15⟩ [] htab (fun z hz => by
      rcases List.mem_cons.mp hz with rfl | hz
      · exact Or.inr ⟨by decide, "java/lang/IllegalArgumentException", hts (.classLink RL 13 "java/lang/IllegalArgumentException") (by decide +kernel), hC.2.2⟩
      exact absurd hz List.not_mem_nil) rfl (by decide) (hts (.classLink RL 15 "java/lang/IllegalStateException") (by decide +kernel)) (va_Nw.use rfl (hN.2.2.1 _ (List.mem_of_getElem? (i := 2) rfl))) hce hcv hcl (W.eq (g2 := F0 m 15 ls [.ref q9]) rfl ?_)
      refine lv_astore_n (lv' := [(3, .ref q9), (0, .ref x), (1, .int y), (2, .ref b)]) hx hb dL_next_15 rfl hl (by decide) rfl (fun ls hl => ?_)
      refine lv_iconst (v := 2) hx hb dL_next_16 (by decide) ?_
      exact vx_ret (sg_iret hx hb hr rfl hlocks hP hD hS (Nat.le_of_ble_eq_true rfl) (Nat.le_of_ble_eq_true rfl) dL_next_17 (HQ.no (show tNext M y = 2 from t2_2 hqy (hR.2.1 ▸ hn)) (by decide)))
  obtain ⟨hr2, hqy, h59, qs, hQ⟩ := hw
  rw [hR.2.1] at hr2 h59
  have hI := (next_S (qs := qs) (h.u19 (v := 0)) (hR.u19 (v := 0)) hc hqy h59).1
  have hR2 := (next_S (qs := qs) (h.u19 (v := 0)) (hR.u19 (v := 0)) hc hqy h59).2
  subst hr2
  refine lv_i2l hx hb dL_next_7 rfl ?_
  refine sg_last hx hb hK hP hD hS (n := 120) (N := 1) ((hQ.2.2.2.1 120 (by omega)).trans ho) (vp_in_nI (n := 0) (by decide) (by decide)) dL_next_8 (fun H locs hP hD hS => ?_)
  refine lv_goto (tgt := 18) hx hb dL_next_9 (by decide) ?_
  refine lv_iconst (v := 0) hx hb dL_next_18 (by decide) ?_
  exact vx_ret (sg_iret hx hb hr rfl hlocks hP hD hS (Nat.le_of_ble_eq_true rfl) (Nat.le_of_ble_eq_true rfl) dL_next_19 (HQ.ok (show tNext M y = 0 from t2_0 hqy h59) (GX.mk hQ hI hR2)))

set_option maxHeartbeats 4000000 in
set_option maxRecDepth 100000 in
theorem c_L_join (l : Launch) (hfl : l.stackTraces = false) (D : va_G) (Y : Nat → ClassId) (σ : sg_W) (sz : Nat) (x b aM N t c : Nat) (aO aL aC : Nat → Nat) (P : PS) (M : MS) (f : Nat → Int64) (y : Int32) (hQ : PF Y x aM N aO aL aC σ P σ) (ho : σ 120 = some (b, .inl (Y 1, 1, .inr (.inl f)))) (h : IV M N t c 7) (hc : c < 512) (hR : RW M N P) : vx_Met l yL_join wsL_join ({ frames := 8, cells := 5, slots := 50, locals := 132 } : Room) (va_Pc [.ref x, .int y, .ref b] (lh_U D Y σ sz)) (va_Qi (fun r σ' => HQ Y x b σ (tJoin M y) (nJoin (uS M 19 0) y) (c + 1) ((sS M 3).toInt64) r σ') (sg_B D σ sz) (sg_A σ sz)) (sg_T9 D σ sz (fun _ => False)) 5 50 (sg_A σ sz) := by
  refine lh_met (cc := cL_join) (maxL := 4) (ret := (some .int)) (hh := [(0, 9, 12, 13), (0, 9, 15, 15)]) (by decide) rfl (Nat.le_of_ble_eq_true rfl) ?_
  intro p e s m below meth cd9 ls hx hb hml htab hr hown hts hlocks hnm hP hK hD hN hC hX hA hS hsz hl
  have hl : lv_has ls 4 [(0, .ref x), (1, .int y), (2, .ref b)] := hl
  refine lv_aload_n hx hb dL_join_0 rfl (lv_at hl 2 rfl) ?_
  refine lv_iconst (v := 0) hx hb dL_join_1 (by decide) ?_
  refine lv_aload_n hx hb dL_join_2 rfl (lv_at hl 0 rfl) ?_
  refine lv_iload_n hx hb dL_join_3 rfl (lv_at hl 1 rfl) ?_
  refine sg_xcalli hD hS hA (vx_runV (As := [.int y]) (rest := [.int 0, .ref b]) ⟨hx, hb, hml, hown, hts⟩ (c_X2_join l hfl D Y _ _ x aM N aO aL aC P y hQ.self hR.1) (cwV 1 hts gL_join_X2_join rfl rfl rfl (by decide +kernel) ⟨(Nat.le_of_ble_eq_true rfl), (Nat.le_of_ble_eq_true rfl)⟩) (sg_preV (q := (RX2, TX2, 5)) (hQ.1) rfl hK hP hD hN hX hS hA) rfl rfl hl.1 rfl (lv_room (Nat.le_of_ble_eq_true rfl)) dL_join_4 ⟨(Nat.le_of_ble_eq_true rfl), (Nat.le_of_ble_eq_true rfl)⟩) (fun E ce q9 H locs hpx hP hD hS hce hcv hcl => ?_) (fun r2 σ' H locs hw hP hD hS => ?_)
  · rcases hpx with ⟨rfl, hn⟩ | ⟨hqy, rfl, hn⟩
    · refine vx_catch hown [] ⟨0, 9, 12, 13⟩ [⟨0, 9, 15, 15⟩] htab (fun z hz => absurd hz List.not_mem_nil) rfl (by decide) (hts (.classLink RL 13 "java/lang/IllegalArgumentException") (by decide +kernel)) (va_Nw.use rfl (hN.2.2.1 _ (List.mem_of_getElem? (i := 1) rfl))) hce hcv hcl (W.eq (g2 := F0 m 12 ls [.ref q9]) rfl ?_)
      refine lv_astore_n (lv' := [(3, .ref q9), (0, .ref x), (1, .int y), (2, .ref b)]) hx hb dL_join_12 rfl hl (by decide) rfl (fun ls hl => ?_)
      refine lv_iconst (v := 1) hx hb dL_join_13 (by decide) ?_
      exact vx_ret (sg_iret hx hb hr rfl hlocks hP hD hS (Nat.le_of_ble_eq_true rfl) (Nat.le_of_ble_eq_true rfl) dL_join_14 (HQ.no (show tJoin M y = 1 from t2_1 hn) (by decide)))
    · refine vx_catch hown [⟨0, 9, 12, 13⟩] ⟨0, 9, 15, 15⟩ [] htab (fun z hz => by
      rcases List.mem_cons.mp hz with rfl | hz
      · exact Or.inr ⟨by decide, "java/lang/IllegalArgumentException", hts (.classLink RL 13 "java/lang/IllegalArgumentException") (by decide +kernel), hC.2.2⟩
      exact absurd hz List.not_mem_nil) rfl (by decide) (hts (.classLink RL 15 "java/lang/IllegalStateException") (by decide +kernel)) (va_Nw.use rfl (hN.2.2.1 _ (List.mem_of_getElem? (i := 2) rfl))) hce hcv hcl (W.eq (g2 := F0 m 15 ls [.ref q9]) rfl ?_)
      refine lv_astore_n (lv' := [(3, .ref q9), (0, .ref x), (1, .int y), (2, .ref b)]) hx hb dL_join_15 rfl hl (by decide) rfl (fun ls hl => ?_)
      refine lv_iconst (v := 2) hx hb dL_join_16 (by decide) ?_
      exact vx_ret (sg_iret hx hb hr rfl hlocks hP hD hS (Nat.le_of_ble_eq_true rfl) (Nat.le_of_ble_eq_true rfl) dL_join_17 (HQ.no (show tJoin M y = 2 from t2_2 hqy (fun q => hn ((join_c h hR).mpr q))) (by decide)))
  obtain ⟨hr2, hqy, hjo, aO2, aL2, aC2, hQ⟩ := hw
  have hr2 := hr2.trans h.1.2.2.2.1.symm
  have hj2 := (join_c h hR).mp hjo
  have hI := (join_S (h.u19 (v := 0)) (hR.u19 (v := 0)) hqy hj2.1 hjo.2).1
  have hR2 := (join_S (h.u19 (v := 0)) (hR.u19 (v := 0)) hqy hj2.1 hjo.2).2
  subst hr2
  refine lv_i2l hx hb dL_join_7 rfl ?_
  refine sg_last hx hb hK hP hD hS (n := 120) (N := 1) ((hQ.2.2.2.1 120 (by omega)).trans ho) (vp_in_nI (n := 0) (by decide) (by decide)) dL_join_8 (fun H locs hP hD hS => ?_)
  refine lv_goto (tgt := 18) hx hb dL_join_9 (by decide) ?_
  refine lv_iconst (v := 0) hx hb dL_join_18 (by decide) ?_
  exact vx_ret (sg_iret hx hb hr rfl hlocks hP hD hS (Nat.le_of_ble_eq_true rfl) (Nat.le_of_ble_eq_true rfl) dL_join_19 (HQ.ok (show tJoin M y = 0 from t2_0 hqy hj2) (GX.mk hQ hI hR2)))

set_option maxHeartbeats 4000000 in
set_option maxRecDepth 100000 in
theorem c_L_rate (l : Launch) (hfl : l.stackTraces = false) (D : va_G) (Y : Nat → ClassId) (σ : sg_W) (sz : Nat) (x b aM N t c : Nat) (aO aL aC : Nat → Nat) (P : PS) (M : MS) (f : Nat → Int64) (i y : Int32) (hQ : PF Y x aM N aO aL aC σ P σ) (ho : σ 120 = some (b, .inl (Y 1, 1, .inr (.inl f)))) (h : IV M N t c 7) (hc : c < 512) (hR : RW M N P) : vx_Met l yL_rate wsL_rate ({ frames := 8, cells := 3, slots := 18, locals := 136 } : Room) (va_Pc [.ref x, .int i, .int y, .ref b] (lh_U D Y σ sz)) (va_Qi (fun r σ' => HQ Y x b σ (tRate M i y) (nRate (uS M 19 0) i y) (c + 1) ((sI M 4 (tN i)).toInt64) r σ') (sg_B D σ sz) (sg_A σ sz)) (sg_T9 D σ sz (fun _ => False)) 3 18 (sg_A σ sz) := by
  refine lh_met (cc := cL_rate) (maxL := 5) (ret := (some .int)) (hh := [(0, 10, 13, 27), (0, 10, 17, 13), (0, 10, 21, 15)]) (by decide) rfl (Nat.le_of_ble_eq_true rfl) ?_
  intro p e s m below meth cd9 ls hx hb hml htab hr hown hts hlocks hnm hP hK hD hN hC hX hA hS hsz hl
  have hl : lv_has ls 5 [(0, .ref x), (1, .int i), (2, .int y), (3, .ref b)] := hl
  refine lv_aload_n hx hb dL_rate_0 rfl (lv_at hl 3 rfl) ?_
  refine lv_iconst (v := 0) hx hb dL_rate_1 (by decide) ?_
  refine lv_aload_n hx hb dL_rate_2 rfl (lv_at hl 0 rfl) ?_
  refine lv_iload_n hx hb dL_rate_3 rfl (lv_at hl 1 rfl) ?_
  refine lv_iload_n hx hb dL_rate_4 rfl (lv_at hl 2 rfl) ?_
  refine sg_xcalli hD hS hA (vx_runV (As := [.int i, .int y]) (rest := [.int 0, .ref b]) ⟨hx, hb, hml, hown, hts⟩ (c_X2_rate l hfl D Y _ _ x aM N aO aL aC P i y hQ.self) (cwV 2 hts gL_rate_X2_rate rfl rfl rfl (by decide +kernel) ⟨(Nat.le_of_ble_eq_true rfl), (Nat.le_of_ble_eq_true rfl)⟩) (sg_preV (q := (RX2, TX2, 5)) (hQ.1) rfl hK hP hD hN hX hS hA) rfl rfl hl.1 rfl (lv_room (Nat.le_of_ble_eq_true rfl)) dL_rate_5 ⟨(Nat.le_of_ble_eq_true rfl), (Nat.le_of_ble_eq_true rfl)⟩) (fun E ce q9 H locs hpx hP hD hS hce hcv hcl => ?_) (fun r2 σ' H locs hw hP hD hS => ?_)
  · rcases hpx with ⟨rfl, hn⟩ | ⟨hvi, rfl, hn⟩ | ⟨hvi, hqy, rfl, hn⟩
    · refine vx_catch hown [] ⟨0, 10, 13, 27⟩ [⟨0, 10, 17, 13⟩, ⟨0, 10, 21, 15⟩] htab (fun z hz => absurd hz List.not_mem_nil) rfl (by decide) (hts (.classLink RL 27 "java/lang/IndexOutOfBoundsException") (by decide +kernel)) (va_Nw.use rfl (hN.2.2.1 _ (List.mem_of_getElem? (i := 0) rfl))) hce hcv hcl (W.eq (g2 := F0 m 13 ls [.ref q9]) rfl ?_)
      refine lv_astore (lv' := [(4, .ref q9), (0, .ref x), (1, .int i), (2, .int y), (3, .ref b)]) hx hb dL_rate_13 hl (by decide) rfl (fun ls hl => ?_)
      refine lv_iconst (v := 1) hx hb dL_rate_15 (by decide) ?_
      exact vx_ret (sg_iret hx hb hr rfl hlocks hP hD hS (Nat.le_of_ble_eq_true rfl) (Nat.le_of_ble_eq_true rfl) dL_rate_16 (HQ.no (show tRate M i y = 1 from t3_1 (fun q => hn ((h.mem i).mp q))) (by decide)))
    · refine vx_catch hown [⟨0, 10, 13, 27⟩] ⟨0, 10, 17, 13⟩ [⟨0, 10, 21, 15⟩] htab (fun z hz => by
      rcases List.mem_cons.mp hz with rfl | hz
      · exact Or.inr ⟨by decide, "java/lang/IndexOutOfBoundsException", hts (.classLink RL 27 "java/lang/IndexOutOfBoundsException") (by decide +kernel), hC.1⟩
      exact absurd hz List.not_mem_nil) rfl (by decide) (hts (.classLink RL 13 "java/lang/IllegalArgumentException") (by decide +kernel)) (va_Nw.use rfl (hN.2.2.1 _ (List.mem_of_getElem? (i := 1) rfl))) hce hcv hcl (W.eq (g2 := F0 m 17 ls [.ref q9]) rfl ?_)
      refine lv_astore (lv' := [(4, .ref q9), (0, .ref x), (1, .int i), (2, .int y), (3, .ref b)]) hx hb dL_rate_17 hl (by decide) rfl (fun ls hl => ?_)
      refine lv_iconst (v := 2) hx hb dL_rate_19 (by decide) ?_
      exact vx_ret (sg_iret hx hb hr rfl hlocks hP hD hS (Nat.le_of_ble_eq_true rfl) (Nat.le_of_ble_eq_true rfl) dL_rate_20 (HQ.no (show tRate M i y = 2 from t3_2 ((h.mem i).mpr hvi) hn) (by decide)))
    · refine vx_catch hown [⟨0, 10, 13, 27⟩, ⟨0, 10, 17, 13⟩] ⟨0, 10, 21, 15⟩ [] htab (fun z hz => by
      rcases List.mem_cons.mp hz with rfl | hz
      · exact Or.inr ⟨by decide, "java/lang/IndexOutOfBoundsException", hts (.classLink RL 27 "java/lang/IndexOutOfBoundsException") (by decide +kernel), hC.2.1⟩
      rcases List.mem_cons.mp hz with rfl | hz
      · exact Or.inr ⟨by decide, "java/lang/IllegalArgumentException", hts (.classLink RL 13 "java/lang/IllegalArgumentException") (by decide +kernel), hC.2.2⟩
      exact absurd hz List.not_mem_nil) rfl (by decide) (hts (.classLink RL 15 "java/lang/IllegalStateException") (by decide +kernel)) (va_Nw.use rfl (hN.2.2.1 _ (List.mem_of_getElem? (i := 2) rfl))) hce hcv hcl (W.eq (g2 := F0 m 21 ls [.ref q9]) rfl ?_)
      refine lv_astore (lv' := [(4, .ref q9), (0, .ref x), (1, .int i), (2, .int y), (3, .ref b)]) hx hb dL_rate_21 hl (by decide) rfl (fun ls hl => ?_)
      refine lv_iconst (v := 3) hx hb dL_rate_23 (by decide) ?_
      exact vx_ret (sg_iret hx hb hr rfl hlocks hP hD hS (Nat.le_of_ble_eq_true rfl) (Nat.le_of_ble_eq_true rfl) dL_rate_24 (HQ.no (show tRate M i y = 3 from t3_3 ((h.mem i).mpr hvi) hqy (fun q => hn ((memK hR hvi).1.2.1.trans q.2))) (by decide)))
  obtain ⟨hr2, hvi, hqy, hlf, hQ⟩ := hw
  have hr2 := hr2.trans (memK hR hvi).1.1
  have hI := (rate_S (h.u19 (v := 0)) (hR.u19 (v := 0)) hvi hqy).1
  have hR2 := (rate_S (h.u19 (v := 0)) (hR.u19 (v := 0)) hvi hqy).2
  subst hr2
  refine lv_i2l hx hb dL_rate_8 rfl ?_
  refine sg_last hx hb hK hP hD hS (n := 120) (N := 1) ((hQ.2.2.2.1 120 (by omega)).trans ho) (vp_in_nI (n := 0) (by decide) (by decide)) dL_rate_9 (fun H locs hP hD hS => ?_)
  refine lv_goto (tgt := 25) hx hb dL_rate_10 (by decide) ?_
  refine lv_iconst (v := 0) hx hb dL_rate_25 (by decide) ?_
  exact vx_ret (sg_iret hx hb hr rfl hlocks hP hD hS (Nat.le_of_ble_eq_true rfl) (Nat.le_of_ble_eq_true rfl) dL_rate_26 (HQ.ok (show tRate M i y = 0 from t3_0 ((h.mem i).mpr hvi) hqy ⟨((h.mem i).mpr hvi), (memK hR hvi).1.2.1.symm.trans hlf⟩) (GX.mk hQ hI hR2)))

set_option maxHeartbeats 4000000 in
set_option maxRecDepth 100000 in
theorem c_L_slip (l : Launch) (hfl : l.stackTraces = false) (D : va_G) (Y : Nat → ClassId) (σ : sg_W) (sz : Nat) (x b aM N t c : Nat) (aO aL aC : Nat → Nat) (P : PS) (M : MS) (f : Nat → Int64) (i y : Int32) (hQ : PF Y x aM N aO aL aC σ P σ) (ho : σ 120 = some (b, .inl (Y 1, 1, .inr (.inl f)))) (h : IV M N t c 7) (hc : c < 512) (hR : RW M N P) : vx_Met l yL_slip wsL_slip ({ frames := 8, cells := 3, slots := 18, locals := 135 } : Room) (va_Pc [.ref x, .int i, .int y, .ref b] (lh_U D Y σ sz)) (va_Qi (fun r σ' => HQ Y x b σ (tSlip M i y) (nSlip (uS M 19 0) i y) (c + 1) ((rSlip M i y).toInt64) r σ') (sg_B D σ sz) (sg_A σ sz)) (sg_T9 D σ sz (fun _ => False)) 3 18 (sg_A σ sz) := by
  refine lh_met (cc := cL_slip) (maxL := 5) (ret := (some .int)) (hh := [(0, 10, 13, 27), (0, 10, 17, 13), (0, 10, 21, 15)]) (by decide) rfl (Nat.le_of_ble_eq_true rfl) ?_
  intro p e s m below meth cd9 ls hx hb hml htab hr hown hts hlocks hnm hP hK hD hN hC hX hA hS hsz hl
  have hl : lv_has ls 5 [(0, .ref x), (1, .int i), (2, .int y), (3, .ref b)] := hl
  refine lv_aload_n hx hb dL_slip_0 rfl (lv_at hl 3 rfl) ?_
  refine lv_iconst (v := 0) hx hb dL_slip_1 (by decide) ?_
  refine lv_aload_n hx hb dL_slip_2 rfl (lv_at hl 0 rfl) ?_
  refine lv_iload_n hx hb dL_slip_3 rfl (lv_at hl 1 rfl) ?_
  refine lv_iload_n hx hb dL_slip_4 rfl (lv_at hl 2 rfl) ?_
  refine sg_xcalli hD hS hA (vx_runV (As := [.int i, .int y]) (rest := [.int 0, .ref b]) ⟨hx, hb, hml, hown, hts⟩ (c_X2_slip l hfl D Y _ _ x aM N aO aL aC P i y hQ.self) (cwV 2 hts gL_slip_X2_slip rfl rfl rfl (by decide +kernel) ⟨(Nat.le_of_ble_eq_true rfl), (Nat.le_of_ble_eq_true rfl)⟩) (sg_preV (q := (RX2, TX2, 5)) (hQ.1) rfl hK hP hD hN hX hS hA) rfl rfl hl.1 rfl (lv_room (Nat.le_of_ble_eq_true rfl)) dL_slip_5 ⟨(Nat.le_of_ble_eq_true rfl), (Nat.le_of_ble_eq_true rfl)⟩) (fun E ce q9 H locs hpx hP hD hS hce hcv hcl => ?_) (fun r2 σ' H locs hw hP hD hS => ?_)
  · rcases hpx with ⟨rfl, hn⟩ | ⟨hvi, rfl, hn⟩ | ⟨hvi, hqy, rfl, hn⟩
    · refine vx_catch hown [] ⟨0, 10, 13, 27⟩ [⟨0, 10, 17, 13⟩, ⟨0, 10, 21, 15⟩] htab (fun z hz => absurd hz List.not_mem_nil) rfl (by decide) (hts (.classLink RL 27 "java/lang/IndexOutOfBoundsException") (by decide +kernel)) (va_Nw.use rfl (hN.2.2.1 _ (List.mem_of_getElem? (i := 0) rfl))) hce hcv hcl (W.eq (g2 := F0 m 13 ls [.ref q9]) rfl ?_)
      refine lv_astore (lv' := [(4, .ref q9), (0, .ref x), (1, .int i), (2, .int y), (3, .ref b)]) hx hb dL_slip_13 hl (by decide) rfl (fun ls hl => ?_)
      refine lv_iconst (v := 1) hx hb dL_slip_15 (by decide) ?_
      exact vx_ret (sg_iret hx hb hr rfl hlocks hP hD hS (Nat.le_of_ble_eq_true rfl) (Nat.le_of_ble_eq_true rfl) dL_slip_16 (HQ.no (show tSlip M i y = 1 from t3_1 (fun q => hn ((h.mem i).mp q))) (by decide)))
    · refine vx_catch hown [⟨0, 10, 13, 27⟩] ⟨0, 10, 17, 13⟩ [⟨0, 10, 21, 15⟩] htab (fun z hz => by
      rcases List.mem_cons.mp hz with rfl | hz
      · exact Or.inr ⟨by decide, "java/lang/IndexOutOfBoundsException", hts (.classLink RL 27 "java/lang/IndexOutOfBoundsException") (by decide +kernel), hC.1⟩
      exact absurd hz List.not_mem_nil) rfl (by decide) (hts (.classLink RL 13 "java/lang/IllegalArgumentException") (by decide +kernel)) (va_Nw.use rfl (hN.2.2.1 _ (List.mem_of_getElem? (i := 1) rfl))) hce hcv hcl (W.eq (g2 := F0 m 17 ls [.ref q9]) rfl ?_)
      refine lv_astore (lv' := [(4, .ref q9), (0, .ref x), (1, .int i), (2, .int y), (3, .ref b)]) hx hb dL_slip_17 hl (by decide) rfl (fun ls hl => ?_)
      refine lv_iconst (v := 2) hx hb dL_slip_19 (by decide) ?_
      exact vx_ret (sg_iret hx hb hr rfl hlocks hP hD hS (Nat.le_of_ble_eq_true rfl) (Nat.le_of_ble_eq_true rfl) dL_slip_20 (HQ.no (show tSlip M i y = 2 from t3_2 ((h.mem i).mpr hvi) hn) (by decide)))
    · refine vx_catch hown [⟨0, 10, 13, 27⟩, ⟨0, 10, 17, 13⟩] ⟨0, 10, 21, 15⟩ [] htab (fun z hz => by
      rcases List.mem_cons.mp hz with rfl | hz
      · exact Or.inr ⟨by decide, "java/lang/IndexOutOfBoundsException", hts (.classLink RL 27 "java/lang/IndexOutOfBoundsException") (by decide +kernel), hC.2.1⟩
      rcases List.mem_cons.mp hz with rfl | hz
      · exact Or.inr ⟨by decide, "java/lang/IllegalArgumentException", hts (.classLink RL 13 "java/lang/IllegalArgumentException") (by decide +kernel), hC.2.2⟩
      exact absurd hz List.not_mem_nil) rfl (by decide) (hts (.classLink RL 15 "java/lang/IllegalStateException") (by decide +kernel)) (va_Nw.use rfl (hN.2.2.1 _ (List.mem_of_getElem? (i := 2) rfl))) hce hcv hcl (W.eq (g2 := F0 m 21 ls [.ref q9]) rfl ?_)
      refine lv_astore (lv' := [(4, .ref q9), (0, .ref x), (1, .int i), (2, .int y), (3, .ref b)]) hx hb dL_slip_21 hl (by decide) rfl (fun ls hl => ?_)
      refine lv_iconst (v := 3) hx hb dL_slip_23 (by decide) ?_
      exact vx_ret (sg_iret hx hb hr rfl hlocks hP hD hS (Nat.le_of_ble_eq_true rfl) (Nat.le_of_ble_eq_true rfl) dL_slip_24 (HQ.no (show tSlip M i y = 3 from t3_3 ((h.mem i).mpr hvi) hqy (fun q => hn ((memK hR hvi).1.2.1.trans q.2))) (by decide)))
  obtain ⟨hr2, hvi, hqy, hlf, hQ⟩ := hw
  obtain ⟨hI, hR2, hA2⟩ := slip_S (h.u19 (v := 0)) hc (hR.u19 (v := 0)) hvi hqy
  have hr2 := hr2.trans hA2
  subst hr2
  refine lv_i2l hx hb dL_slip_8 rfl ?_
  refine sg_last hx hb hK hP hD hS (n := 120) (N := 1) ((hQ.2.2.2.1 120 (by omega)).trans ho) (vp_in_nI (n := 0) (by decide) (by decide)) dL_slip_9 (fun H locs hP hD hS => ?_)
  refine lv_goto (tgt := 25) hx hb dL_slip_10 (by decide) ?_
  refine lv_iconst (v := 0) hx hb dL_slip_25 (by decide) ?_
  exact vx_ret (sg_iret hx hb hr rfl hlocks hP hD hS (Nat.le_of_ble_eq_true rfl) (Nat.le_of_ble_eq_true rfl) dL_slip_26 (HQ.ok (show tSlip M i y = 0 from t3_0 ((h.mem i).mpr hvi) hqy ⟨((h.mem i).mpr hvi), (memK hR hvi).1.2.1.symm.trans hlf⟩) (GX.mk hQ hI hR2)))

set_option maxHeartbeats 4000000 in
set_option maxRecDepth 100000 in
theorem c_L_leave (l : Launch) (hfl : l.stackTraces = false) (D : va_G) (Y : Nat → ClassId) (σ : sg_W) (sz : Nat) (x b aM N t c : Nat) (aO aL aC : Nat → Nat) (P : PS) (M : MS) (f : Nat → Int64) (i : Int32) (hQ : PF Y x aM N aO aL aC σ P σ) (ho : σ 120 = some (b, .inl (Y 1, 1, .inr (.inl f)))) (h : IV M N t c 7) (hc : c < 512) (hR : RW M N P) : vx_Met l yL_leave wsL_leave ({ frames := 8, cells := 3, slots := 18, locals := 134 } : Room) (va_Pc [.ref x, .int i, .ref b] (lh_U D Y σ sz)) (va_Qi (fun r σ' => HQ Y x b σ (tLeave M i) (nLeave (uS M 19 0) i) (c + 1) ((sI M 6 (tN i)).toInt64) r σ') (sg_B D σ sz) (sg_A σ sz)) (sg_T9 D σ sz (fun _ => False)) 3 18 (sg_A σ sz) := by
  refine lh_met (cc := cL_leave) (maxL := 4) (ret := (some .int)) (hh := [(0, 9, 12, 27), (0, 9, 15, 15)]) (by decide) rfl (Nat.le_of_ble_eq_true rfl) ?_
  intro p e s m below meth cd9 ls hx hb hml htab hr hown hts hlocks hnm hP hK hD hN hC hX hA hS hsz hl
  have hl : lv_has ls 4 [(0, .ref x), (1, .int i), (2, .ref b)] := hl
  refine lv_aload_n hx hb dL_leave_0 rfl (lv_at hl 2 rfl) ?_
  refine lv_iconst (v := 0) hx hb dL_leave_1 (by decide) ?_
  refine lv_aload_n hx hb dL_leave_2 rfl (lv_at hl 0 rfl) ?_
  refine lv_iload_n hx hb dL_leave_3 rfl (lv_at hl 1 rfl) ?_
  refine sg_xcalli hD hS hA (vx_runV (As := [.int i]) (rest := [.int 0, .ref b]) ⟨hx, hb, hml, hown, hts⟩ (c_X2_leave l hfl D Y _ _ x aM N aO aL aC P i hQ.self) (cwV 1 hts gL_leave_X2_leave rfl rfl rfl (by decide +kernel) ⟨(Nat.le_of_ble_eq_true rfl), (Nat.le_of_ble_eq_true rfl)⟩) (sg_preV (q := (RX2, TX2, 5)) (hQ.1) rfl hK hP hD hN hX hS hA) rfl rfl hl.1 rfl (lv_room (Nat.le_of_ble_eq_true rfl)) dL_leave_4 ⟨(Nat.le_of_ble_eq_true rfl), (Nat.le_of_ble_eq_true rfl)⟩) (fun E ce q9 H locs hpx hP hD hS hce hcv hcl => ?_) (fun r2 σ' H locs hw hP hD hS => ?_)
  · rcases hpx with ⟨rfl, hn⟩ | ⟨hvi, rfl, hn⟩
    · refine vx_catch hown [] ⟨0, 9, 12, 27⟩ [⟨0, 9, 15, 15⟩] htab (fun z hz => absurd hz List.not_mem_nil) rfl (by decide) (hts (.classLink RL 27 "java/lang/IndexOutOfBoundsException") (by decide +kernel)) (va_Nw.use rfl (hN.2.2.1 _ (List.mem_of_getElem? (i := 0) rfl))) hce hcv hcl (W.eq (g2 := F0 m 12 ls [.ref q9]) rfl ?_)
      refine lv_astore_n (lv' := [(3, .ref q9), (0, .ref x), (1, .int i), (2, .ref b)]) hx hb dL_leave_12 rfl hl (by decide) rfl (fun ls hl => ?_)
      refine lv_iconst (v := 1) hx hb dL_leave_13 (by decide) ?_
      exact vx_ret (sg_iret hx hb hr rfl hlocks hP hD hS (Nat.le_of_ble_eq_true rfl) (Nat.le_of_ble_eq_true rfl) dL_leave_14 (HQ.no (show tLeave M i = 1 from t2_1 (fun q => hn ((h.mem i).mp q))) (by decide)))
    · refine vx_catch hown [⟨0, 9, 12, 27⟩] ⟨0, 9, 15, 15⟩ [] htab (fun z hz => by
      rcases List.mem_cons.mp hz with rfl | hz
      · exact Or.inr ⟨by decide, "java/lang/IndexOutOfBoundsException", hts (.classLink RL 27 "java/lang/IndexOutOfBoundsException") (by decide +kernel), hC.2.1⟩
      exact absurd hz List.not_mem_nil) rfl (by decide) (hts (.classLink RL 15 "java/lang/IllegalStateException") (by decide +kernel)) (va_Nw.use rfl (hN.2.2.1 _ (List.mem_of_getElem? (i := 2) rfl))) hce hcv hcl (W.eq (g2 := F0 m 15 ls [.ref q9]) rfl ?_)
      refine lv_astore_n (lv' := [(3, .ref q9), (0, .ref x), (1, .int i), (2, .ref b)]) hx hb dL_leave_15 rfl hl (by decide) rfl (fun ls hl => ?_)
      refine lv_iconst (v := 2) hx hb dL_leave_16 (by decide) ?_
      exact vx_ret (sg_iret hx hb hr rfl hlocks hP hD hS (Nat.le_of_ble_eq_true rfl) (Nat.le_of_ble_eq_true rfl) dL_leave_17 (HQ.no (show tLeave M i = 2 from t2_2 ((h.mem i).mpr hvi) (fun q => hn ((memK hR hvi).1.2.1.trans q.2))) (by decide)))
  obtain ⟨hr2, hvi, hlf, hQ⟩ := hw
  obtain ⟨hI, hR2, hA2⟩ := leave_S (h.u19 (v := 0)) (hR.u19 (v := 0)) hvi ((memK hR hvi).1.2.1.symm.trans hlf)
  have hr2 := hr2.trans hA2
  subst hr2
  refine lv_i2l hx hb dL_leave_7 rfl ?_
  refine sg_last hx hb hK hP hD hS (n := 120) (N := 1) ((hQ.2.2.2.1 120 (by omega)).trans ho) (vp_in_nI (n := 0) (by decide) (by decide)) dL_leave_8 (fun H locs hP hD hS => ?_)
  refine lv_goto (tgt := 18) hx hb dL_leave_9 (by decide) ?_
  refine lv_iconst (v := 0) hx hb dL_leave_18 (by decide) ?_
  exact vx_ret (sg_iret hx hb hr rfl hlocks hP hD hS (Nat.le_of_ble_eq_true rfl) (Nat.le_of_ble_eq_true rfl) dL_leave_19 (HQ.ok (show tLeave M i = 0 from t2_0 ((h.mem i).mpr hvi) ⟨((h.mem i).mpr hvi), (memK hR hvi).1.2.1.symm.trans hlf⟩) (GX.mk hQ hI hR2)))

set_option maxHeartbeats 4000000 in
set_option maxRecDepth 100000 in
theorem c_L_gainNow (l : Launch) (hfl : l.stackTraces = false) (D : va_G) (Y : Nat → ClassId) (σ : sg_W) (sz : Nat) (x b aM N t c : Nat) (aO aL aC : Nat → Nat) (P : PS) (M : MS) (f : Nat → Int64) (i : Int32) (hQ : PF Y x aM N aO aL aC σ P σ) (ho : σ 120 = some (b, .inl (Y 1, 1, .inr (.inl f)))) (h : IV M N t c 7) (hc : c < 512) (hR : RW M N P) : vx_Met l yL_gainNow wsL_gainNow ({ frames := 8, cells := 1, slots := 6, locals := 133 } : Room) (va_Pc [.ref x, .int i, .ref b] (lh_U D Y σ sz)) (va_Qi (fun r σ' => HQ Y x b σ (tMem M i) (uS M 19 0) (c + 1) ((gN (uS M 19 0) (tN i) 10)) r σ') (sg_B D σ sz) (sg_A σ sz)) (sg_T9 D σ sz (fun _ => False)) 1 6 (sg_A σ sz) := by
  refine lh_met (cc := cL_gainNow) (maxL := 4) (ret := (some .int)) (hh := [(0, 8, 11, 27)]) (by decide) rfl (Nat.le_of_ble_eq_true rfl) ?_
  intro p e s m below meth cd9 ls hx hb hml htab hr hown hts hlocks hnm hP hK hD hN hC hX hA hS hsz hl
  have hl : lv_has ls 4 [(0, .ref x), (1, .int i), (2, .ref b)] := hl
  refine lv_aload_n hx hb dL_gainNow_0 rfl (lv_at hl 2 rfl) ?_
  refine lv_iconst (v := 0) hx hb dL_gainNow_1 (by decide) ?_
  refine lv_aload_n hx hb dL_gainNow_2 rfl (lv_at hl 0 rfl) ?_
  refine lv_iload_n hx hb dL_gainNow_3 rfl (lv_at hl 1 rfl) ?_
  refine sg_xcalll hD hS hA (vx_runV (As := [.int i]) (rest := [.int 0, .ref b]) ⟨hx, hb, hml, hown, hts⟩ (c_X2_gainNow l hfl D Y _ _ x aM N aO aL aC P i hQ.self) (cwV 1 hts gL_gainNow_X2_gainNow rfl rfl rfl (by decide +kernel) ⟨(Nat.le_of_ble_eq_true rfl), (Nat.le_of_ble_eq_true rfl)⟩) (sg_preV (q := (RX2, TX2, 5)) (hQ.1) rfl hK hP hD hN hX hS hA) rfl rfl hl.1 rfl (lv_room (Nat.le_of_ble_eq_true rfl)) dL_gainNow_4 ⟨(Nat.le_of_ble_eq_true rfl), (Nat.le_of_ble_eq_true rfl)⟩) (fun E ce q9 H locs hpx hP hD hS hce hcv hcl => ?_) (fun r2 σ' H locs hw hP hD hS => ?_)
  · obtain ⟨rfl, hn⟩ := hpx
    refine vx_catch hown [] ⟨0, 8, 11, 27⟩ [] htab (fun z hz => absurd hz List.not_mem_nil) rfl (by decide) (hts (.classLink RL 27 "java/lang/IndexOutOfBoundsException") (by decide +kernel)) (va_Nw.use rfl (hN.2.2.1 _ (List.mem_of_getElem? (i := 0) rfl))) hce hcv hcl (W.eq (g2 := F0 m 11 ls [.ref q9]) rfl ?_)
    refine lv_astore_n (lv' := [(3, .ref q9), (0, .ref x), (1, .int i), (2, .ref b)]) hx hb dL_gainNow_11 rfl hl (by decide) rfl (fun ls hl => ?_)
    refine lv_iconst (v := 1) hx hb dL_gainNow_12 (by decide) ?_
    exact vx_ret (sg_iret hx hb hr rfl hlocks hP hD hS (Nat.le_of_ble_eq_true rfl) (Nat.le_of_ble_eq_true rfl) dL_gainNow_13 (HQ.no (show tMem M i = 1 from t1_1 (fun q => hn ((h.mem i).mp q))) (by decide)))
  obtain ⟨hr2, hvi, rfl⟩ := hw
  have hr2 := hr2.trans (gainNow_A (h.u19 (v := 0)) (hR.u19 (v := 0)) hvi)
  have hI := (q_S h hR 0).1
  have hR2 := (q_S h hR 0).2
  subst hr2
  refine sg_last hx hb hK hP hD hS (n := 120) (N := 1) ((hQ.2.2.2.1 120 (by omega)).trans ho) (vp_in_nI (n := 0) (by decide) (by decide)) dL_gainNow_7 (fun H locs hP hD hS => ?_)
  refine lv_goto (tgt := 14) hx hb dL_gainNow_8 (by decide) ?_
  refine lv_iconst (v := 0) hx hb dL_gainNow_14 (by decide) ?_
  exact vx_ret (sg_iret hx hb hr rfl hlocks hP hD hS (Nat.le_of_ble_eq_true rfl) (Nat.le_of_ble_eq_true rfl) dL_gainNow_15 (HQ.ok (show tMem M i = 0 from t1_0 ((h.mem i).mpr hvi)) (GX.mk hQ hI hR2)))
