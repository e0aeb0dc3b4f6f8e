set_option maxHeartbeats 4000000 in
set_option maxRecDepth 100000 in
theorem c_L_goes1 (l : Launch) (hfl : l.stackTraces = false) (D : va_G) (Y : Nat → ClassId) (σ : sg_W) (sz : Nat) (ad : Nat → Nat) (x : Nat) (G : ZG) (M : MS) (N t c : Nat) (y : Int32) (hXX : CX Y x σ M N t c σ) (hG : ZF Y ad σ G σ) (hL : LR G M N t) (hc : c < 512) : Met l yL_goes wsL_goes ({ frames := 9, cells := 6, slots := 50, locals := 160 } : Room) (va_Pc [.ref x, .int (nI 1), .int y, .ref (ad 0), .ref (ad 1), .ref (ad 2), .ref (ad 3), .ref (ad 4), .ref (ad 5), .ref (ad 6), .ref (ad 7)] (lh_U D Y σ sz)) (va_Qi (fun r σ' => r = nI 1 ∧ LI Y x ad (c + 1) σ') (sg_B D σ sz) (sg_A σ sz)) 6 50 (sg_A σ sz) := by
  refine lh_metP (cc := cL_goes) (maxL := 19) (ret := (some .boolean)) (by decide) rfl (Nat.le_of_ble_eq_true rfl) ?_
  intro p e s m below meth cd9 ls hx hb hml hr hown hts hlocks hnm hP hK hD hN hC hX hA hS hsz hl
  have hl : lv_has ls 19 [(0, .ref x), (1, .int (nI 1)), (2, .int y), (3, .ref (ad 0)), (4, .ref (ad 1)), (5, .ref (ad 2)), (6, .ref (ad 3)), (7, .ref (ad 4)), (8, .ref (ad 5)), (9, .ref (ad 6)), (10, .ref (ad 7))] := hl
  have hIV := hXX.iv
  have hN4 := hL.1.1
  have ht6 := hIV.1.2.1
  have hNt := hIV.1.2.2.1
  obtain ⟨⟨-, e0, e1, e2⟩, eP, -, eQ, -, hfr⟩ := id hL
  refine lv_iload_n hx hb dL_goes_0 rfl (lv_at hl 1 rfl) ?_
  refine lw_if_ne (tgt := 277) (a := 1) hx hb dL_goes_1 (by decide) (by omega) (fun c1 => ?_) (fun c1 => ?_)
  · skip
    refine lv_iload_n hx hb dL_goes_277 rfl (lv_at hl 1 rfl) ?_
    refine lv_iconst (v := nI 1) hx hb dL_goes_278 (by decide) ?_
    refine lw_icmp_ne (tgt := 371) (a := 1) (b := 1) hx hb dL_goes_279 (by decide) (by omega) (by omega) (fun c279 => ?_) (fun c279 => ?_)
    · exfalso; omega
    · skip
      refine sg_cutwi (D := D) hS (j := 317) (ls := ls) (rest := []) (0) (0) (fun x9 σ' => ∃ v9 : Nat, v9 ≤ 10000001 ∧ x9 = nI v9 ∧ σ = σ') (fun x9 σ' H locs hj9 hP hD hS => ?_) (fun k317 => ?_)
      · obtain ⟨cq, hcq, rfl, rfl⟩ := hj9
        refine lv_istore (lv' := [(11, .int (nI cq)), (0, .ref x), (1, .int (nI 1)), (2, .int y), (3, .ref (ad 0)), (4, .ref (ad 1)), (5, .ref (ad 2)), (6, .ref (ad 3)), (7, .ref (ad 4)), (8, .ref (ad 5)), (9, .ref (ad 6)), (10, .ref (ad 7))]) hx hb dL_goes_317 hl (by decide) rfl (fun ls hl => ?_)
        refine lv_aload_n hx hb dL_goes_319 rfl (lv_at hl 4 rfl) ?_
        refine lv_iconst (v := nI 2) hx hb dL_goes_320 (by decide) ?_
        refine lw_iald hx hb hK hP hG.a0 (k := 2) (by omega) (v := gI G 0 2) (rfl) dL_goes_321 ?_
        refine lv_istore (lv' := [(12, .int (gI G 0 2)), (11, .int (nI cq)), (0, .ref x), (1, .int (nI 1)), (2, .int y), (3, .ref (ad 0)), (4, .ref (ad 1)), (5, .ref (ad 2)), (6, .ref (ad 3)), (7, .ref (ad 4)), (8, .ref (ad 5)), (9, .ref (ad 6)), (10, .ref (ad 7))]) hx hb dL_goes_322 hl (by decide) rfl (fun ls hl => ?_)
        refine lv_aload_n hx hb dL_goes_324 rfl (lv_at hl 5 rfl) ?_
        refine lv_iconst (v := nI 2) hx hb dL_goes_325 (by decide) ?_
        refine lv_iload hx hb dL_goes_326 (lv_at hl 1 rfl) ?_
        refine lv_ldc (v := 10000001) hx hb hown (hts (.constant RL 106 10000001) (by decide +kernel)) dL_goes_328 ?_
        refine lw_nat (a := 10000001) rfl ?_
        refine lw_icmp_ge (tgt := 338) (a := cq) (b := 10000001) hx hb dL_goes_330 (by decide) (by omega) (by omega) (fun c330 => ?_) (fun c330 => ?_)
        · have hG := hG
          refine lv_iload hx hb dL_goes_338 (lv_at hl 0 rfl) ?_
          refine lw_iast hx hb hK hP hD hS hG.a0 (k := 2) (by omega) dL_goes_340 (fun H locs hP hD hS => ?_)
          have hG := hG.u0 (k := 2) (v := gI G 0 2)
          have hG := hG.to (vI_id rfl)
          refine lv_aload_n hx hb dL_goes_341 rfl (lv_at hl 2 rfl) ?_
          refine lv_iconst (v := nI 0) hx hb dL_goes_342 (by decide) ?_
          refine lv_iload hx hb dL_goes_343 (lv_at hl 1 rfl) ?_
          refine sg_xcalli hD hS hA (vx_runSX (As := [.ref x, .int (nI 0), .int (nI cq)]) (rest := []) ⟨hx, hb, hml, hown, hts⟩ (c_L_set0 l hfl D Y _ _ x M N t c (nI cq) (hXX.far hG.2.2) hc) (vx_cwSW 3 hts gL_goes_L_set rfl rfl rfl (by decide +kernel) ⟨(Nat.le_of_ble_eq_true rfl), (Nat.le_of_ble_eq_true rfl)⟩) (lh_preS hK hP hD hN hC hX hS hA) rfl rfl hl.1 rfl (lv_room (Nat.le_of_ble_eq_true rfl)) dL_goes_345 ⟨(Nat.le_of_ble_eq_true rfl), (Nat.le_of_ble_eq_true rfl)⟩) (fun E ce q9 H locs hpx hP hD hS hce hcv hcl => False.elim hpx) (fun r9 σ' H locs hw9 hP hD hS => ?_)
          have hq9 : ¬ qIn (nI cq) 0 10000000 := fun z => by have := (qn (a := 0) (b := 10000000) (by decide) (by decide) (by omega)).mp z; omega
          obtain ⟨-, rfl, rfl⟩ := hw9.resolve_right (fun z => hq9 z.1)
          refine lv_iload hx hb dL_goes_348 (lv_at hl 1 rfl) ?_
          refine lv_ldc (v := 10000001) hx hb hown (hts (.constant RL 106 10000001) (by decide +kernel)) dL_goes_350 ?_
          refine lw_nat (a := 10000001) rfl ?_
          refine lw_icmp_ge (tgt := 360) (a := cq) (b := 10000001) hx hb dL_goes_352 (by decide) (by omega) (by omega) (fun c352 => ?_) (fun c352 => ?_)
          · skip
            refine lv_bipush (v := (-101)) hx hb dL_goes_360 (by decide) ?_
            refine lv_icmp_ne (tgt := 369) hx hb dL_goes_362 (by decide) (fun c362 => ?_) (fun c362 => ?_)
            · exact absurd rfl c362
            · skip
              refine lv_iconst (v := nI 1) hx hb dL_goes_365 (by decide) ?_
              refine lv_goto (tgt := 370) hx hb dL_goes_366 (by decide) ?_
              exact sg_iret hx hb hr rfl hlocks hP hD hS (Nat.le_of_ble_eq_true rfl) (Nat.le_of_ble_eq_true rfl) dL_goes_370 (⟨rfl, LI.mk ((hXX.far hG.2.2).mon (Nat.le_succ c)) hG hL⟩)
          · exfalso; omega
        · have hG := hG
          refine lv_iload hx hb dL_goes_333 (lv_at hl 1 rfl) ?_
          refine lv_goto (tgt := 340) hx hb dL_goes_335 (by decide) ?_
          refine lw_iast hx hb hK hP hD hS hG.a0 (k := 2) (by omega) dL_goes_340 (fun H locs hP hD hS => ?_)
          have hG := hG.u0 (k := 2) (v := nI cq)
          have hL2 := LR.ceil (v := nI cq) hL
          refine lv_aload_n hx hb dL_goes_341 rfl (lv_at hl 2 rfl) ?_
          refine lv_iconst (v := nI 0) hx hb dL_goes_342 (by decide) ?_
          refine lv_iload hx hb dL_goes_343 (lv_at hl 1 rfl) ?_
          refine sg_xcalli hD hS hA (vx_runSX (As := [.ref x, .int (nI 0), .int (nI cq)]) (rest := []) ⟨hx, hb, hml, hown, hts⟩ (c_L_set0 l hfl D Y _ _ x M N t c (nI cq) (hXX.far hG.2.2) hc) (vx_cwSW 3 hts gL_goes_L_set rfl rfl rfl (by decide +kernel) ⟨(Nat.le_of_ble_eq_true rfl), (Nat.le_of_ble_eq_true rfl)⟩) (lh_preS hK hP hD hN hC hX hS hA) rfl rfl hl.1 rfl (lv_room (Nat.le_of_ble_eq_true rfl)) dL_goes_345 ⟨(Nat.le_of_ble_eq_true rfl), (Nat.le_of_ble_eq_true rfl)⟩) (fun E ce q9 H locs hpx hP hD hS hce hcv hcl => False.elim hpx) (fun r9 σ' H locs hw9 hP hD hS => ?_)
          have hq9 : qIn (nI cq) 0 10000000 := (qn (a := 0) (b := 10000000) (by decide) (by decide) (by omega)).mpr ⟨by omega, by omega⟩
          obtain ⟨-, e9, hX9⟩ := hw9.resolve_left (fun z => z.1 hq9)
          have hG := hG.by hX9.ho
          refine lv_iload hx hb dL_goes_348 (lv_at hl 1 rfl) ?_
          refine lv_ldc (v := 10000001) hx hb hown (hts (.constant RL 106 10000001) (by decide +kernel)) dL_goes_350 ?_
          refine lw_nat (a := 10000001) rfl ?_
          refine lw_icmp_ge (tgt := 360) (a := cq) (b := 10000001) hx hb dL_goes_352 (by decide) (by omega) (by omega) (fun c352 => ?_) (fun c352 => ?_)
          · exfalso; omega
          · skip
            refine lv_iload hx hb dL_goes_355 (lv_at hl 0 rfl) ?_
            refine lv_goto (tgt := 362) hx hb dL_goes_357 (by decide) ?_
            refine lv_icmp_ne (tgt := 369) hx hb dL_goes_362 (by decide) (fun c362 => ?_) (fun c362 => ?_)
            · exact absurd (e9.trans e2.symm) c362
            · skip
              refine lv_iconst (v := nI 1) hx hb dL_goes_365 (by decide) ?_
              refine lv_goto (tgt := 370) hx hb dL_goes_366 (by decide) ?_
              exact sg_iret hx hb hr rfl hlocks hP hD hS (Nat.le_of_ble_eq_true rfl) (Nat.le_of_ble_eq_true rfl) dL_goes_370 (⟨rfl, LI.mk hX9.self hG hL2⟩)
      · skip
        refine lv_iload_n hx hb dL_goes_282 rfl (lv_at hl 2 rfl) ?_
        refine lv_bipush (v := nI 30) hx hb dL_goes_283 (by decide) ?_
        refine sg_calli hD hS hA (va_runS (As := [.int y, .int (nI 30)]) (rest := []) ⟨hx, hb, hml, hown, hts⟩ (c_L_some l D Y _ _ y 30 (by omega) (by omega)) (va_cwS 2 hts gL_goes_L_some rfl rfl rfl (by decide +kernel) ⟨(Nat.le_of_ble_eq_true rfl), (Nat.le_of_ble_eq_true rfl)⟩) (sg_preS hK hP hD hN hX hS hA) rfl rfl hl.1 rfl (lv_room (Nat.le_of_ble_eq_true rfl)) dL_goes_285 ⟨(Nat.le_of_ble_eq_true rfl), (Nat.le_of_ble_eq_true rfl)⟩) (fun r9 σ' H locs hw9 hP hD hS => ?_)
        obtain ⟨w285, hw285, rfl, rfl⟩ := hw9
        refine lw_if_ne (tgt := 296) (a := w285) hx hb dL_goes_288 (by decide) (by omega) (fun c288 => ?_) (fun c288 => ?_)
        · skip
          refine lv_iload_n hx hb dL_goes_296 rfl (lv_at hl 2 rfl) ?_
          refine lv_iconst (v := nI 3) hx hb dL_goes_297 (by decide) ?_
          refine lv_ishr hx hb dL_goes_298 ?_
          refine lv_topi (fun v298 _ => ?_)
          refine lv_iconst (v := nI 3) hx hb dL_goes_299 (by decide) ?_
          refine sg_calli hD hS hA (va_runS (As := [.int v298, .int (nI 3)]) (rest := []) ⟨hx, hb, hml, hown, hts⟩ (c_L_some l D Y _ _ v298 3 (by omega) (by omega)) (va_cwS 2 hts gL_goes_L_some rfl rfl rfl (by decide +kernel) ⟨(Nat.le_of_ble_eq_true rfl), (Nat.le_of_ble_eq_true rfl)⟩) (sg_preS hK hP hD hN hX hS hA) rfl rfl hl.1 rfl (lv_room (Nat.le_of_ble_eq_true rfl)) dL_goes_300 ⟨(Nat.le_of_ble_eq_true rfl), (Nat.le_of_ble_eq_true rfl)⟩) (fun r9 σ' H locs hw9 hP hD hS => ?_)
          obtain ⟨w300, hw300, rfl, rfl⟩ := hw9
          refine lw_if_ne (tgt := 311) (a := w300) hx hb dL_goes_303 (by decide) (by omega) (fun c303 => ?_) (fun c303 => ?_)
          · skip
            refine lv_iload_n hx hb dL_goes_311 rfl (lv_at hl 2 rfl) ?_
            refine lv_ldc (v := 300000) hx hb hown (hts (.constant RL 108 300000) (by decide +kernel)) dL_goes_312 ?_
            refine lw_nat (a := 300000) rfl ?_
            refine sg_calli hD hS hA (va_runS (As := [.int y, .int (nI 300000)]) (rest := []) ⟨hx, hb, hml, hown, hts⟩ (c_L_some l D Y _ _ y 300000 (by omega) (by omega)) (va_cwS 2 hts gL_goes_L_some rfl rfl rfl (by decide +kernel) ⟨(Nat.le_of_ble_eq_true rfl), (Nat.le_of_ble_eq_true rfl)⟩) (sg_preS hK hP hD hN hX hS hA) rfl rfl hl.1 rfl (lv_room (Nat.le_of_ble_eq_true rfl)) dL_goes_314 ⟨(Nat.le_of_ble_eq_true rfl), (Nat.le_of_ble_eq_true rfl)⟩) (fun r9 σ' H locs hw9 hP hD hS => ?_)
            obtain ⟨w314, hw314, rfl, rfl⟩ := hw9
            exact k317 _ _ _ _ (⟨w314, by omega, rfl, rfl⟩) hP hD hS
          · skip
            refine lv_ldc (v := 2500000) hx hb hown (hts (.constant RL 107 2500000) (by decide +kernel)) dL_goes_306 ?_
            refine lw_nat (a := 2500000) rfl ?_
            refine lv_goto (tgt := 317) hx hb dL_goes_308 (by decide) ?_
            exact k317 _ _ _ _ (⟨2500000, by omega, rfl, rfl⟩) hP hD hS
        · skip
          refine lv_ldc (v := 10000001) hx hb hown (hts (.constant RL 106 10000001) (by decide +kernel)) dL_goes_291 ?_
          refine lw_nat (a := 10000001) rfl ?_
          refine lv_goto (tgt := 317) hx hb dL_goes_293 (by decide) ?_
          exact k317 _ _ _ _ (⟨10000001, by omega, rfl, rfl⟩) hP hD hS
  · exfalso; omega

set_option maxHeartbeats 4000000 in
set_option maxRecDepth 100000 in
theorem c_L_goes2 (l : Launch) (hfl : l.stackTraces = false) (D : va_G) (Y : Nat → ClassId) (σ : sg_W) (sz : Nat) (ad : Nat → Nat) (x : Nat) (G : ZG) (M : MS) (N t c : Nat) (y : Int32) (hXX : CX Y x σ M N t c σ) (hG : ZF Y ad σ G σ) (hL : LR G M N t) (hc : c < 512) : Met l yL_goes wsL_goes ({ frames := 9, cells := 6, slots := 50, locals := 160 } : Room) (va_Pc [.ref x, .int (nI 2), .int y, .ref (ad 0), .ref (ad 1), .ref (ad 2), .ref (ad 3), .ref (ad 4), .ref (ad 5), .ref (ad 6), .ref (ad 7)] (lh_U D Y σ sz)) (va_Qi (fun r σ' => r = nI 1 ∧ LI Y x ad (c + 1) σ') (sg_B D σ sz) (sg_A σ sz)) 6 50 (sg_A σ sz) := by
  refine lh_metP (cc := cL_goes) (maxL := 19) (ret := (some .boolean)) (by decide) rfl (Nat.le_of_ble_eq_true rfl) ?_
  intro p e s m below meth cd9 ls hx hb hml hr hown hts hlocks hnm hP hK hD hN hC hX hA hS hsz hl
  have hl : lv_has ls 19 [(0, .ref x), (1, .int (nI 2)), (2, .int y), (3, .ref (ad 0)), (4, .ref (ad 1)), (5, .ref (ad 2)), (6, .ref (ad 3)), (7, .ref (ad 4)), (8, .ref (ad 5)), (9, .ref (ad 6)), (10, .ref (ad 7))] := hl
  have hIV := hXX.iv
  have hN4 := hL.1.1
  have ht6 := hIV.1.2.1
  have hNt := hIV.1.2.2.1
  obtain ⟨⟨-, e0, e1, e2⟩, eP, -, eQ, -, hfr⟩ := id hL
  refine lv_iload_n hx hb dL_goes_0 rfl (lv_at hl 1 rfl) ?_
  refine lw_if_ne (tgt := 277) (a := 2) hx hb dL_goes_1 (by decide) (by omega) (fun c1 => ?_) (fun c1 => ?_)
  · skip
    refine lv_iload_n hx hb dL_goes_277 rfl (lv_at hl 1 rfl) ?_
    refine lv_iconst (v := nI 1) hx hb dL_goes_278 (by decide) ?_
    refine lw_icmp_ne (tgt := 371) (a := 2) (b := 1) hx hb dL_goes_279 (by decide) (by omega) (by omega) (fun c279 => ?_) (fun c279 => ?_)
    · skip
      refine sg_cutwi (D := D) hS (j := 401) (ls := ls) (rest := []) (0) (0) (fun x9 σ' => ∃ v9 : Nat, v9 ≤ 16 ∧ x9 = nI v9 ∧ σ = σ') (fun x9 σ' H locs hj9 hP hD hS => ?_) (fun k401 => ?_)
      · obtain ⟨rt, hrt, rfl, rfl⟩ := hj9
        refine lv_istore (lv' := [(11, .int (nI rt)), (0, .ref x), (1, .int (nI 2)), (2, .int y), (3, .ref (ad 0)), (4, .ref (ad 1)), (5, .ref (ad 2)), (6, .ref (ad 3)), (7, .ref (ad 4)), (8, .ref (ad 5)), (9, .ref (ad 6)), (10, .ref (ad 7))]) hx hb dL_goes_401 hl (by decide) rfl (fun ls hl => ?_)
        refine sg_cutwi (D := D) hS (j := 420) (ls := ls) (rest := []) (0) (0) (fun x9 σ' => ∃ v9 : Nat, ((v9 = 1 ∧ (0 < rt ∧ rt < 16)) ∨ (v9 = 0 ∧ ¬ (0 < rt ∧ rt < 16))) ∧ x9 = nI v9 ∧ σ = σ') (fun x9 σ' H locs hj9 hP hD hS => ?_) (fun k420 => ?_)
        · obtain ⟨fi, hfi, rfl, rfl⟩ := hj9
          refine lv_istore (lv' := [(12, .int (nI fi)), (11, .int (nI rt)), (0, .ref x), (1, .int (nI 2)), (2, .int y), (3, .ref (ad 0)), (4, .ref (ad 1)), (5, .ref (ad 2)), (6, .ref (ad 3)), (7, .ref (ad 4)), (8, .ref (ad 5)), (9, .ref (ad 6)), (10, .ref (ad 7))]) hx hb dL_goes_420 hl (by decide) rfl (fun ls hl => ?_)
          refine lv_iload_n hx hb dL_goes_422 rfl (lv_at hl 3 rfl) ?_
          refine lv_iconst (v := nI 2) hx hb dL_goes_423 (by decide) ?_
          refine lw_icmp_ne (tgt := 523) (a := 2) (b := 2) hx hb dL_goes_424 (by decide) (by omega) (by omega) (fun c424 => ?_) (fun c424 => ?_)
          · exfalso; omega
          · skip
            refine lv_iload hx hb dL_goes_427 (lv_at hl 0 rfl) ?_
            refine lw_if_eq (tgt := 447) (a := fi) hx hb dL_goes_429 (by decide) (by omega) (fun c429 => ?_) (fun c429 => ?_)
            · skip
              refine lv_iload hx hb dL_goes_447 (lv_at hl 0 rfl) ?_
              refine lw_if_ne (tgt := 457) (a := fi) hx hb dL_goes_449 (by decide) (by omega) (fun c449 => ?_) (fun c449 => ?_)
              · exfalso; omega
              · skip
                refine lv_bipush (v := (-101)) hx hb dL_goes_452 (by decide) ?_
                refine lv_goto (tgt := 471) hx hb dL_goes_454 (by decide) ?_
                refine lv_istore (lv' := [(13, .int (-101)), (12, .int (nI fi)), (11, .int (nI rt)), (0, .ref x), (1, .int (nI 2)), (2, .int y), (3, .ref (ad 0)), (4, .ref (ad 1)), (5, .ref (ad 2)), (6, .ref (ad 3)), (7, .ref (ad 4)), (8, .ref (ad 5)), (9, .ref (ad 6)), (10, .ref (ad 7))]) hx hb dL_goes_471 hl (by decide) rfl (fun ls hl => ?_)
                refine lv_iload hx hb dL_goes_473 (lv_at hl 0 rfl) ?_
                refine lv_if_lt (tgt := 505) hx hb dL_goes_475 (by decide) (fun c475 => ?_) (fun c475 => ?_)
                · skip
                  refine lv_aload_n hx hb dL_goes_505 rfl (lv_at hl 3 rfl) ?_
                  refine lv_iconst (v := nI 1) hx hb dL_goes_506 (by decide) ?_
                  refine lv_iload hx hb dL_goes_507 (lv_at hl 2 rfl) ?_
                  refine sg_xcalli hD hS hA (vx_runSX (As := [.ref x, .int (nI 1), .int (nI rt)]) (rest := []) ⟨hx, hb, hml, hown, hts⟩ (c_L_set1 l hfl D Y _ _ x M N t c (nI rt) (hXX.far hG.2.2) hc (by omega)) (vx_cwSW 3 hts gL_goes_L_set rfl rfl rfl (by decide +kernel) ⟨(Nat.le_of_ble_eq_true rfl), (Nat.le_of_ble_eq_true rfl)⟩) (lh_preS hK hP hD hN hC hX hS hA) rfl rfl hl.1 rfl (lv_room (Nat.le_of_ble_eq_true rfl)) dL_goes_509 ⟨(Nat.le_of_ble_eq_true rfl), (Nat.le_of_ble_eq_true rfl)⟩) (fun E ce q9 H locs hpx hP hD hS hce hcv hcl => False.elim hpx) (fun r9 σ' H locs hw9 hP hD hS => ?_)
                  have hq9 : ¬ qIn (nI rt) 1 15 := fun z => by have := (qn (a := 1) (b := 15) (by decide) (by decide) (by omega)).mp z; omega
                  obtain ⟨-, rfl, rfl⟩ := hw9.resolve_right (fun z => z.elim (fun z => hq9 z.1.1) (fun z => hq9 z.1.1))
                  refine lv_iload hx hb dL_goes_512 (lv_at hl 0 rfl) ?_
                  refine lv_icmp_ne (tgt := 521) hx hb dL_goes_514 (by decide) (fun c514 => ?_) (fun c514 => ?_)
                  · exact absurd rfl c514
                  · skip
                    refine lv_iconst (v := nI 1) hx hb dL_goes_517 (by decide) ?_
                    refine lv_goto (tgt := 522) hx hb dL_goes_518 (by decide) ?_
                    exact sg_iret hx hb hr rfl hlocks hP hD hS (Nat.le_of_ble_eq_true rfl) (Nat.le_of_ble_eq_true rfl) dL_goes_522 (⟨rfl, LI.mk (hXX.mon (Nat.le_succ c)) hG hL⟩)
                · exact absurd (by decide) c475
            · skip
              refine lv_aload_n hx hb dL_goes_432 rfl (lv_at hl 5 rfl) ?_
              refine lv_iconst (v := nI 1) hx hb dL_goes_433 (by decide) ?_
              refine lw_iald hx hb hK hP hG.a0 (k := 1) (by omega) (v := nI N) (e1) dL_goes_434 ?_
              refine lv_iconst (v := nI 4) hx hb dL_goes_435 (by decide) ?_
              refine lw_icmp_ne (tgt := 447) (a := N) (b := 4) hx hb dL_goes_436 (by decide) (by omega) (by omega) (fun c436 => ?_) (fun c436 => ?_)
              · skip
                refine lv_iload hx hb dL_goes_447 (lv_at hl 0 rfl) ?_
                refine lw_if_ne (tgt := 457) (a := fi) hx hb dL_goes_449 (by decide) (by omega) (fun c449 => ?_) (fun c449 => ?_)
                · skip
                  refine lv_aload_n hx hb dL_goes_457 rfl (lv_at hl 5 rfl) ?_
                  refine lv_iconst (v := nI 0) hx hb dL_goes_458 (by decide) ?_
                  refine lw_iald hx hb hK hP hG.a0 (k := 0) (by omega) (v := nI t) (e0) dL_goes_459 ?_
                  refine lw_if_ne (tgt := 468) (a := t) hx hb dL_goes_460 (by decide) (by omega) (fun c460 => ?_) (fun c460 => ?_)
                  · skip
                    refine lv_aload_n hx hb dL_goes_468 rfl (lv_at hl 5 rfl) ?_
                    refine lv_iconst (v := nI 1) hx hb dL_goes_469 (by decide) ?_
                    refine lw_iald hx hb hK hP hG.a0 (k := 1) (by omega) (v := nI N) (e1) dL_goes_470 ?_
                    refine lv_istore (lv' := [(13, .int (nI N)), (12, .int (nI fi)), (11, .int (nI rt)), (0, .ref x), (1, .int (nI 2)), (2, .int y), (3, .ref (ad 0)), (4, .ref (ad 1)), (5, .ref (ad 2)), (6, .ref (ad 3)), (7, .ref (ad 4)), (8, .ref (ad 5)), (9, .ref (ad 6)), (10, .ref (ad 7))]) hx hb dL_goes_471 hl (by decide) rfl (fun ls hl => ?_)
                    refine lv_iload hx hb dL_goes_473 (lv_at hl 0 rfl) ?_
                    refine lw_if_lt (tgt := 505) (a := N) hx hb dL_goes_475 (by decide) (by omega) ?_
                    refine lv_aload hx hb dL_goes_478 (lv_at hl 8 rfl) ?_
                    refine lv_iload hx hb dL_goes_480 (lv_at hl 0 rfl) ?_
                    refine lv_iload hx hb dL_goes_482 (lv_at hl 2 rfl) ?_
                    refine lw_iast hx hb hK hP hD hS hG.a2 (k := N) (by omega) dL_goes_484 (fun H locs hP hD hS => ?_)
                    have hG := hG.u2 (k := N) (v := nI rt)
                    refine lv_aload hx hb dL_goes_485 (lv_at hl 8 rfl) ?_
                    refine lv_bipush (v := nI 12) hx hb dL_goes_487 (by decide) ?_
                    refine lv_iload hx hb dL_goes_489 (lv_at hl 0 rfl) ?_
                    refine lw_iadd (a := 12) (b := N) hx hb dL_goes_491 ?_
                    refine lv_aload_n hx hb dL_goes_492 rfl (lv_at hl 6 rfl) ?_
                    refine lv_iconst (v := nI 0) hx hb dL_goes_493 (by decide) ?_
                    refine lw_iald hx hb hK hP hG.a0 (k := 0) (by omega) (v := nI t) (by rw [gI_vo (by decide)]; exact e0) dL_goes_494 ?_
                    refine lv_iconst (v := nI 1) hx hb dL_goes_495 (by decide) ?_
                    refine lw_isub (a := t) (b := 1) hx hb dL_goes_496 (by omega) ?_
                    refine lw_iast hx hb hK hP hD hS hG.a2 (k := 12 + N) (by omega) dL_goes_497 (fun H locs hP hD hS => ?_)
                    have hG := hG.u2 (k := 12 + N) (v := nI (t - 1))
                    refine lv_aload_n hx hb dL_goes_498 rfl (lv_at hl 6 rfl) ?_
                    refine lv_iconst (v := nI 1) hx hb dL_goes_499 (by decide) ?_
                    refine lv_dup2_11 hx hb dL_goes_500 rfl rfl ?_
                    refine lw_iald hx hb hK hP hG.a0 (k := 1) (by omega) (v := nI N) (by rw [gI_vo (by decide), gI_vo (by decide)]; exact e1) dL_goes_501 ?_
                    refine lv_iconst (v := nI 1) hx hb dL_goes_502 (by decide) ?_
                    refine lw_iadd (a := N) (b := 1) hx hb dL_goes_503 ?_
                    refine lw_iast hx hb hK hP hD hS hG.a0 (k := 1) (by omega) dL_goes_504 (fun H locs hP hD hS => ?_)
                    have hG := hG.u0 (k := 1) (v := nI (N + 1))
                    have hL2 := LR.join (v := nI rt) hL (by omega) (by omega) ht6 hIV.1.2.2.2.1 (hIV.now (by omega))
                    refine lv_aload_n hx hb dL_goes_505 rfl (lv_at hl 3 rfl) ?_
                    refine lv_iconst (v := nI 1) hx hb dL_goes_506 (by decide) ?_
                    refine lv_iload hx hb dL_goes_507 (lv_at hl 2 rfl) ?_
                    refine sg_xcalli hD hS hA (vx_runSX (As := [.ref x, .int (nI 1), .int (nI rt)]) (rest := []) ⟨hx, hb, hml, hown, hts⟩ (c_L_set1 l hfl D Y _ _ x M N t c (nI rt) (hXX.far hG.2.2) hc (by omega)) (vx_cwSW 3 hts gL_goes_L_set rfl rfl rfl (by decide +kernel) ⟨(Nat.le_of_ble_eq_true rfl), (Nat.le_of_ble_eq_true rfl)⟩) (lh_preS hK hP hD hN hC hX hS hA) rfl rfl hl.1 rfl (lv_room (Nat.le_of_ble_eq_true rfl)) dL_goes_509 ⟨(Nat.le_of_ble_eq_true rfl), (Nat.le_of_ble_eq_true rfl)⟩) (fun E ce q9 H locs hpx hP hD hS hce hcv hcl => False.elim hpx) (fun r9 σ' H locs hw9 hP hD hS => ?_)
                    have hq9 : qIn (nI rt) 1 15 := (qn (a := 1) (b := 15) (by decide) (by decide) (by omega)).mpr ⟨by omega, by omega⟩
                    obtain ⟨-, rfl, hX9⟩ := (hw9.resolve_left (fun z => z.1 hq9)).resolve_left (fun z => z.1.2 (by omega))
                    have hG := hG.by hX9.ho
                    refine lv_iload hx hb dL_goes_512 (lv_at hl 0 rfl) ?_
                    refine lw_icmp_ne (tgt := 521) (a := N) (b := N) hx hb dL_goes_514 (by decide) (by omega) (by omega) (fun c514 => ?_) (fun c514 => ?_)
                    · exfalso; omega
                    · skip
                      refine lv_iconst (v := nI 1) hx hb dL_goes_517 (by decide) ?_
                      refine lv_goto (tgt := 522) hx hb dL_goes_518 (by decide) ?_
                      exact sg_iret hx hb hr rfl hlocks hP hD hS (Nat.le_of_ble_eq_true rfl) (Nat.le_of_ble_eq_true rfl) dL_goes_522 (⟨rfl, LI.mk hX9.self hG hL2⟩)
                  · skip
                    refine lv_bipush (v := (-102)) hx hb dL_goes_463 (by decide) ?_
                    refine lv_goto (tgt := 471) hx hb dL_goes_465 (by decide) ?_
                    refine lv_istore (lv' := [(13, .int (-102)), (12, .int (nI fi)), (11, .int (nI rt)), (0, .ref x), (1, .int (nI 2)), (2, .int y), (3, .ref (ad 0)), (4, .ref (ad 1)), (5, .ref (ad 2)), (6, .ref (ad 3)), (7, .ref (ad 4)), (8, .ref (ad 5)), (9, .ref (ad 6)), (10, .ref (ad 7))]) hx hb dL_goes_471 hl (by decide) rfl (fun ls hl => ?_)
                    refine lv_iload hx hb dL_goes_473 (lv_at hl 0 rfl) ?_
                    refine lv_if_lt (tgt := 505) hx hb dL_goes_475 (by decide) (fun c475 => ?_) (fun c475 => ?_)
                    · skip
                      refine lv_aload_n hx hb dL_goes_505 rfl (lv_at hl 3 rfl) ?_
                      refine lv_iconst (v := nI 1) hx hb dL_goes_506 (by decide) ?_
                      refine lv_iload hx hb dL_goes_507 (lv_at hl 2 rfl) ?_
                      refine sg_xcalli hD hS hA (vx_runSX (As := [.ref x, .int (nI 1), .int (nI rt)]) (rest := []) ⟨hx, hb, hml, hown, hts⟩ (c_L_set1 l hfl D Y _ _ x M N t c (nI rt) (hXX.far hG.2.2) hc (by omega)) (vx_cwSW 3 hts gL_goes_L_set rfl rfl rfl (by decide +kernel) ⟨(Nat.le_of_ble_eq_true rfl), (Nat.le_of_ble_eq_true rfl)⟩) (lh_preS hK hP hD hN hC hX hS hA) rfl rfl hl.1 rfl (lv_room (Nat.le_of_ble_eq_true rfl)) dL_goes_509 ⟨(Nat.le_of_ble_eq_true rfl), (Nat.le_of_ble_eq_true rfl)⟩) (fun E ce q9 H locs hpx hP hD hS hce hcv hcl => False.elim hpx) (fun r9 σ' H locs hw9 hP hD hS => ?_)
                      have hq9 : qIn (nI rt) 1 15 := (qn (a := 1) (b := 15) (by decide) (by decide) (by omega)).mpr ⟨by omega, by omega⟩
                      obtain ⟨-, rfl, rfl⟩ := (hw9.resolve_left (fun z => z.1 hq9)).resolve_right (fun z => absurd z.1.2 (by omega))
                      refine lv_iload hx hb dL_goes_512 (lv_at hl 0 rfl) ?_
                      refine lv_icmp_ne (tgt := 521) hx hb dL_goes_514 (by decide) (fun c514 => ?_) (fun c514 => ?_)
                      · exact absurd rfl c514
                      · skip
                        refine lv_iconst (v := nI 1) hx hb dL_goes_517 (by decide) ?_
                        refine lv_goto (tgt := 522) hx hb dL_goes_518 (by decide) ?_
                        exact sg_iret hx hb hr rfl hlocks hP hD hS (Nat.le_of_ble_eq_true rfl) (Nat.le_of_ble_eq_true rfl) dL_goes_522 (⟨rfl, LI.mk (hXX.mon (Nat.le_succ c)) hG hL⟩)
                    · exact absurd (by decide) c475
                · exfalso; omega
              · skip
                refine lv_aload_n hx hb dL_goes_439 rfl (lv_at hl 5 rfl) ?_
                refine lv_iconst (v := nI 0) hx hb dL_goes_440 (by decide) ?_
                refine lw_iald hx hb hK hP hG.a0 (k := 0) (by omega) (v := nI t) (e0) dL_goes_441 ?_
                refine lw_if_le (tgt := 447) (a := t) hx hb dL_goes_442 (by decide) (by omega) (fun c442 => ?_) (fun c442 => ?_)
                · skip
                  refine lv_iload hx hb dL_goes_447 (lv_at hl 0 rfl) ?_
                  refine lw_if_ne (tgt := 457) (a := fi) hx hb dL_goes_449 (by decide) (by omega) (fun c449 => ?_) (fun c449 => ?_)
                  · skip
                    refine lv_aload_n hx hb dL_goes_457 rfl (lv_at hl 5 rfl) ?_
                    refine lv_iconst (v := nI 0) hx hb dL_goes_458 (by decide) ?_
                    refine lw_iald hx hb hK hP hG.a0 (k := 0) (by omega) (v := nI t) (e0) dL_goes_459 ?_
                    refine lw_if_ne (tgt := 468) (a := t) hx hb dL_goes_460 (by decide) (by omega) (fun c460 => ?_) (fun c460 => ?_)
                    · exfalso; omega
                    · skip
                      refine lv_bipush (v := (-102)) hx hb dL_goes_463 (by decide) ?_
                      refine lv_goto (tgt := 471) hx hb dL_goes_465 (by decide) ?_
                      refine lv_istore (lv' := [(13, .int (-102)), (12, .int (nI fi)), (11, .int (nI rt)), (0, .ref x), (1, .int (nI 2)), (2, .int y), (3, .ref (ad 0)), (4, .ref (ad 1)), (5, .ref (ad 2)), (6, .ref (ad 3)), (7, .ref (ad 4)), (8, .ref (ad 5)), (9, .ref (ad 6)), (10, .ref (ad 7))]) hx hb dL_goes_471 hl (by decide) rfl (fun ls hl => ?_)
                      refine lv_iload hx hb dL_goes_473 (lv_at hl 0 rfl) ?_
                      refine lv_if_lt (tgt := 505) hx hb dL_goes_475 (by decide) (fun c475 => ?_) (fun c475 => ?_)
                      · skip
                        refine lv_aload_n hx hb dL_goes_505 rfl (lv_at hl 3 rfl) ?_
                        refine lv_iconst (v := nI 1) hx hb dL_goes_506 (by decide) ?_
                        refine lv_iload hx hb dL_goes_507 (lv_at hl 2 rfl) ?_
                        refine sg_xcalli hD hS hA (vx_runSX (As := [.ref x, .int (nI 1), .int (nI rt)]) (rest := []) ⟨hx, hb, hml, hown, hts⟩ (c_L_set1 l hfl D Y _ _ x M N t c (nI rt) (hXX.far hG.2.2) hc (by omega)) (vx_cwSW 3 hts gL_goes_L_set rfl rfl rfl (by decide +kernel) ⟨(Nat.le_of_ble_eq_true rfl), (Nat.le_of_ble_eq_true rfl)⟩) (lh_preS hK hP hD hN hC hX hS hA) rfl rfl hl.1 rfl (lv_room (Nat.le_of_ble_eq_true rfl)) dL_goes_509 ⟨(Nat.le_of_ble_eq_true rfl), (Nat.le_of_ble_eq_true rfl)⟩) (fun E ce q9 H locs hpx hP hD hS hce hcv hcl => False.elim hpx) (fun r9 σ' H locs hw9 hP hD hS => ?_)
                        have hq9 : qIn (nI rt) 1 15 := (qn (a := 1) (b := 15) (by decide) (by decide) (by omega)).mpr ⟨by omega, by omega⟩
                        obtain ⟨-, rfl, rfl⟩ := (hw9.resolve_left (fun z => z.1 hq9)).resolve_right (fun z => absurd z.1.2 (by omega))
                        refine lv_iload hx hb dL_goes_512 (lv_at hl 0 rfl) ?_
                        refine lv_icmp_ne (tgt := 521) hx hb dL_goes_514 (by decide) (fun c514 => ?_) (fun c514 => ?_)
                        · exact absurd rfl c514
                        · skip
                          refine lv_iconst (v := nI 1) hx hb dL_goes_517 (by decide) ?_
                          refine lv_goto (tgt := 522) hx hb dL_goes_518 (by decide) ?_
                          exact sg_iret hx hb hr rfl hlocks hP hD hS (Nat.le_of_ble_eq_true rfl) (Nat.le_of_ble_eq_true rfl) dL_goes_522 (⟨rfl, LI.mk (hXX.mon (Nat.le_succ c)) hG hL⟩)
                      · exact absurd (by decide) c475
                  · exfalso; omega
                · skip
                  refine lv_iconst (v := nI 1) hx hb dL_goes_445 (by decide) ?_
                  exact sg_iret hx hb hr rfl hlocks hP hD hS (Nat.le_of_ble_eq_true rfl) (Nat.le_of_ble_eq_true rfl) dL_goes_446 (⟨rfl, LI.mk (hXX.mon (Nat.le_succ c)) hG hL⟩)
        · skip
          refine lv_iload hx hb dL_goes_403 (lv_at hl 0 rfl) ?_
          refine lw_if_le (tgt := 419) (a := rt) hx hb dL_goes_405 (by decide) (by omega) (fun c405 => ?_) (fun c405 => ?_)
          · skip
            refine lv_iconst (v := nI 0) hx hb dL_goes_419 (by decide) ?_
            exact k420 _ _ _ _ (⟨0, by omega, rfl, rfl⟩) hP hD hS
          · skip
            refine lv_iload hx hb dL_goes_408 (lv_at hl 0 rfl) ?_
            refine lv_bipush (v := nI 16) hx hb dL_goes_410 (by decide) ?_
            refine lw_icmp_ge (tgt := 419) (a := rt) (b := 16) hx hb dL_goes_412 (by decide) (by omega) (by omega) (fun c412 => ?_) (fun c412 => ?_)
            · skip
              refine lv_iconst (v := nI 0) hx hb dL_goes_419 (by decide) ?_
              exact k420 _ _ _ _ (⟨0, by omega, rfl, rfl⟩) hP hD hS
            · skip
              refine lv_iconst (v := nI 1) hx hb dL_goes_415 (by decide) ?_
              refine lv_goto (tgt := 420) hx hb dL_goes_416 (by decide) ?_
              exact k420 _ _ _ _ (⟨1, by omega, rfl, rfl⟩) hP hD hS
      · skip
        refine lv_iload_n hx hb dL_goes_371 rfl (lv_at hl 2 rfl) ?_
        refine lv_bipush (v := nI 30) hx hb dL_goes_372 (by decide) ?_
        refine sg_calli hD hS hA (va_runS (As := [.int y, .int (nI 30)]) (rest := []) ⟨hx, hb, hml, hown, hts⟩ (c_L_some l D Y _ _ y 30 (by omega) (by omega)) (va_cwS 2 hts gL_goes_L_some rfl rfl rfl (by decide +kernel) ⟨(Nat.le_of_ble_eq_true rfl), (Nat.le_of_ble_eq_true rfl)⟩) (sg_preS hK hP hD hN hX hS hA) rfl rfl hl.1 rfl (lv_room (Nat.le_of_ble_eq_true rfl)) dL_goes_374 ⟨(Nat.le_of_ble_eq_true rfl), (Nat.le_of_ble_eq_true rfl)⟩) (fun r9 σ' H locs hw9 hP hD hS => ?_)
        obtain ⟨w374, hw374, rfl, rfl⟩ := hw9
        refine lw_if_ne (tgt := 393) (a := w374) hx hb dL_goes_377 (by decide) (by omega) (fun c377 => ?_) (fun c377 => ?_)
        · skip
          refine lv_iconst (v := nI 1) hx hb dL_goes_393 (by decide) ?_
          refine lv_iload_n hx hb dL_goes_394 rfl (lv_at hl 2 rfl) ?_
          refine lv_bipush (v := nI 15) hx hb dL_goes_395 (by decide) ?_
          refine sg_calli hD hS hA (va_runS (As := [.int y, .int (nI 15)]) (rest := [.int (nI 1)]) ⟨hx, hb, hml, hown, hts⟩ (c_L_some l D Y _ _ y 15 (by omega) (by omega)) (va_cwS 2 hts gL_goes_L_some rfl rfl rfl (by decide +kernel) ⟨(Nat.le_of_ble_eq_true rfl), (Nat.le_of_ble_eq_true rfl)⟩) (sg_preS hK hP hD hN hX hS hA) rfl rfl hl.1 rfl (lv_room (Nat.le_of_ble_eq_true rfl)) dL_goes_397 ⟨(Nat.le_of_ble_eq_true rfl), (Nat.le_of_ble_eq_true rfl)⟩) (fun r9 σ' H locs hw9 hP hD hS => ?_)
          obtain ⟨w397, hw397, rfl, rfl⟩ := hw9
          refine lw_iadd (a := 1) (b := w397) hx hb dL_goes_400 ?_
          exact k401 _ _ _ _ (⟨1 + w397, by omega, rfl, rfl⟩) hP hD hS
        · skip
          refine lv_bipush (v := nI 16) hx hb dL_goes_380 (by decide) ?_
          refine lv_iload_n hx hb dL_goes_382 rfl (lv_at hl 2 rfl) ?_
          refine lv_iconst (v := nI 3) hx hb dL_goes_383 (by decide) ?_
          refine lv_ishr hx hb dL_goes_384 ?_
          refine lv_topi (fun v384 _ => ?_)
          refine lv_iconst (v := nI 2) hx hb dL_goes_385 (by decide) ?_
          refine sg_calli hD hS hA (va_runS (As := [.int v384, .int (nI 2)]) (rest := [.int (nI 16)]) ⟨hx, hb, hml, hown, hts⟩ (c_L_some l D Y _ _ v384 2 (by omega) (by omega)) (va_cwS 2 hts gL_goes_L_some rfl rfl rfl (by decide +kernel) ⟨(Nat.le_of_ble_eq_true rfl), (Nat.le_of_ble_eq_true rfl)⟩) (sg_preS hK hP hD hN hX hS hA) rfl rfl hl.1 rfl (lv_room (Nat.le_of_ble_eq_true rfl)) dL_goes_386 ⟨(Nat.le_of_ble_eq_true rfl), (Nat.le_of_ble_eq_true rfl)⟩) (fun r9 σ' H locs hw9 hP hD hS => ?_)
          obtain ⟨w386, hw386, rfl, rfl⟩ := hw9
          refine lw_imul (a := 16) (b := w386) hx hb dL_goes_389 ?_
          refine lv_goto (tgt := 401) hx hb dL_goes_390 (by decide) ?_
          exact k401 _ _ _ _ (⟨16 * w386, by omega, rfl, rfl⟩) hP hD hS
    · exfalso; omega
  · exfalso; omega
