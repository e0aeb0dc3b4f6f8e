set_option maxHeartbeats 4000000 in
set_option maxRecDepth 100000 in
theorem c_L_sells (l : Launch) (hfl : l.stackTraces = false) (D : va_G) (Y : Nat → ClassId) (σ : sg_W) (sz : Nat) (ad : Nat → Nat) (x : Nat) (G : ZG) (M : MS) (N t c : Nat) (y : Int32) (hXX : CX Y x σ M N t c σ) (hG : ZF Y ad σ G σ) (hL : LR G M N t) (hc : c < 512) : Met l yL_sells wsL_sells ({ frames := 9, cells := 3, slots := 18, locals := 160 } : Room) (va_Pc [.ref x, .int y, .ref (ad 0), .ref (ad 1), .ref (ad 2), .ref (ad 4), .ref (ad 5), .ref (ad 6), .ref (ad 7)] (lh_U D Y σ sz)) (va_Qi (fun r σ' => r = nI 1 ∧ LI Y x ad (c + 1) σ') (sg_B D σ sz) (sg_A σ sz)) 3 18 (sg_A σ sz) := by
  refine lh_metP (cc := cL_sells) (maxL := 19) (ret := (some .boolean)) (by decide) rfl (Nat.le_of_ble_eq_true rfl) ?_
  intro p e s m below meth cd9 ls hx hb hml hr hown hts hlocks hnm hP hK hD hN hC hX hA hS hsz hl
  have hl : lv_has ls 19 [(0, .ref x), (1, .int y), (2, .ref (ad 0)), (3, .ref (ad 1)), (4, .ref (ad 2)), (5, .ref (ad 4)), (6, .ref (ad 5)), (7, .ref (ad 6)), (8, .ref (ad 7))] := hl
  have hIV := hXX.iv
  have hN4 := hL.1.1
  have ht6 := hIV.1.2.1
  have hNt := hIV.1.2.2.1
  obtain ⟨⟨-, e0, e1, e2⟩, eP, -, eQ9, -, hfr⟩ := id hL
  refine lv_iload_n hx hb dL_sells_0 rfl (lv_at hl 1 rfl) ?_
  refine lv_iconst (v := nI 4) hx hb dL_sells_1 (by decide) ?_
  refine lv_ishr hx hb dL_sells_2 ?_
  refine lv_topi (fun v2 _ => ?_)
  refine lv_aload_n hx hb dL_sells_3 rfl (lv_at hl 2 rfl) ?_
  refine lv_iconst (v := nI 1) hx hb dL_sells_4 (by decide) ?_
  refine lw_iald hx hb hK hP hG.a0 (k := 1) (by omega) (v := nI N) (e1) dL_sells_5 ?_
  refine lv_iconst (v := nI 1) hx hb dL_sells_6 (by decide) ?_
  refine lw_iadd (a := N) (b := 1) hx hb dL_sells_7 ?_
  refine sg_calli hD hS hA (va_runS (As := [.int v2, .int (nI (N + 1))]) (rest := []) ⟨hx, hb, hml, hown, hts⟩ (c_L_some l D Y _ _ v2 (N + 1) (by omega) (by omega)) (va_cwS 2 hts gL_sells_L_some rfl rfl rfl (by decide +kernel) ⟨(Nat.le_of_ble_eq_true rfl), (Nat.le_of_ble_eq_true rfl)⟩) (sg_preS hK hP hD hN hX hS hA) rfl rfl hl.1 rfl (lv_room (Nat.le_of_ble_eq_true rfl)) dL_sells_8 ⟨(Nat.le_of_ble_eq_true rfl), (Nat.le_of_ble_eq_true rfl)⟩) (fun r9 σ' H locs hw9 hP hD hS => ?_)
  obtain ⟨w8, hw8, rfl, rfl⟩ := hw9
  refine lv_istore (lv' := [(9, .int (nI w8)), (0, .ref x), (1, .int y), (2, .ref (ad 0)), (3, .ref (ad 1)), (4, .ref (ad 2)), (5, .ref (ad 4)), (6, .ref (ad 5)), (7, .ref (ad 6)), (8, .ref (ad 7))]) hx hb dL_sells_11 hl (by decide) rfl (fun ls hl => ?_)
  refine lv_iload hx hb dL_sells_13 (lv_at hl 0 rfl) ?_
  refine lv_aload_n hx hb dL_sells_15 rfl (lv_at hl 3 rfl) ?_
  refine lv_iconst (v := nI 1) hx hb dL_sells_16 (by decide) ?_
  refine lw_iald hx hb hK hP hG.a0 (k := 1) (by omega) (v := nI N) (e1) dL_sells_17 ?_
  refine lw_icmp_ge (tgt := 25) (a := w8) (b := N) hx hb dL_sells_18 (by decide) (by omega) (by omega) (fun c18 => ?_) (fun c18 => ?_)
  · have hnv : ¬ vp_in (nI w8) N := fun z => absurd ((vn (by omega) (by omega)).mp z) (by omega)
    refine lv_iconst (v := nI 0) hx hb dL_sells_25 (by decide) ?_
    refine lv_istore (lv' := [(10, .int (nI 0)), (9, .int (nI w8)), (0, .ref x), (1, .int y), (2, .ref (ad 0)), (3, .ref (ad 1)), (4, .ref (ad 2)), (5, .ref (ad 4)), (6, .ref (ad 5)), (7, .ref (ad 6)), (8, .ref (ad 7))]) hx hb dL_sells_26 hl (by decide) rfl (fun ls hl => ?_)
    refine lv_iconst (v := nI 0) hx hb dL_sells_28 (by decide) ?_
    refine lv_istore (lv' := [(11, .int (nI 0)), (10, .int (nI 0)), (9, .int (nI w8)), (0, .ref x), (1, .int y), (2, .ref (ad 0)), (3, .ref (ad 1)), (4, .ref (ad 2)), (5, .ref (ad 4)), (6, .ref (ad 5)), (7, .ref (ad 6)), (8, .ref (ad 7))]) hx hb dL_sells_29 hl (by decide) rfl (fun ls hl => ?_)
    refine lv_iconst (v := nI 0) hx hb dL_sells_31 (by decide) ?_
    refine lv_istore (lv' := [(12, .int (nI 0)), (11, .int (nI 0)), (10, .int (nI 0)), (9, .int (nI w8)), (0, .ref x), (1, .int y), (2, .ref (ad 0)), (3, .ref (ad 1)), (4, .ref (ad 2)), (5, .ref (ad 4)), (6, .ref (ad 5)), (7, .ref (ad 6)), (8, .ref (ad 7))]) hx hb dL_sells_32 hl (by decide) rfl (fun ls hl => ?_)
    refine lv_iload hx hb dL_sells_34 (lv_at hl 0 rfl) ?_
    refine lv_bipush (v := nI 10) hx hb dL_sells_36 (by decide) ?_
    refine lw_icmp_ge (tgt := 68) (a := 0) (b := 10) hx hb dL_sells_38 (by decide) (by omega) (by omega) (fun c38 => ?_) (fun c38 => ?_)
    · skip
      refine sg_cutwi (D := D) hS (j := 128) (ls := ls) (rest := []) (0 + 0) (0 + 0) (fun x9 σ' => True ∧ σ = σ') (fun x9 σ' H locs hj9 hP hD hS => ?_) (fun k128 => ?_)
      · obtain ⟨-, rfl⟩ := hj9
        obtain ⟨sh, rfl⟩ : ∃ sh9 : Int32, sh9 = x9 := ⟨_, rfl⟩
        refine lv_istore (lv' := [(12, .int sh), (11, .int (nI 0)), (10, .int (nI 0)), (9, .int (nI w8)), (0, .ref x), (1, .int y), (2, .ref (ad 0)), (3, .ref (ad 1)), (4, .ref (ad 2)), (5, .ref (ad 4)), (6, .ref (ad 5)), (7, .ref (ad 6)), (8, .ref (ad 7))]) hx hb dL_sells_128 hl (by decide) rfl (fun ls hl => ?_)
        refine sg_cutwi (D := D) hS (j := 147) (ls := ls) (rest := []) (0 + 0) (0 + 0) (fun x9 σ' => ∃ v9 : Nat, ((v9 = 1 ∧ qIn sh 1 1000000) ∨ (v9 = 0 ∧ ¬ qIn sh 1 1000000)) ∧ x9 = nI v9 ∧ σ = σ') (fun x9 σ' H locs hj9 hP hD hS => ?_) (fun k147 => ?_)
        · obtain ⟨fi, hfi, rfl, rfl⟩ := hj9
          refine lv_istore (lv' := [(13, .int (nI fi)), (12, .int sh), (11, .int (nI 0)), (10, .int (nI 0)), (9, .int (nI w8)), (0, .ref x), (1, .int y), (2, .ref (ad 0)), (3, .ref (ad 1)), (4, .ref (ad 2)), (5, .ref (ad 4)), (6, .ref (ad 5)), (7, .ref (ad 6)), (8, .ref (ad 7))]) hx hb dL_sells_147 hl (by decide) rfl (fun ls hl => ?_)
          refine lv_iload hx hb dL_sells_149 (lv_at hl 3 rfl) ?_
          refine lw_if_ne (tgt := 159) (a := 0) hx hb dL_sells_151 (by decide) (by omega) (fun c151 => ?_) (fun c151 => ?_)
          · exfalso; omega
          · skip
            refine lv_bipush (v := (-101)) hx hb dL_sells_154 (by decide) ?_
            refine lv_goto (tgt := 182) hx hb dL_sells_156 (by decide) ?_
            refine lv_istore (lv' := [(14, .int (-101)), (13, .int (nI fi)), (12, .int sh), (11, .int (nI 0)), (10, .int (nI 0)), (9, .int (nI w8)), (0, .ref x), (1, .int y), (2, .ref (ad 0)), (3, .ref (ad 1)), (4, .ref (ad 2)), (5, .ref (ad 4)), (6, .ref (ad 5)), (7, .ref (ad 6)), (8, .ref (ad 7))]) hx hb dL_sells_182 hl (by decide) rfl (fun ls hl => ?_)
            refine lv_iload hx hb dL_sells_184 (lv_at hl 0 rfl) ?_
            refine lv_if_ne (tgt := 194) hx hb dL_sells_186 (by decide) (fun c186 => ?_) (fun c186 => ?_)
            · skip
              refine lv_iconst (v := nI 0) hx hb dL_sells_194 (by decide) ?_
              refine lv_istore (lv' := [(15, .int (nI 0)), (14, .int (-101)), (13, .int (nI fi)), (12, .int sh), (11, .int (nI 0)), (10, .int (nI 0)), (9, .int (nI w8)), (0, .ref x), (1, .int y), (2, .ref (ad 0)), (3, .ref (ad 1)), (4, .ref (ad 2)), (5, .ref (ad 4)), (6, .ref (ad 5)), (7, .ref (ad 6)), (8, .ref (ad 7))]) hx hb dL_sells_195 hl (by decide) rfl (fun ls hl => ?_)
              refine lv_bipush (v := nI 10) hx hb dL_sells_197 (by decide) ?_
              refine lv_iload hx hb dL_sells_199 (lv_at hl 6 rfl) ?_
              refine lw_imul (a := 10) (b := w8) hx hb dL_sells_201 ?_
              refine lv_istore (lv' := [(16, .int (nI (10 * w8))), (15, .int (nI 0)), (14, .int (-101)), (13, .int (nI fi)), (12, .int sh), (11, .int (nI 0)), (10, .int (nI 0)), (9, .int (nI w8)), (0, .ref x), (1, .int y), (2, .ref (ad 0)), (3, .ref (ad 1)), (4, .ref (ad 2)), (5, .ref (ad 4)), (6, .ref (ad 5)), (7, .ref (ad 6)), (8, .ref (ad 7))]) hx hb dL_sells_202 hl (by decide) rfl (fun ls hl => ?_)
              refine lv_iload hx hb dL_sells_204 (lv_at hl 1 rfl) ?_
              refine lw_if_le (tgt := 353) (a := 0) hx hb dL_sells_206 (by decide) (by omega) (fun c206 => ?_) (fun c206 => ?_)
              · skip
                obtain ⟨Z9, hZ9⟩ : ∃ Z9, Z9 = xSell M (nI w8) sh := ⟨_, rfl⟩
                obtain ⟨S9, hS9⟩ : ∃ S9, S9 = sH M (tN (nI w8)) 10 := ⟨_, rfl⟩
                refine lv_aload_n hx hb dL_sells_353 rfl (lv_at hl 8 rfl) ?_
                refine lv_iconst (v := nI 2) hx hb dL_sells_354 (by decide) ?_
                refine lv_iload hx hb dL_sells_355 (lv_at hl 7 rfl) ?_
                refine lv_iload hx hb dL_sells_357 (lv_at hl 4 rfl) ?_
                refine sg_xcalli hD hS hA (vx_runSX (As := [.ref x, .int (nI 2), .int (nI w8), .int sh]) (rest := []) ⟨hx, hb, hml, hown, hts⟩ (c_L_act2 l hfl D Y _ _ x M N t c (nI w8) sh (hXX.far hG.2.2) hc Z9 hZ9 S9 hS9) (vx_cwSW 4 hts gL_sells_L_act rfl rfl rfl (by decide +kernel) ⟨(Nat.le_of_ble_eq_true rfl), (Nat.le_of_ble_eq_true rfl)⟩) (lh_preS hK hP hD hN hC hX hS hA) rfl rfl hl.1 rfl (lv_room (Nat.le_of_ble_eq_true rfl)) dL_sells_359 ⟨(Nat.le_of_ble_eq_true rfl), (Nat.le_of_ble_eq_true rfl)⟩) (fun E ce q9 H locs hpx hP hD hS hce hcv hcl => False.elim hpx) (fun r9 σ' H locs hw9 hP hD hS => ?_)
                obtain ⟨-, rfl, rfl⟩ := hw9.resolve_right (fun z => z.elim (fun z => hnv z.1.1) (fun z => z.elim (fun z => hnv z.1.1) (fun z => hnv z.1.1)))
                refine lv_iload hx hb dL_sells_362 (lv_at hl 2 rfl) ?_
                refine lv_icmp_ne (tgt := 371) hx hb dL_sells_364 (by decide) (fun c364 => ?_) (fun c364 => ?_)
                · exact absurd rfl c364
                · skip
                  refine lv_iconst (v := nI 1) hx hb dL_sells_367 (by decide) ?_
                  refine lv_goto (tgt := 372) hx hb dL_sells_368 (by decide) ?_
                  exact sg_iret hx hb hr rfl hlocks hP hD hS (Nat.le_of_ble_eq_true rfl) (Nat.le_of_ble_eq_true rfl) dL_sells_372 (⟨rfl, LI.mk ((hXX.far hG.2.2).mon (Nat.le_succ c)) hG hL⟩)
              · exfalso; omega
            · exact absurd c186 (by decide)
        · skip
          refine lv_iload hx hb dL_sells_130 (lv_at hl 0 rfl) ?_
          refine lv_if_le (tgt := 146) hx hb dL_sells_132 (by decide) (fun c132 => ?_) (fun c132 => ?_)
          · skip
            refine lv_iconst (v := nI 0) hx hb dL_sells_146 (by decide) ?_
            exact k147 _ _ _ _ (⟨0, Or.inr ⟨rfl, sh_lo c132⟩, rfl, rfl⟩) hP hD hS
          · skip
            refine lv_iload hx hb dL_sells_135 (lv_at hl 0 rfl) ?_
            refine lv_ldc (v := 1000001) hx hb hown (hts (.constant RL 122 1000001) (by decide +kernel)) dL_sells_137 ?_
            refine lw_nat (a := 1000001) rfl ?_
            refine lv_icmp_ge (tgt := 146) hx hb dL_sells_139 (by decide) (fun c139 => ?_) (fun c139 => ?_)
            · skip
              refine lv_iconst (v := nI 0) hx hb dL_sells_146 (by decide) ?_
              exact k147 _ _ _ _ (⟨0, Or.inr ⟨rfl, sh_hi c139⟩, rfl, rfl⟩) hP hD hS
            · skip
              refine lv_iconst (v := nI 1) hx hb dL_sells_142 (by decide) ?_
              refine lv_goto (tgt := 147) hx hb dL_sells_143 (by decide) ?_
              exact k147 _ _ _ _ (⟨1, Or.inl ⟨rfl, sh_in c132 c139⟩, rfl, rfl⟩) hP hD hS
      · skip
        refine lv_iload_n hx hb dL_sells_68 rfl (lv_at hl 5 rfl) ?_
        refine lv_bipush (v := nI 30) hx hb dL_sells_69 (by decide) ?_
        refine sg_calli hD hS hA (va_runS (As := [.int y, .int (nI 30)]) (rest := []) ⟨hx, hb, hml, hown, hts⟩ (c_L_some l D Y _ _ y 30 (by omega) (by omega)) (va_cwS 2 hts gL_sells_L_some rfl rfl rfl (by decide +kernel) ⟨(Nat.le_of_ble_eq_true rfl), (Nat.le_of_ble_eq_true rfl)⟩) (sg_preS hK hP hD hN hX hS hA) rfl rfl hl.1 rfl (lv_room (Nat.le_of_ble_eq_true rfl)) dL_sells_71 ⟨(Nat.le_of_ble_eq_true rfl), (Nat.le_of_ble_eq_true rfl)⟩) (fun r9 σ' H locs hw9 hP hD hS => ?_)
        obtain ⟨w71, hw71, rfl, rfl⟩ := hw9
        refine lw_if_ne (tgt := 90) (a := w71) hx hb dL_sells_74 (by decide) (by omega) (fun c74 => ?_) (fun c74 => ?_)
        · skip
          refine lv_iload_n hx hb dL_sells_90 rfl (lv_at hl 5 rfl) ?_
          refine lv_bipush (v := nI 12) hx hb dL_sells_91 (by decide) ?_
          refine sg_calli hD hS hA (va_runS (As := [.int y, .int (nI 12)]) (rest := []) ⟨hx, hb, hml, hown, hts⟩ (c_L_some l D Y _ _ y 12 (by omega) (by omega)) (va_cwS 2 hts gL_sells_L_some rfl rfl rfl (by decide +kernel) ⟨(Nat.le_of_ble_eq_true rfl), (Nat.le_of_ble_eq_true rfl)⟩) (sg_preS hK hP hD hN hX hS hA) rfl rfl hl.1 rfl (lv_room (Nat.le_of_ble_eq_true rfl)) dL_sells_93 ⟨(Nat.le_of_ble_eq_true rfl), (Nat.le_of_ble_eq_true rfl)⟩) (fun r9 σ' H locs hw9 hP hD hS => ?_)
          obtain ⟨w93, hw93, rfl, rfl⟩ := hw9
          refine lw_if_ne (tgt := 106) (a := w93) hx hb dL_sells_96 (by decide) (by omega) (fun c96 => ?_) (fun c96 => ?_)
          · skip
            refine lv_iconst (v := nI 1) hx hb dL_sells_106 (by decide) ?_
            refine lv_iload_n hx hb dL_sells_107 rfl (lv_at hl 5 rfl) ?_
            refine lv_iconst (v := nI 2) hx hb dL_sells_108 (by decide) ?_
            refine lv_ishr hx hb dL_sells_109 ?_
            refine lv_topi (fun v109 _ => ?_)
            refine lv_iload hx hb dL_sells_110 (lv_at hl 1 rfl) ?_
            refine lv_iconst (v := nI 4) hx hb dL_sells_112 (by decide) ?_
            refine lw_icmp_le (tgt := 123) (a := 0) (b := 4) hx hb dL_sells_113 (by decide) (by omega) (by omega) (fun c113 => ?_) (fun c113 => ?_)
            · skip
              refine lv_iconst (v := nI 3) hx hb dL_sells_123 (by decide) ?_
              refine sg_calli hD hS hA (va_runS (As := [.int v109, .int (nI 3)]) (rest := [.int (nI 1)]) ⟨hx, hb, hml, hown, hts⟩ (c_L_some l D Y _ _ v109 3 (by omega) (by omega)) (va_cwS 2 hts gL_sells_L_some rfl rfl rfl (by decide +kernel) ⟨(Nat.le_of_ble_eq_true rfl), (Nat.le_of_ble_eq_true rfl)⟩) (sg_preS hK hP hD hN hX hS hA) rfl rfl hl.1 rfl (lv_room (Nat.le_of_ble_eq_true rfl)) dL_sells_124 ⟨(Nat.le_of_ble_eq_true rfl), (Nat.le_of_ble_eq_true rfl)⟩) (fun r9 σ' H locs hw9 hP hD hS => ?_)
              obtain ⟨w124, hw124, rfl, rfl⟩ := hw9
              refine lw_iadd (a := 1) (b := w124) hx hb dL_sells_127 ?_
              exact k128 _ _ _ _ (⟨trivial, rfl⟩) hP hD hS
            · exfalso; omega
          · skip
            refine lv_iload hx hb dL_sells_99 (lv_at hl 1 rfl) ?_
            refine lv_iconst (v := nI 1) hx hb dL_sells_101 (by decide) ?_
            refine lw_iadd (a := 0) (b := 1) hx hb dL_sells_102 ?_
            refine lv_goto (tgt := 128) hx hb dL_sells_103 (by decide) ?_
            exact k128 _ _ _ _ (⟨trivial, rfl⟩) hP hD hS
        · skip
          refine lv_ldc (v := 1000001) hx hb hown (hts (.constant RL 122 1000001) (by decide +kernel)) dL_sells_77 ?_
          refine lw_nat (a := 1000001) rfl ?_
          refine lv_iload_n hx hb dL_sells_79 rfl (lv_at hl 5 rfl) ?_
          refine lv_iconst (v := nI 3) hx hb dL_sells_80 (by decide) ?_
          refine lv_ishr hx hb dL_sells_81 ?_
          refine lv_topi (fun v81 _ => ?_)
          refine lv_iconst (v := nI 2) hx hb dL_sells_82 (by decide) ?_
          refine sg_calli hD hS hA (va_runS (As := [.int v81, .int (nI 2)]) (rest := [.int (nI 1000001)]) ⟨hx, hb, hml, hown, hts⟩ (c_L_some l D Y _ _ v81 2 (by omega) (by omega)) (va_cwS 2 hts gL_sells_L_some rfl rfl rfl (by decide +kernel) ⟨(Nat.le_of_ble_eq_true rfl), (Nat.le_of_ble_eq_true rfl)⟩) (sg_preS hK hP hD hN hX hS hA) rfl rfl hl.1 rfl (lv_room (Nat.le_of_ble_eq_true rfl)) dL_sells_83 ⟨(Nat.le_of_ble_eq_true rfl), (Nat.le_of_ble_eq_true rfl)⟩) (fun r9 σ' H locs hw9 hP hD hS => ?_)
          obtain ⟨w83, hw83, rfl, rfl⟩ := hw9
          refine lw_imul (a := 1000001) (b := w83) hx hb dL_sells_86 ?_
          refine lv_goto (tgt := 128) hx hb dL_sells_87 (by decide) ?_
          exact k128 _ _ _ _ (⟨trivial, rfl⟩) hP hD hS
    · skip
      refine lv_iload hx hb dL_sells_41 (lv_at hl 2 rfl) ?_
      refine lw_if_eq (tgt := 68) (a := 0) hx hb dL_sells_43 (by decide) (by omega) (fun c43 => ?_) (fun c43 => ?_)
      · skip
        refine sg_cutwi (D := D) hS (j := 128) (ls := ls) (rest := []) (0 + 0) (0 + 0) (fun x9 σ' => True ∧ σ = σ') (fun x9 σ' H locs hj9 hP hD hS => ?_) (fun k128 => ?_)
        · obtain ⟨-, rfl⟩ := hj9
          obtain ⟨sh, rfl⟩ : ∃ sh9 : Int32, sh9 = x9 := ⟨_, rfl⟩
          refine lv_istore (lv' := [(12, .int sh), (11, .int (nI 0)), (10, .int (nI 0)), (9, .int (nI w8)), (0, .ref x), (1, .int y), (2, .ref (ad 0)), (3, .ref (ad 1)), (4, .ref (ad 2)), (5, .ref (ad 4)), (6, .ref (ad 5)), (7, .ref (ad 6)), (8, .ref (ad 7))]) hx hb dL_sells_128 hl (by decide) rfl (fun ls hl => ?_)
          refine sg_cutwi (D := D) hS (j := 147) (ls := ls) (rest := []) (0 + 0) (0 + 0) (fun x9 σ' => ∃ v9 : Nat, ((v9 = 1 ∧ qIn sh 1 1000000) ∨ (v9 = 0 ∧ ¬ qIn sh 1 1000000)) ∧ x9 = nI v9 ∧ σ = σ') (fun x9 σ' H locs hj9 hP hD hS => ?_) (fun k147 => ?_)
          · obtain ⟨fi, hfi, rfl, rfl⟩ := hj9
            refine lv_istore (lv' := [(13, .int (nI fi)), (12, .int sh), (11, .int (nI 0)), (10, .int (nI 0)), (9, .int (nI w8)), (0, .ref x), (1, .int y), (2, .ref (ad 0)), (3, .ref (ad 1)), (4, .ref (ad 2)), (5, .ref (ad 4)), (6, .ref (ad 5)), (7, .ref (ad 6)), (8, .ref (ad 7))]) hx hb dL_sells_147 hl (by decide) rfl (fun ls hl => ?_)
            refine lv_iload hx hb dL_sells_149 (lv_at hl 3 rfl) ?_
            refine lw_if_ne (tgt := 159) (a := 0) hx hb dL_sells_151 (by decide) (by omega) (fun c151 => ?_) (fun c151 => ?_)
            · exfalso; omega
            · skip
              refine lv_bipush (v := (-101)) hx hb dL_sells_154 (by decide) ?_
              refine lv_goto (tgt := 182) hx hb dL_sells_156 (by decide) ?_
              refine lv_istore (lv' := [(14, .int (-101)), (13, .int (nI fi)), (12, .int sh), (11, .int (nI 0)), (10, .int (nI 0)), (9, .int (nI w8)), (0, .ref x), (1, .int y), (2, .ref (ad 0)), (3, .ref (ad 1)), (4, .ref (ad 2)), (5, .ref (ad 4)), (6, .ref (ad 5)), (7, .ref (ad 6)), (8, .ref (ad 7))]) hx hb dL_sells_182 hl (by decide) rfl (fun ls hl => ?_)
              refine lv_iload hx hb dL_sells_184 (lv_at hl 0 rfl) ?_
              refine lv_if_ne (tgt := 194) hx hb dL_sells_186 (by decide) (fun c186 => ?_) (fun c186 => ?_)
              · skip
                refine lv_iconst (v := nI 0) hx hb dL_sells_194 (by decide) ?_
                refine lv_istore (lv' := [(15, .int (nI 0)), (14, .int (-101)), (13, .int (nI fi)), (12, .int sh), (11, .int (nI 0)), (10, .int (nI 0)), (9, .int (nI w8)), (0, .ref x), (1, .int y), (2, .ref (ad 0)), (3, .ref (ad 1)), (4, .ref (ad 2)), (5, .ref (ad 4)), (6, .ref (ad 5)), (7, .ref (ad 6)), (8, .ref (ad 7))]) hx hb dL_sells_195 hl (by decide) rfl (fun ls hl => ?_)
                refine lv_bipush (v := nI 10) hx hb dL_sells_197 (by decide) ?_
                refine lv_iload hx hb dL_sells_199 (lv_at hl 6 rfl) ?_
                refine lw_imul (a := 10) (b := w8) hx hb dL_sells_201 ?_
                refine lv_istore (lv' := [(16, .int (nI (10 * w8))), (15, .int (nI 0)), (14, .int (-101)), (13, .int (nI fi)), (12, .int sh), (11, .int (nI 0)), (10, .int (nI 0)), (9, .int (nI w8)), (0, .ref x), (1, .int y), (2, .ref (ad 0)), (3, .ref (ad 1)), (4, .ref (ad 2)), (5, .ref (ad 4)), (6, .ref (ad 5)), (7, .ref (ad 6)), (8, .ref (ad 7))]) hx hb dL_sells_202 hl (by decide) rfl (fun ls hl => ?_)
                refine lv_iload hx hb dL_sells_204 (lv_at hl 1 rfl) ?_
                refine lw_if_le (tgt := 353) (a := 0) hx hb dL_sells_206 (by decide) (by omega) (fun c206 => ?_) (fun c206 => ?_)
                · skip
                  obtain ⟨Z9, hZ9⟩ : ∃ Z9, Z9 = xSell M (nI w8) sh := ⟨_, rfl⟩
                  obtain ⟨S9, hS9⟩ : ∃ S9, S9 = sH M (tN (nI w8)) 10 := ⟨_, rfl⟩
                  refine lv_aload_n hx hb dL_sells_353 rfl (lv_at hl 8 rfl) ?_
                  refine lv_iconst (v := nI 2) hx hb dL_sells_354 (by decide) ?_
                  refine lv_iload hx hb dL_sells_355 (lv_at hl 7 rfl) ?_
                  refine lv_iload hx hb dL_sells_357 (lv_at hl 4 rfl) ?_
                  refine sg_xcalli hD hS hA (vx_runSX (As := [.ref x, .int (nI 2), .int (nI w8), .int sh]) (rest := []) ⟨hx, hb, hml, hown, hts⟩ (c_L_act2 l hfl D Y _ _ x M N t c (nI w8) sh (hXX.far hG.2.2) hc Z9 hZ9 S9 hS9) (vx_cwSW 4 hts gL_sells_L_act rfl rfl rfl (by decide +kernel) ⟨(Nat.le_of_ble_eq_true rfl), (Nat.le_of_ble_eq_true rfl)⟩) (lh_preS hK hP hD hN hC hX hS hA) rfl rfl hl.1 rfl (lv_room (Nat.le_of_ble_eq_true rfl)) dL_sells_359 ⟨(Nat.le_of_ble_eq_true rfl), (Nat.le_of_ble_eq_true rfl)⟩) (fun E ce q9 H locs hpx hP hD hS hce hcv hcl => False.elim hpx) (fun r9 σ' H locs hw9 hP hD hS => ?_)
                  obtain ⟨-, rfl, rfl⟩ := hw9.resolve_right (fun z => z.elim (fun z => hnv z.1.1) (fun z => z.elim (fun z => hnv z.1.1) (fun z => hnv z.1.1)))
                  refine lv_iload hx hb dL_sells_362 (lv_at hl 2 rfl) ?_
                  refine lv_icmp_ne (tgt := 371) hx hb dL_sells_364 (by decide) (fun c364 => ?_) (fun c364 => ?_)
                  · exact absurd rfl c364
                  · skip
                    refine lv_iconst (v := nI 1) hx hb dL_sells_367 (by decide) ?_
                    refine lv_goto (tgt := 372) hx hb dL_sells_368 (by decide) ?_
                    exact sg_iret hx hb hr rfl hlocks hP hD hS (Nat.le_of_ble_eq_true rfl) (Nat.le_of_ble_eq_true rfl) dL_sells_372 (⟨rfl, LI.mk ((hXX.far hG.2.2).mon (Nat.le_succ c)) hG hL⟩)
                · exfalso; omega
              · exact absurd c186 (by decide)
          · skip
            refine lv_iload hx hb dL_sells_130 (lv_at hl 0 rfl) ?_
            refine lv_if_le (tgt := 146) hx hb dL_sells_132 (by decide) (fun c132 => ?_) (fun c132 => ?_)
            · skip
              refine lv_iconst (v := nI 0) hx hb dL_sells_146 (by decide) ?_
              exact k147 _ _ _ _ (⟨0, Or.inr ⟨rfl, sh_lo c132⟩, rfl, rfl⟩) hP hD hS
            · skip
              refine lv_iload hx hb dL_sells_135 (lv_at hl 0 rfl) ?_
              refine lv_ldc (v := 1000001) hx hb hown (hts (.constant RL 122 1000001) (by decide +kernel)) dL_sells_137 ?_
              refine lw_nat (a := 1000001) rfl ?_
              refine lv_icmp_ge (tgt := 146) hx hb dL_sells_139 (by decide) (fun c139 => ?_) (fun c139 => ?_)
              · skip
                refine lv_iconst (v := nI 0) hx hb dL_sells_146 (by decide) ?_
                exact k147 _ _ _ _ (⟨0, Or.inr ⟨rfl, sh_hi c139⟩, rfl, rfl⟩) hP hD hS
              · skip
                refine lv_iconst (v := nI 1) hx hb dL_sells_142 (by decide) ?_
                refine lv_goto (tgt := 147) hx hb dL_sells_143 (by decide) ?_
                exact k147 _ _ _ _ (⟨1, Or.inl ⟨rfl, sh_in c132 c139⟩, rfl, rfl⟩) hP hD hS
        · skip
          refine lv_iload_n hx hb dL_sells_68 rfl (lv_at hl 5 rfl) ?_
          refine lv_bipush (v := nI 30) hx hb dL_sells_69 (by decide) ?_
          refine sg_calli hD hS hA (va_runS (As := [.int y, .int (nI 30)]) (rest := []) ⟨hx, hb, hml, hown, hts⟩ (c_L_some l D Y _ _ y 30 (by omega) (by omega)) (va_cwS 2 hts gL_sells_L_some rfl rfl rfl (by decide +kernel) ⟨(Nat.le_of_ble_eq_true rfl), (Nat.le_of_ble_eq_true rfl)⟩) (sg_preS hK hP hD hN hX hS hA) rfl rfl hl.1 rfl (lv_room (Nat.le_of_ble_eq_true rfl)) dL_sells_71 ⟨(Nat.le_of_ble_eq_true rfl), (Nat.le_of_ble_eq_true rfl)⟩) (fun r9 σ' H locs hw9 hP hD hS => ?_)
          obtain ⟨w71, hw71, rfl, rfl⟩ := hw9
          refine lw_if_ne (tgt := 90) (a := w71) hx hb dL_sells_74 (by decide) (by omega) (fun c74 => ?_) (fun c74 => ?_)
          · skip
            refine lv_iload_n hx hb dL_sells_90 rfl (lv_at hl 5 rfl) ?_
            refine lv_bipush (v := nI 12) hx hb dL_sells_91 (by decide) ?_
            refine sg_calli hD hS hA (va_runS (As := [.int y, .int (nI 12)]) (rest := []) ⟨hx, hb, hml, hown, hts⟩ (c_L_some l D Y _ _ y 12 (by omega) (by omega)) (va_cwS 2 hts gL_sells_L_some rfl rfl rfl (by decide +kernel) ⟨(Nat.le_of_ble_eq_true rfl), (Nat.le_of_ble_eq_true rfl)⟩) (sg_preS hK hP hD hN hX hS hA) rfl rfl hl.1 rfl (lv_room (Nat.le_of_ble_eq_true rfl)) dL_sells_93 ⟨(Nat.le_of_ble_eq_true rfl), (Nat.le_of_ble_eq_true rfl)⟩) (fun r9 σ' H locs hw9 hP hD hS => ?_)
            obtain ⟨w93, hw93, rfl, rfl⟩ := hw9
            refine lw_if_ne (tgt := 106) (a := w93) hx hb dL_sells_96 (by decide) (by omega) (fun c96 => ?_) (fun c96 => ?_)
            · skip
              refine lv_iconst (v := nI 1) hx hb dL_sells_106 (by decide) ?_
              refine lv_iload_n hx hb dL_sells_107 rfl (lv_at hl 5 rfl) ?_
              refine lv_iconst (v := nI 2) hx hb dL_sells_108 (by decide) ?_
              refine lv_ishr hx hb dL_sells_109 ?_
              refine lv_topi (fun v109 _ => ?_)
              refine lv_iload hx hb dL_sells_110 (lv_at hl 1 rfl) ?_
              refine lv_iconst (v := nI 4) hx hb dL_sells_112 (by decide) ?_
              refine lw_icmp_le (tgt := 123) (a := 0) (b := 4) hx hb dL_sells_113 (by decide) (by omega) (by omega) (fun c113 => ?_) (fun c113 => ?_)
              · skip
                refine lv_iconst (v := nI 3) hx hb dL_sells_123 (by decide) ?_
                refine sg_calli hD hS hA (va_runS (As := [.int v109, .int (nI 3)]) (rest := [.int (nI 1)]) ⟨hx, hb, hml, hown, hts⟩ (c_L_some l D Y _ _ v109 3 (by omega) (by omega)) (va_cwS 2 hts gL_sells_L_some rfl rfl rfl (by decide +kernel) ⟨(Nat.le_of_ble_eq_true rfl), (Nat.le_of_ble_eq_true rfl)⟩) (sg_preS hK hP hD hN hX hS hA) rfl rfl hl.1 rfl (lv_room (Nat.le_of_ble_eq_true rfl)) dL_sells_124 ⟨(Nat.le_of_ble_eq_true rfl), (Nat.le_of_ble_eq_true rfl)⟩) (fun r9 σ' H locs hw9 hP hD hS => ?_)
                obtain ⟨w124, hw124, rfl, rfl⟩ := hw9
                refine lw_iadd (a := 1) (b := w124) hx hb dL_sells_127 ?_
                exact k128 _ _ _ _ (⟨trivial, rfl⟩) hP hD hS
              · exfalso; omega
            · skip
              refine lv_iload hx hb dL_sells_99 (lv_at hl 1 rfl) ?_
              refine lv_iconst (v := nI 1) hx hb dL_sells_101 (by decide) ?_
              refine lw_iadd (a := 0) (b := 1) hx hb dL_sells_102 ?_
              refine lv_goto (tgt := 128) hx hb dL_sells_103 (by decide) ?_
              exact k128 _ _ _ _ (⟨trivial, rfl⟩) hP hD hS
          · skip
            refine lv_ldc (v := 1000001) hx hb hown (hts (.constant RL 122 1000001) (by decide +kernel)) dL_sells_77 ?_
            refine lw_nat (a := 1000001) rfl ?_
            refine lv_iload_n hx hb dL_sells_79 rfl (lv_at hl 5 rfl) ?_
            refine lv_iconst (v := nI 3) hx hb dL_sells_80 (by decide) ?_
            refine lv_ishr hx hb dL_sells_81 ?_
            refine lv_topi (fun v81 _ => ?_)
            refine lv_iconst (v := nI 2) hx hb dL_sells_82 (by decide) ?_
            refine sg_calli hD hS hA (va_runS (As := [.int v81, .int (nI 2)]) (rest := [.int (nI 1000001)]) ⟨hx, hb, hml, hown, hts⟩ (c_L_some l D Y _ _ v81 2 (by omega) (by omega)) (va_cwS 2 hts gL_sells_L_some rfl rfl rfl (by decide +kernel) ⟨(Nat.le_of_ble_eq_true rfl), (Nat.le_of_ble_eq_true rfl)⟩) (sg_preS hK hP hD hN hX hS hA) rfl rfl hl.1 rfl (lv_room (Nat.le_of_ble_eq_true rfl)) dL_sells_83 ⟨(Nat.le_of_ble_eq_true rfl), (Nat.le_of_ble_eq_true rfl)⟩) (fun r9 σ' H locs hw9 hP hD hS => ?_)
            obtain ⟨w83, hw83, rfl, rfl⟩ := hw9
            refine lw_imul (a := 1000001) (b := w83) hx hb dL_sells_86 ?_
            refine lv_goto (tgt := 128) hx hb dL_sells_87 (by decide) ?_
            exact k128 _ _ _ _ (⟨trivial, rfl⟩) hP hD hS
      · exfalso; omega
  · have hvi : vp_in (nI w8) N := vp_in_nI (by omega) (by omega)
    have ek : tN (nI w8) = w8 := nI_clamp (by omega)
    obtain ⟨al, hal⟩ : ∃ al : Int32, al = sH M w8 10 := ⟨_, rfl⟩
    have hX0 := hXX
    obtain ⟨aM, aO, aL, aC, P, hQ0, hR, -, -, -⟩ := hX0
    refine lv_iconst (v := nI 1) hx hb dL_sells_21 (by decide) ?_
    refine lv_goto (tgt := 26) hx hb dL_sells_22 (by decide) ?_
    refine lv_istore (lv' := [(10, .int (nI 1)), (9, .int (nI w8)), (0, .ref x), (1, .int y), (2, .ref (ad 0)), (3, .ref (ad 1)), (4, .ref (ad 2)), (5, .ref (ad 4)), (6, .ref (ad 5)), (7, .ref (ad 6)), (8, .ref (ad 7))]) hx hb dL_sells_26 hl (by decide) rfl (fun ls hl => ?_)
    refine lv_iconst (v := nI 0) hx hb dL_sells_28 (by decide) ?_
    refine lv_istore (lv' := [(11, .int (nI 0)), (10, .int (nI 1)), (9, .int (nI w8)), (0, .ref x), (1, .int y), (2, .ref (ad 0)), (3, .ref (ad 1)), (4, .ref (ad 2)), (5, .ref (ad 4)), (6, .ref (ad 5)), (7, .ref (ad 6)), (8, .ref (ad 7))]) hx hb dL_sells_29 hl (by decide) rfl (fun ls hl => ?_)
    refine lv_iconst (v := nI 0) hx hb dL_sells_31 (by decide) ?_
    refine lv_istore (lv' := [(12, .int (nI 0)), (11, .int (nI 0)), (10, .int (nI 1)), (9, .int (nI w8)), (0, .ref x), (1, .int y), (2, .ref (ad 0)), (3, .ref (ad 1)), (4, .ref (ad 2)), (5, .ref (ad 4)), (6, .ref (ad 5)), (7, .ref (ad 6)), (8, .ref (ad 7))]) hx hb dL_sells_32 hl (by decide) rfl (fun ls hl => ?_)
    refine sg_loop (D := D) (H0 := s.heap) (T := Nat) 34 19 (fun n1 jj σ' c' s' => n1 + jj = 10 ∧ σ = σ' ∧ c' = 0 ∧ s' = 0) (fun jj => [(12, .int (nI jj)), (11, .int (sH M w8 jj)), (10, .int (nI 1)), (9, .int (nI w8)), (0, .ref x), (1, .int y), (2, .ref (ad 0)), (3, .ref (ad 1)), (4, .ref (ad 2)), (5, .ref (ad 4)), (6, .ref (ad 5)), (7, .ref (ad 6)), (8, .ref (ad 7))]) ?_ (10) (0) _ _ _ _ _ _ (⟨rfl, rfl, rfl, rfl⟩) hP hD hS (lv_sub hl [0, 1, 2, 3, 4, 5, 6, 7, 8, 9, 10, 11, 12] rfl)
    intro n1 jj σ' cells slots H locs ls ih hI hP hD hS hl
    obtain ⟨hn, rfl, rfl, rfl⟩ := hI
    have hl : lv_has ls 19 [(12, .int (nI jj)), (11, .int (sH M w8 jj)), (10, .int (nI 1)), (9, .int (nI w8)), (0, .ref x), (1, .int y), (2, .ref (ad 0)), (3, .ref (ad 1)), (4, .ref (ad 2)), (5, .ref (ad 4)), (6, .ref (ad 5)), (7, .ref (ad 6)), (8, .ref (ad 7))] := hl
    refine lv_iload hx hb dL_sells_34 (lv_at hl 0 rfl) ?_
    refine lv_bipush (v := nI 10) hx hb dL_sells_36 (by decide) ?_
    refine lw_icmp_ge (tgt := 68) (a := jj) (b := 10) hx hb dL_sells_38 (by decide) (by omega) (by omega) (fun c38 => ?_) (fun c38 => ?_)
    · obtain rfl : jj = 10 := by omega
      rw [← hal] at hl
      refine sg_cutwi (D := D) hS (j := 128) (ls := ls) (rest := []) (0 + 0) (0 + 0) (fun x9 σ' => True ∧ σ = σ') (fun x9 σ' H locs hj9 hP hD hS => ?_) (fun k128 => ?_)
      · obtain ⟨-, rfl⟩ := hj9
        obtain ⟨sh, rfl⟩ : ∃ sh9 : Int32, sh9 = x9 := ⟨_, rfl⟩
        refine lv_istore (lv' := [(12, .int sh), (11, .int al), (10, .int (nI 1)), (9, .int (nI w8)), (0, .ref x), (1, .int y), (2, .ref (ad 0)), (3, .ref (ad 1)), (4, .ref (ad 2)), (5, .ref (ad 4)), (6, .ref (ad 5)), (7, .ref (ad 6)), (8, .ref (ad 7))]) hx hb dL_sells_128 hl (by decide) rfl (fun ls hl => ?_)
        refine sg_cutwi (D := D) hS (j := 147) (ls := ls) (rest := []) (0 + 0) (0 + 0) (fun x9 σ' => ∃ v9 : Nat, ((v9 = 1 ∧ qIn sh 1 1000000) ∨ (v9 = 0 ∧ ¬ qIn sh 1 1000000)) ∧ x9 = nI v9 ∧ σ = σ') (fun x9 σ' H locs hj9 hP hD hS => ?_) (fun k147 => ?_)
        · obtain ⟨fi, hfi, rfl, rfl⟩ := hj9
          refine lv_istore (lv' := [(13, .int (nI fi)), (12, .int sh), (11, .int al), (10, .int (nI 1)), (9, .int (nI w8)), (0, .ref x), (1, .int y), (2, .ref (ad 0)), (3, .ref (ad 1)), (4, .ref (ad 2)), (5, .ref (ad 4)), (6, .ref (ad 5)), (7, .ref (ad 6)), (8, .ref (ad 7))]) hx hb dL_sells_147 hl (by decide) rfl (fun ls hl => ?_)
          refine lv_iload hx hb dL_sells_149 (lv_at hl 3 rfl) ?_
          refine lw_if_ne (tgt := 159) (a := 1) hx hb dL_sells_151 (by decide) (by omega) (fun c151 => ?_) (fun c151 => ?_)
          · skip
            refine lv_iload hx hb dL_sells_159 (lv_at hl 0 rfl) ?_
            refine lw_if_ne (tgt := 169) (a := fi) hx hb dL_sells_161 (by decide) (by omega) (fun c161 => ?_) (fun c161 => ?_)
            · have hq9 : qIn sh 1 1000000 := hfi.elim (fun z => z.2) (fun z => absurd z.1 c161)
              refine lv_iload hx hb dL_sells_169 (lv_at hl 1 rfl) ?_
              refine lv_iload hx hb dL_sells_171 (lv_at hl 2 rfl) ?_
              refine lv_icmp_le (tgt := 181) hx hb dL_sells_173 (by decide) (fun c173 => ?_) (fun c173 => ?_)
              · have hle : sh ≤ al := c173
                refine lv_iconst (v := nI 0) hx hb dL_sells_181 (by decide) ?_
                refine lv_istore (lv' := [(14, .int (nI 0)), (13, .int (nI fi)), (12, .int sh), (11, .int al), (10, .int (nI 1)), (9, .int (nI w8)), (0, .ref x), (1, .int y), (2, .ref (ad 0)), (3, .ref (ad 1)), (4, .ref (ad 2)), (5, .ref (ad 4)), (6, .ref (ad 5)), (7, .ref (ad 6)), (8, .ref (ad 7))]) hx hb dL_sells_182 hl (by decide) rfl (fun ls hl => ?_)
                refine lv_iload hx hb dL_sells_184 (lv_at hl 0 rfl) ?_
                refine lw_if_ne (tgt := 194) (a := 0) hx hb dL_sells_186 (by decide) (by omega) (fun c186 => ?_) (fun c186 => ?_)
                · exfalso; omega
                · skip
                  obtain ⟨w, hw1, hw2, esh⟩ := qIn_nat (a := 1) (b := 1000000) (by decide) hq9 (by decide)
                  subst esh
                  refine lv_iload hx hb dL_sells_189 (lv_at hl 2 rfl) ?_
                  refine lv_goto (tgt := 195) hx hb dL_sells_191 (by decide) ?_
                  refine lv_istore (lv' := [(15, .int (nI w)), (14, .int (nI 0)), (13, .int (nI fi)), (12, .int (nI w)), (11, .int al), (10, .int (nI 1)), (9, .int (nI w8)), (0, .ref x), (1, .int y), (2, .ref (ad 0)), (3, .ref (ad 1)), (4, .ref (ad 2)), (5, .ref (ad 4)), (6, .ref (ad 5)), (7, .ref (ad 6)), (8, .ref (ad 7))]) hx hb dL_sells_195 hl (by decide) rfl (fun ls hl => ?_)
                  refine lv_bipush (v := nI 10) hx hb dL_sells_197 (by decide) ?_
                  refine lv_iload hx hb dL_sells_199 (lv_at hl 6 rfl) ?_
                  refine lw_imul (a := 10) (b := w8) hx hb dL_sells_201 ?_
                  refine lv_istore (lv' := [(16, .int (nI (10 * w8))), (15, .int (nI w)), (14, .int (nI 0)), (13, .int (nI fi)), (12, .int (nI w)), (11, .int al), (10, .int (nI 1)), (9, .int (nI w8)), (0, .ref x), (1, .int y), (2, .ref (ad 0)), (3, .ref (ad 1)), (4, .ref (ad 2)), (5, .ref (ad 4)), (6, .ref (ad 5)), (7, .ref (ad 6)), (8, .ref (ad 7))]) hx hb dL_sells_202 hl (by decide) rfl (fun ls hl => ?_)
                  obtain ⟨Z, hZ⟩ : ∃ Z : Nat → mSell, isZ M w8 w Z := ⟨_, isZ_mk M w8 w⟩
                  have henough : w ≤ hadS M w8 10 := sell_enough hIV (by omega) hw2 (by rw [← hal]; exact hle)
                  have hl : lv_has ls 19 [(16, .int (nI (10 * w8 + 0))), (15, .int (nI (w - hadS M w8 0))), (14, .int ((Z 0).2.2)), (13, .int (nI fi)), (12, .int (nI w)), (11, .int al), (10, .int (nI 1)), (9, .int (nI w8)), (0, .ref x), (1, .int y), (2, .ref (ad 0)), (3, .ref (ad 1)), (4, .ref (ad 2)), (5, .ref (ad 4)), (6, .ref (ad 5)), (7, .ref (ad 6)), (8, .ref (ad 7))] := by have hl9 := (lv_sub hl [0, 1, 2, 3, 4, 5, 6, 7, 8, 9, 10, 11, 12, 13, 14, 15, 16] rfl); rw [show nI 0 = (Z 0).2.2 from (congrArg (fun z9 : mSell => z9.2.2) hZ.1).symm] at hl9; exact hl9
                  refine sg_loop (D := D) (H0 := s.heap) (T := Nat × ZG) 204 19 (fun n1 t9 σ' c' s' => n1 + t9.1 = 10 ∧ t9.1 ≤ 10 ∧ ZF Y ad σ t9.2 σ' ∧ LR t9.2 (Z t9.1).1 N t ∧ (Z t9.1).2.1 = nI (w - hadS M w8 t9.1) ∧ c' = 0 ∧ s' = 0) (fun t9 => [(16, .int (nI (10 * w8 + t9.1))), (15, .int (nI (w - hadS M w8 t9.1))), (14, .int ((Z t9.1).2.2)), (13, .int (nI fi)), (12, .int (nI w)), (11, .int al), (10, .int (nI 1)), (9, .int (nI w8)), (0, .ref x), (1, .int y), (2, .ref (ad 0)), (3, .ref (ad 1)), (4, .ref (ad 2)), (5, .ref (ad 4)), (6, .ref (ad 5)), (7, .ref (ad 6)), (8, .ref (ad 7))]) ?_ (10) ((0, G)) _ _ _ _ _ _ (⟨rfl, Nat.zero_le 10, hG, (by dsimp only; rw [hZ.1]; exact hL), (by dsimp only; rw [hZ.1]; rfl), rfl, rfl⟩) hP hD hS (lv_sub hl [0, 1, 2, 3, 4, 5, 6, 7, 8, 9, 10, 11, 12, 13, 14, 15, 16] rfl)
                  intro n1 t9 σ' cells slots H locs ls ih hI hP hD hS hl
                  obtain ⟨k, Gk⟩ := t9
                  obtain ⟨hn0, hk10, hG, hLk, hop, rfl, rfl⟩ := hI
                  dsimp only at hn0 hk10 hG hLk hop
                  obtain ⟨⟨-, z0, -, -⟩, -, -, -, -, -⟩ := id hLk
                  have hl : lv_has ls 19 [(16, .int (nI (10 * w8 + k))), (15, .int (nI (w - hadS M w8 k))), (14, .int ((Z k).2.2)), (13, .int (nI fi)), (12, .int (nI w)), (11, .int al), (10, .int (nI 1)), (9, .int (nI w8)), (0, .ref x), (1, .int y), (2, .ref (ad 0)), (3, .ref (ad 1)), (4, .ref (ad 2)), (5, .ref (ad 4)), (6, .ref (ad 5)), (7, .ref (ad 6)), (8, .ref (ad 7))] := hl
                  refine lv_iload hx hb dL_sells_204 (lv_at hl 1 rfl) ?_
                  refine lw_if_le (tgt := 353) (a := w - hadS M w8 k) hx hb dL_sells_206 (by decide) (by omega) (fun c206 => ?_) (fun c206 => ?_)
                  · skip
                    have hZ10 : Z 10 = Z k := isZ_stop hZ (by rw [hop, c206]; decide) hk10
                    have hZ9 : Z k = xSell M (nI w8) (nI w) := by rw [← hZ10, isZ_N hZ 10, xSell, ek]
                    have hS9 : al = sH M (tN (nI w8)) 10 := by rw [ek]; exact hal
                    refine lv_aload_n hx hb dL_sells_353 rfl (lv_at hl 8 rfl) ?_
                    refine lv_iconst (v := nI 2) hx hb dL_sells_354 (by decide) ?_
                    refine lv_iload hx hb dL_sells_355 (lv_at hl 7 rfl) ?_
                    refine lv_iload hx hb dL_sells_357 (lv_at hl 4 rfl) ?_
                    refine sg_xcalli hD hS hA (vx_runSX (As := [.ref x, .int (nI 2), .int (nI w8), .int (nI w)]) (rest := []) ⟨hx, hb, hml, hown, hts⟩ (c_L_act2 l hfl D Y _ _ x M N t c (nI w8) (nI w) (hXX.far hG.2.2) hc (Z k) hZ9 al hS9) (vx_cwSW 4 hts gL_sells_L_act rfl rfl rfl (by decide +kernel) ⟨(Nat.le_of_ble_eq_true rfl), (Nat.le_of_ble_eq_true rfl)⟩) (lh_preS hK hP hD hN hC hX hS hA) rfl rfl hl.1 rfl (lv_room (Nat.le_of_ble_eq_true rfl)) dL_sells_359 ⟨(Nat.le_of_ble_eq_true rfl), (Nat.le_of_ble_eq_true rfl)⟩) (fun E ce q9 H locs hpx hP hD hS hce hcv hcl => False.elim hpx) (fun r9 σ' H locs hw9 hP hD hS => ?_)
                    obtain ⟨-, e9, hX9⟩ := ((hw9.resolve_left (fun z => z.1 hvi)).resolve_left (fun z => z.1.2 hq9)).resolve_left (fun z => z.1.2.2 hle)
                    have hG := hG.by hX9.ho
                    refine lv_iload hx hb dL_sells_362 (lv_at hl 2 rfl) ?_
                    refine lv_icmp_ne (tgt := 371) hx hb dL_sells_364 (by decide) (fun c364 => ?_) (fun c364 => ?_)
                    · exact absurd e9 c364
                    · skip
                      refine lv_iconst (v := nI 1) hx hb dL_sells_367 (by decide) ?_
                      refine lv_goto (tgt := 372) hx hb dL_sells_368 (by decide) ?_
                      exact sg_iret hx hb hr rfl hlocks hP hD hS (Nat.le_of_ble_eq_true rfl) (Nat.le_of_ble_eq_true rfl) dL_sells_372 (⟨rfl, LI.mk hX9.self hG hLk⟩)
                  · have hk9 : k < 10 := by
                      rcases Nat.lt_or_ge k 10 with z | z
                      · exact z
                      · exfalso; obtain rfl : k = 10 := by omega
                        omega
                    obtain ⟨b, hb1, eb, etb⟩ := had_nat hIV (q := 10 * w8 + k) (by omega)
                    have gh : gI Gk 4 (10 * w8 + k) = nI b := ((hLk.2.2.2.1 (10 * w8 + k) (by omega)).2.1.trans (isZ_16 hZ k (Nat.le_refl _))).trans eb
                    have htp : 0 < t := hNt (by omega)
                    refine sg_cutwi (D := D) hS (j := 229) (ls := ls) (rest := []) (0 + 0) (0 + 0) (fun x9 σ8 => ∃ v9 : Nat, (v9 ≤ b ∧ v9 ≤ w - hadS M w8 k ∧ (v9 = b ∨ v9 = w - hadS M w8 k)) ∧ x9 = nI v9 ∧ σ' = σ8) (fun x9 σ' H locs hj9 hP hD hS => ?_) (fun k229 => ?_)
                    · obtain ⟨sd, ⟨hsd1, hsd2, hsd3⟩, rfl, rfl⟩ := hj9
                      refine lv_istore (lv' := [(17, .int (nI sd)), (16, .int (nI (10 * w8 + k))), (15, .int (nI (w - hadS M w8 k))), (14, .int ((Z k).2.2)), (13, .int (nI fi)), (12, .int (nI w)), (11, .int al), (10, .int (nI 1)), (9, .int (nI w8)), (0, .ref x), (1, .int y), (2, .ref (ad 0)), (3, .ref (ad 1)), (4, .ref (ad 2)), (5, .ref (ad 4)), (6, .ref (ad 5)), (7, .ref (ad 6)), (8, .ref (ad 7))]) hx hb dL_sells_229 hl (by decide) rfl (fun ls hl => ?_)
                      refine lv_iload hx hb dL_sells_231 (lv_at hl 0 rfl) ?_
                      refine lw_if_le (tgt := 250) (a := sd) hx hb dL_sells_233 (by decide) (by omega) (fun c233 => ?_) (fun c233 => ?_)
                      · skip
                        refine lv_iconst (v := nI 0) hx hb dL_sells_250 (by decide) ?_
                        refine lv_istore (lv' := [(18, .int (nI 0)), (17, .int (nI sd)), (16, .int (nI (10 * w8 + k))), (15, .int (nI (w - hadS M w8 k))), (14, .int ((Z k).2.2)), (13, .int (nI fi)), (12, .int (nI w)), (11, .int al), (10, .int (nI 1)), (9, .int (nI w8)), (0, .ref x), (1, .int y), (2, .ref (ad 0)), (3, .ref (ad 1)), (4, .ref (ad 2)), (5, .ref (ad 4)), (6, .ref (ad 5)), (7, .ref (ad 6)), (8, .ref (ad 7))]) hx hb dL_sells_251 hl (by decide) rfl (fun ls hl => ?_)
                        refine lv_aload hx hb dL_sells_253 (lv_at hl 18 rfl) ?_
                        refine lv_bipush (v := nI 8) hx hb dL_sells_255 (by decide) ?_
                        refine lv_iload hx hb dL_sells_257 (lv_at hl 9 rfl) ?_
                        refine lw_iadd (a := 8) (b := w8) hx hb dL_sells_259 ?_
                        refine lv_dup2_11 hx hb dL_sells_260 rfl rfl ?_
                        refine lw_lald hx hb hK hP hG.a7 (k := 8 + w8) (by omega) (v := gX Gk (8 + w8)) (rfl) dL_sells_261 ?_
                        refine lv_iload hx hb dL_sells_262 (lv_at hl 1 rfl) ?_
                        refine lv_i2l hx hb dL_sells_264 rfl ?_
                        refine lv_iload hx hb dL_sells_265 (lv_at hl 0 rfl) ?_
                        refine lv_i2l hx hb dL_sells_267 rfl ?_
                        refine lv_lmul hx hb dL_sells_268 ?_
                        refine lv_ladd hx hb dL_sells_269 ?_
                        refine lw_last hx hb hK hP hD hS hG.a7 (k := 8 + w8) (by omega) dL_sells_270 (fun H locs hP hD hS => ?_)
                        have hG := hG.u7 (k := 8 + w8) (w := (gX Gk (8 + w8)) + (((nI sd).toInt64) * ((nI 0).toInt64)))
                        refine lv_aload hx hb dL_sells_271 (lv_at hl 18 rfl) ?_
                        refine lv_bipush (v := nI 12) hx hb dL_sells_273 (by decide) ?_
                        refine lv_iload hx hb dL_sells_275 (lv_at hl 9 rfl) ?_
                        refine lw_iadd (a := 12) (b := w8) hx hb dL_sells_277 ?_
                        refine lv_dup2_11 hx hb dL_sells_278 rfl rfl ?_
                        refine lw_lald hx hb hK hP hG.a7 (k := 12 + w8) (by omega) (v := gX Gk (12 + w8)) (by rw [gX_vX, if_neg (by omega)]) dL_sells_279 ?_
                        refine lv_iload hx hb dL_sells_280 (lv_at hl 1 rfl) ?_
                        refine lv_i2l hx hb dL_sells_282 rfl ?_
                        refine lv_aload_n hx hb dL_sells_283 rfl (lv_at hl 13 rfl) ?_
                        refine lv_aload_n hx hb dL_sells_284 rfl (lv_at hl 12 rfl) ?_
                        refine lv_iconst (v := nI 0) hx hb dL_sells_285 (by decide) ?_
                        refine lw_iald hx hb hK hP hG.a0 (k := 0) (by omega) (v := nI t) (by rw [gI_vX]; exact z0) dL_sells_286 ?_
                        refine lv_iconst (v := nI 1) hx hb dL_sells_287 (by decide) ?_
                        refine lw_isub (a := t) (b := 1) hx hb dL_sells_288 (by omega) ?_
                        refine lw_iald hx hb hK hP hG.a1 (k := t - 1) (by omega) (v := gI Gk 1 (t - 1)) (by rw [gI_vX]) dL_sells_289 ?_
                        refine lv_aload hx hb dL_sells_290 (lv_at hl 16 rfl) ?_
                        refine lv_iload hx hb dL_sells_292 (lv_at hl 2 rfl) ?_
                        refine lw_iald hx hb hK hP hG.a5 (k := 10 * w8 + k) (by omega) (v := gI Gk 5 (10 * w8 + k)) (by rw [gI_vX]) dL_sells_294 ?_
                        refine lv_isub hx hb dL_sells_295 ?_
                        refine lv_iload hx hb dL_sells_296 (lv_at hl 0 rfl) ?_
                        refine lv_isub hx hb dL_sells_298 ?_
                        refine lv_i2l hx hb dL_sells_299 rfl ?_
                        refine lv_lmul hx hb dL_sells_300 ?_
                        refine lv_ladd hx hb dL_sells_301 ?_
                        refine lw_last hx hb hK hP hD hS hG.a7 (k := 12 + w8) (by omega) dL_sells_302 (fun H locs hP hD hS => ?_)
                        have hG := hG.u7 (k := 12 + w8) (w := (gX Gk (12 + w8)) + (((nI sd).toInt64) * ((((gI Gk 1 (t - 1)) - (gI Gk 5 (10 * w8 + k))) - (nI 0)).toInt64)))
                        refine lv_iload hx hb dL_sells_303 (lv_at hl 4 rfl) ?_
                        refine lv_iload hx hb dL_sells_305 (lv_at hl 1 rfl) ?_
                        refine lw_if_le (tgt := 326) (a := sd) hx hb dL_sells_307 (by decide) (by omega) (fun c307 => ?_) (fun c307 => ?_)
                        · skip
                          refine lv_iconst (v := nI 0) hx hb dL_sells_326 (by decide) ?_
                          refine lv_iadd hx hb dL_sells_327 ?_
                          refine lv_istore (lv' := [(14, .int (((Z k).2.2) + (nI 0))), (18, .int (nI 0)), (17, .int (nI sd)), (16, .int (nI (10 * w8 + k))), (15, .int (nI (w - hadS M w8 k))), (13, .int (nI fi)), (12, .int (nI w)), (11, .int al), (10, .int (nI 1)), (9, .int (nI w8)), (0, .ref x), (1, .int y), (2, .ref (ad 0)), (3, .ref (ad 1)), (4, .ref (ad 2)), (5, .ref (ad 4)), (6, .ref (ad 5)), (7, .ref (ad 6)), (8, .ref (ad 7))]) hx hb dL_sells_328 hl (by decide) rfl (fun ls hl => ?_)
                          refine lv_aload hx hb dL_sells_330 (lv_at hl 15 rfl) ?_
                          refine lv_iload hx hb dL_sells_332 (lv_at hl 3 rfl) ?_
                          refine lv_dup2_11 hx hb dL_sells_334 rfl rfl ?_
                          refine lw_iald hx hb hK hP hG.a4 (k := 10 * w8 + k) (by omega) (v := nI b) (by rw [gI_vX, gI_vX]; exact gh) dL_sells_335 ?_
                          refine lv_iload hx hb dL_sells_336 (lv_at hl 2 rfl) ?_
                          refine lw_isub (a := b) (b := sd) hx hb dL_sells_338 (by omega) ?_
                          refine lw_iast hx hb hK hP hD hS hG.a4 (k := 10 * w8 + k) (by omega) dL_sells_339 (fun H locs hP hD hS => ?_)
                          have hG := hG.u4 (k := 10 * w8 + k) (v := nI (b - sd))
                          refine lv_iload hx hb dL_sells_340 (lv_at hl 4 rfl) ?_
                          refine lv_iload hx hb dL_sells_342 (lv_at hl 2 rfl) ?_
                          refine lw_isub (a := w - hadS M w8 k) (b := sd) hx hb dL_sells_344 (by omega) ?_
                          refine lv_istore (lv' := [(15, .int (nI ((w - hadS M w8 k) - sd))), (14, .int (((Z k).2.2) + (nI 0))), (18, .int (nI 0)), (17, .int (nI sd)), (16, .int (nI (10 * w8 + k))), (13, .int (nI fi)), (12, .int (nI w)), (11, .int al), (10, .int (nI 1)), (9, .int (nI w8)), (0, .ref x), (1, .int y), (2, .ref (ad 0)), (3, .ref (ad 1)), (4, .ref (ad 2)), (5, .ref (ad 4)), (6, .ref (ad 5)), (7, .ref (ad 6)), (8, .ref (ad 7))]) hx hb dL_sells_345 hl (by decide) rfl (fun ls hl => ?_)
                          refine lv_iinc (v := nI (10 * w8 + k + 1)) (lv' := [(16, .int (nI (10 * w8 + k + 1))), (15, .int (nI ((w - hadS M w8 k) - sd))), (14, .int (((Z k).2.2) + (nI 0))), (18, .int (nI 0)), (17, .int (nI sd)), (13, .int (nI fi)), (12, .int (nI w)), (11, .int al), (10, .int (nI 1)), (9, .int (nI w8)), (0, .ref x), (1, .int y), (2, .ref (ad 0)), (3, .ref (ad 1)), (4, .ref (ad 2)), (5, .ref (ad 4)), (6, .ref (ad 5)), (7, .ref (ad 6)), (8, .ref (ad 7))]) hx hb dL_sells_347 hl (k := 4) rfl (nI_1 _) (by decide) rfl (fun ls hl => ?_)
                          refine lv_goto (tgt := 204) hx hb dL_sells_350 (by decide) ?_
                          obtain ⟨gz, sz9⟩ := LR.sellz (G := Gk) (M := (Z k).1) (j := w8) (k := k) (ea := (Z k).2.2) (pz := nI 0) (rs := gI Gk 1 (t - 1) - gI Gk 5 (10 * w8 + k) - nI 0) (op := w - hadS M w8 k) (sd := sd) (by omega) hb1 (by rw [isZ_16 hZ k (Nat.le_refl _)]; exact eb) c233 hsd3 gh
                          have hz9 : Z (k + 1) = Z k := by rw [hZ.2 k, show Z k = ((Z k).1, nI (w - hadS M w8 k), (Z k).2.2) from Prod.ext rfl (Prod.ext hop rfl)]; exact sz9
                          exact ih (n1 - 1) (k + 1, Gk) _ _ _ _ _ _ (by omega) ⟨by omega, by omega, hG.to gz, (by dsimp only; rw [hz9]; exact hLk), (by dsimp only; rw [hz9, hop, hadS, etb]; exact congrArg nI (by omega)), rfl, rfl⟩ hP hD hS (by have hl9 := (lv_sub hl [0, 1, 2, 5, 6, 7, 8, 9, 10, 11, 12, 13, 14, 15, 16, 17, 18] rfl); rw [show w - hadS M w8 k - sd = w - hadS M w8 (k + 1) by rw [hadS, etb]; omega, show (Z k).2.2 + nI 0 = (Z (k + 1)).2.2 by rw [hz9]; exact Int32.add_zero _] at hl9; exact hl9)
                        · exfalso; omega
                      · have hbo : sI M 15 (10 * w8 + k) ≠ 0 := had_bought hR (by omega) hk9 (by rw [eb]; exact nI_ne0 (by omega) hb1)
                        have g56 := (hLk.2.2.2.1 (10 * w8 + k) (by omega)).2.2 (by rw [isZ_I (a := 15) hZ (by decide)]; exact hbo)
                        obtain ⟨o9, w1, w2, w3, w4, ⟨f1, f2⟩, f3, f4, f5, f13, f6, f7, f8, f9, f10, f11, f12⟩ := lot_facts (G := Gk) hIV (q := 10 * w8 + k) (by omega) hbo (fun x9 hx9 => by rw [hLk.2.1 x9 hx9, isZ_I (a := 1) hZ (by decide)]) (by rw [g56.1, isZ_I (a := 17) hZ (by decide)]) (by rw [g56.2, isZ_I (a := 18) hZ (by decide)])
                        have hpqk := pq_of (A := (Z k).1) (B := M) (q := 10 * w8 + k) (isZ_S hZ) (isZ_I hZ (by decide)) (isZ_I hZ (by decide)) (isZ_I hZ (by decide))
                        refine lv_aload_n hx hb dL_sells_236 rfl (lv_at hl 11 rfl) ?_
                        refine lv_aload_n hx hb dL_sells_237 rfl (lv_at hl 12 rfl) ?_
                        refine lv_aload hx hb dL_sells_238 (lv_at hl 15 rfl) ?_
                        refine lv_aload hx hb dL_sells_240 (lv_at hl 16 rfl) ?_
                        refine lv_iload hx hb dL_sells_242 (lv_at hl 1 rfl) ?_
                        refine sg_calli hD hS hA (va_runS (As := [.ref (ad 0), .ref (ad 1), .ref (ad 5), .ref (ad 6), .int (nI (10 * w8 + k))]) (rest := []) ⟨hx, hb, hml, hown, hts⟩ (c_L_payEach l D Y _ _ ad Gk t o9 (10 * w8 + k) w1 w2 w3 w4 f1 f2 f3 (by omega) z0 f4 f5 f13 f6 f7 f8 hG.self) (va_cwS 5 hts gL_sells_L_payEach rfl rfl rfl (by decide +kernel) ⟨(Nat.le_of_ble_eq_true rfl), (Nat.le_of_ble_eq_true rfl)⟩) (sg_preS hK hP hD hN hX hS hA) rfl rfl hl.1 rfl (lv_room (Nat.le_of_ble_eq_true rfl)) dL_sells_244 ⟨(Nat.le_of_ble_eq_true rfl), (Nat.le_of_ble_eq_true rfl)⟩) (fun r9 σ' H locs hw9 hP hD hS => ?_)
                        obtain ⟨rfl, rfl⟩ := hw9
                        refine lw_int (y := pq M (10 * w8 + k)) f9 ?_
                        refine lv_goto (tgt := 251) hx hb dL_sells_247 (by decide) ?_
                        refine lv_istore (lv' := [(18, .int (pq M (10 * w8 + k))), (17, .int (nI sd)), (16, .int (nI (10 * w8 + k))), (15, .int (nI (w - hadS M w8 k))), (14, .int ((Z k).2.2)), (13, .int (nI fi)), (12, .int (nI w)), (11, .int al), (10, .int (nI 1)), (9, .int (nI w8)), (0, .ref x), (1, .int y), (2, .ref (ad 0)), (3, .ref (ad 1)), (4, .ref (ad 2)), (5, .ref (ad 4)), (6, .ref (ad 5)), (7, .ref (ad 6)), (8, .ref (ad 7))]) hx hb dL_sells_251 hl (by decide) rfl (fun ls hl => ?_)
                        refine lv_aload hx hb dL_sells_253 (lv_at hl 18 rfl) ?_
                        refine lv_bipush (v := nI 8) hx hb dL_sells_255 (by decide) ?_
                        refine lv_iload hx hb dL_sells_257 (lv_at hl 9 rfl) ?_
                        refine lw_iadd (a := 8) (b := w8) hx hb dL_sells_259 ?_
                        refine lv_dup2_11 hx hb dL_sells_260 rfl rfl ?_
                        refine lw_lald hx hb hK hP hG.a7 (k := 8 + w8) (by omega) (v := gX Gk (8 + w8)) (rfl) dL_sells_261 ?_
                        refine lv_iload hx hb dL_sells_262 (lv_at hl 1 rfl) ?_
                        refine lv_i2l hx hb dL_sells_264 rfl ?_
                        refine lv_iload hx hb dL_sells_265 (lv_at hl 0 rfl) ?_
                        refine lv_i2l hx hb dL_sells_267 rfl ?_
                        refine lv_lmul hx hb dL_sells_268 ?_
                        refine lv_ladd hx hb dL_sells_269 ?_
                        refine lw_last hx hb hK hP hD hS hG.a7 (k := 8 + w8) (by omega) dL_sells_270 (fun H locs hP hD hS => ?_)
                        have hG := hG.u7 (k := 8 + w8) (w := (gX Gk (8 + w8)) + (((nI sd).toInt64) * ((pq M (10 * w8 + k)).toInt64)))
                        refine lv_aload hx hb dL_sells_271 (lv_at hl 18 rfl) ?_
                        refine lv_bipush (v := nI 12) hx hb dL_sells_273 (by decide) ?_
                        refine lv_iload hx hb dL_sells_275 (lv_at hl 9 rfl) ?_
                        refine lw_iadd (a := 12) (b := w8) hx hb dL_sells_277 ?_
                        refine lv_dup2_11 hx hb dL_sells_278 rfl rfl ?_
                        refine lw_lald hx hb hK hP hG.a7 (k := 12 + w8) (by omega) (v := gX Gk (12 + w8)) (by rw [gX_vX, if_neg (by omega)]) dL_sells_279 ?_
                        refine lv_iload hx hb dL_sells_280 (lv_at hl 1 rfl) ?_
                        refine lv_i2l hx hb dL_sells_282 rfl ?_
                        refine lv_aload_n hx hb dL_sells_283 rfl (lv_at hl 13 rfl) ?_
                        refine lv_aload_n hx hb dL_sells_284 rfl (lv_at hl 12 rfl) ?_
                        refine lv_iconst (v := nI 0) hx hb dL_sells_285 (by decide) ?_
                        refine lw_iald hx hb hK hP hG.a0 (k := 0) (by omega) (v := nI t) (by rw [gI_vX]; exact z0) dL_sells_286 ?_
                        refine lv_iconst (v := nI 1) hx hb dL_sells_287 (by decide) ?_
                        refine lw_isub (a := t) (b := 1) hx hb dL_sells_288 (by omega) ?_
                        refine lw_iald hx hb hK hP hG.a1 (k := t - 1) (by omega) (v := nI w4) (by rw [gI_vX]; exact f8) dL_sells_289 ?_
                        refine lv_aload hx hb dL_sells_290 (lv_at hl 16 rfl) ?_
                        refine lv_iload hx hb dL_sells_292 (lv_at hl 2 rfl) ?_
                        refine lw_iald hx hb hK hP hG.a5 (k := 10 * w8 + k) (by omega) (v := nI w2) (by rw [gI_vX]; exact f6) dL_sells_294 ?_
                        refine lv_isub hx hb dL_sells_295 ?_
                        refine lv_iload hx hb dL_sells_296 (lv_at hl 0 rfl) ?_
                        refine lv_isub hx hb dL_sells_298 ?_
                        refine lv_i2l hx hb dL_sells_299 rfl ?_
                        refine lv_lmul hx hb dL_sells_300 ?_
                        refine lv_ladd hx hb dL_sells_301 ?_
                        refine lw_last hx hb hK hP hD hS hG.a7 (k := 12 + w8) (by omega) dL_sells_302 (fun H locs hP hD hS => ?_)
                        have hG := hG.u7 (k := 12 + w8) (w := (gX Gk (12 + w8)) + (((nI sd).toInt64) * ((((nI w4) - (nI w2)) - (pq M (10 * w8 + k))).toInt64)))
                        refine lv_iload hx hb dL_sells_303 (lv_at hl 4 rfl) ?_
                        refine lv_iload hx hb dL_sells_305 (lv_at hl 1 rfl) ?_
                        refine lw_if_le (tgt := 326) (a := sd) hx hb dL_sells_307 (by decide) (by omega) (fun c307 => ?_) (fun c307 => ?_)
                        · exfalso; omega
                        · skip
                          refine lv_aload_n hx hb dL_sells_310 rfl (lv_at hl 12 rfl) ?_
                          refine lv_aload hx hb dL_sells_311 (lv_at hl 17 rfl) ?_
                          refine lv_iload hx hb dL_sells_313 (lv_at hl 2 rfl) ?_
                          refine sg_calli hD hS hA (va_runS (As := [.ref (ad 0), .ref (ad 6), .int (nI (10 * w8 + k))]) (rest := [.int ((Z k).2.2)]) ⟨hx, hb, hml, hown, hts⟩ (c_L_isEarly l D Y _ _ ad (vX (vX Gk (8 + w8) ((gX Gk (8 + w8)) + (((nI sd).toInt64) * ((pq M (10 * w8 + k)).toInt64)))) (12 + w8) ((gX Gk (12 + w8)) + (((nI sd).toInt64) * ((((nI w4) - (nI w2)) - (pq M (10 * w8 + k))).toInt64)))) t o9 (10 * w8 + k) f1 f2 f3 (by omega) (by rw [gI_vX, gI_vX]; exact z0) (by rw [gI_vX, gI_vX]; exact f4) hG.self) (va_cwS 3 hts gL_sells_L_isEarly rfl rfl rfl (by decide +kernel) ⟨(Nat.le_of_ble_eq_true rfl), (Nat.le_of_ble_eq_true rfl)⟩) (sg_preS hK hP hD hN hX hS hA) rfl rfl hl.1 rfl (lv_room (Nat.le_of_ble_eq_true rfl)) dL_sells_315 ⟨(Nat.le_of_ble_eq_true rfl), (Nat.le_of_ble_eq_true rfl)⟩) (fun r9 σ' H locs hw9 hP hD hS => ?_)
                          obtain ⟨rfl, rfl⟩ := hw9
                          refine lv_if_eq (tgt := 326) hx hb dL_sells_318 (by decide) (fun c318 => ?_) (fun c318 => ?_)
                          · skip
                            refine lv_iconst (v := nI 0) hx hb dL_sells_326 (by decide) ?_
                            refine lv_iadd hx hb dL_sells_327 ?_
                            refine lv_istore (lv' := [(14, .int (((Z k).2.2) + (nI 0))), (18, .int (pq M (10 * w8 + k))), (17, .int (nI sd)), (16, .int (nI (10 * w8 + k))), (15, .int (nI (w - hadS M w8 k))), (13, .int (nI fi)), (12, .int (nI w)), (11, .int al), (10, .int (nI 1)), (9, .int (nI w8)), (0, .ref x), (1, .int y), (2, .ref (ad 0)), (3, .ref (ad 1)), (4, .ref (ad 2)), (5, .ref (ad 4)), (6, .ref (ad 5)), (7, .ref (ad 6)), (8, .ref (ad 7))]) hx hb dL_sells_328 hl (by decide) rfl (fun ls hl => ?_)
                            refine lv_aload hx hb dL_sells_330 (lv_at hl 15 rfl) ?_
                            refine lv_iload hx hb dL_sells_332 (lv_at hl 3 rfl) ?_
                            refine lv_dup2_11 hx hb dL_sells_334 rfl rfl ?_
                            refine lw_iald hx hb hK hP hG.a4 (k := 10 * w8 + k) (by omega) (v := nI b) (by rw [gI_vX, gI_vX]; exact gh) dL_sells_335 ?_
                            refine lv_iload hx hb dL_sells_336 (lv_at hl 2 rfl) ?_
                            refine lw_isub (a := b) (b := sd) hx hb dL_sells_338 (by omega) ?_
                            refine lw_iast hx hb hK hP hD hS hG.a4 (k := 10 * w8 + k) (by omega) dL_sells_339 (fun H locs hP hD hS => ?_)
                            have hG := hG.u4 (k := 10 * w8 + k) (v := nI (b - sd))
                            refine lv_iload hx hb dL_sells_340 (lv_at hl 4 rfl) ?_
                            refine lv_iload hx hb dL_sells_342 (lv_at hl 2 rfl) ?_
                            refine lw_isub (a := w - hadS M w8 k) (b := sd) hx hb dL_sells_344 (by omega) ?_
                            refine lv_istore (lv' := [(15, .int (nI ((w - hadS M w8 k) - sd))), (14, .int (((Z k).2.2) + (nI 0))), (18, .int (pq M (10 * w8 + k))), (17, .int (nI sd)), (16, .int (nI (10 * w8 + k))), (13, .int (nI fi)), (12, .int (nI w)), (11, .int al), (10, .int (nI 1)), (9, .int (nI w8)), (0, .ref x), (1, .int y), (2, .ref (ad 0)), (3, .ref (ad 1)), (4, .ref (ad 2)), (5, .ref (ad 4)), (6, .ref (ad 5)), (7, .ref (ad 6)), (8, .ref (ad 7))]) hx hb dL_sells_345 hl (by decide) rfl (fun ls hl => ?_)
                            refine lv_iinc (v := nI (10 * w8 + k + 1)) (lv' := [(16, .int (nI (10 * w8 + k + 1))), (15, .int (nI ((w - hadS M w8 k) - sd))), (14, .int (((Z k).2.2) + (nI 0))), (18, .int (pq M (10 * w8 + k))), (17, .int (nI sd)), (13, .int (nI fi)), (12, .int (nI w)), (11, .int al), (10, .int (nI 1)), (9, .int (nI w8)), (0, .ref x), (1, .int y), (2, .ref (ad 0)), (3, .ref (ad 1)), (4, .ref (ad 2)), (5, .ref (ad 4)), (6, .ref (ad 5)), (7, .ref (ad 6)), (8, .ref (ad 7))]) hx hb dL_sells_347 hl (k := 4) rfl (nI_1 _) (by decide) rfl (fun ls hl => ?_)
                            refine lv_goto (tgt := 204) hx hb dL_sells_350 (by decide) ?_
                            obtain ⟨hL9, op9, ea9⟩ := LR.sellp (G := Gk) (j := w8) (k := k) (ea := (Z k).2.2) (pz := pq M (10 * w8 + k)) (P4 := nI w4) (Q2 := nI w2) (op := w - hadS M w8 k) (sd := sd) hLk (by omega) (by omega) hb1 (by rw [isZ_16 hZ k (Nat.le_refl _)]; exact eb) hsd1 hsd2 hsd3 (by omega) hpqk.1.symm (by rw [isZ_I (a := 1) hZ (by decide), isZ_S hZ]; exact f11.symm) (by rw [isZ_I (a := 17) hZ (by decide)]; exact f12.symm)
                            have e8 : Z k = ((Z k).1, nI (w - hadS M w8 k), (Z k).2.2) := Prod.ext rfl (Prod.ext hop rfl)
                            rw [← e8, ← hZ.2 k] at hL9 op9 ea9
                            rw [hpqk.2] at ea9
                            exact ih (n1 - 1) (k + 1, _) _ _ _ _ _ _ (by omega) ⟨by omega, by omega, hG, hL9, (by dsimp only; rw [op9, hadS, etb]; exact congrArg nI (by omega)), rfl, rfl⟩ hP hD hS (by have hl9 := (lv_sub hl [0, 1, 2, 5, 6, 7, 8, 9, 10, 11, 12, 13, 14, 15, 16, 17, 18] rfl); rw [show w - hadS M w8 k - sd = w - hadS M w8 (k + 1) by rw [hadS, etb]; omega, show (Z k).2.2 + nI 0 = (Z (k + 1)).2.2 by rw [ea9, if_pos (f10 ▸ c318)] <;> rfl] at hl9; exact hl9)
                          · skip
                            refine lv_iload hx hb dL_sells_321 (lv_at hl 1 rfl) ?_
                            refine lv_goto (tgt := 327) hx hb dL_sells_323 (by decide) ?_
                            refine lv_iadd hx hb dL_sells_327 ?_
                            refine lv_istore (lv' := [(14, .int (((Z k).2.2) + (nI sd))), (18, .int (pq M (10 * w8 + k))), (17, .int (nI sd)), (16, .int (nI (10 * w8 + k))), (15, .int (nI (w - hadS M w8 k))), (13, .int (nI fi)), (12, .int (nI w)), (11, .int al), (10, .int (nI 1)), (9, .int (nI w8)), (0, .ref x), (1, .int y), (2, .ref (ad 0)), (3, .ref (ad 1)), (4, .ref (ad 2)), (5, .ref (ad 4)), (6, .ref (ad 5)), (7, .ref (ad 6)), (8, .ref (ad 7))]) hx hb dL_sells_328 hl (by decide) rfl (fun ls hl => ?_)
                            refine lv_aload hx hb dL_sells_330 (lv_at hl 15 rfl) ?_
                            refine lv_iload hx hb dL_sells_332 (lv_at hl 3 rfl) ?_
                            refine lv_dup2_11 hx hb dL_sells_334 rfl rfl ?_
                            refine lw_iald hx hb hK hP hG.a4 (k := 10 * w8 + k) (by omega) (v := nI b) (by rw [gI_vX, gI_vX]; exact gh) dL_sells_335 ?_
                            refine lv_iload hx hb dL_sells_336 (lv_at hl 2 rfl) ?_
                            refine lw_isub (a := b) (b := sd) hx hb dL_sells_338 (by omega) ?_
                            refine lw_iast hx hb hK hP hD hS hG.a4 (k := 10 * w8 + k) (by omega) dL_sells_339 (fun H locs hP hD hS => ?_)
                            have hG := hG.u4 (k := 10 * w8 + k) (v := nI (b - sd))
                            refine lv_iload hx hb dL_sells_340 (lv_at hl 4 rfl) ?_
                            refine lv_iload hx hb dL_sells_342 (lv_at hl 2 rfl) ?_
                            refine lw_isub (a := w - hadS M w8 k) (b := sd) hx hb dL_sells_344 (by omega) ?_
                            refine lv_istore (lv' := [(15, .int (nI ((w - hadS M w8 k) - sd))), (14, .int (((Z k).2.2) + (nI sd))), (18, .int (pq M (10 * w8 + k))), (17, .int (nI sd)), (16, .int (nI (10 * w8 + k))), (13, .int (nI fi)), (12, .int (nI w)), (11, .int al), (10, .int (nI 1)), (9, .int (nI w8)), (0, .ref x), (1, .int y), (2, .ref (ad 0)), (3, .ref (ad 1)), (4, .ref (ad 2)), (5, .ref (ad 4)), (6, .ref (ad 5)), (7, .ref (ad 6)), (8, .ref (ad 7))]) hx hb dL_sells_345 hl (by decide) rfl (fun ls hl => ?_)
                            refine lv_iinc (v := nI (10 * w8 + k + 1)) (lv' := [(16, .int (nI (10 * w8 + k + 1))), (15, .int (nI ((w - hadS M w8 k) - sd))), (14, .int (((Z k).2.2) + (nI sd))), (18, .int (pq M (10 * w8 + k))), (17, .int (nI sd)), (13, .int (nI fi)), (12, .int (nI w)), (11, .int al), (10, .int (nI 1)), (9, .int (nI w8)), (0, .ref x), (1, .int y), (2, .ref (ad 0)), (3, .ref (ad 1)), (4, .ref (ad 2)), (5, .ref (ad 4)), (6, .ref (ad 5)), (7, .ref (ad 6)), (8, .ref (ad 7))]) hx hb dL_sells_347 hl (k := 4) rfl (nI_1 _) (by decide) rfl (fun ls hl => ?_)
                            refine lv_goto (tgt := 204) hx hb dL_sells_350 (by decide) ?_
                            obtain ⟨hL9, op9, ea9⟩ := LR.sellp (G := Gk) (j := w8) (k := k) (ea := (Z k).2.2) (pz := pq M (10 * w8 + k)) (P4 := nI w4) (Q2 := nI w2) (op := w - hadS M w8 k) (sd := sd) hLk (by omega) (by omega) hb1 (by rw [isZ_16 hZ k (Nat.le_refl _)]; exact eb) hsd1 hsd2 hsd3 (by omega) hpqk.1.symm (by rw [isZ_I (a := 1) hZ (by decide), isZ_S hZ]; exact f11.symm) (by rw [isZ_I (a := 17) hZ (by decide)]; exact f12.symm)
                            have e8 : Z k = ((Z k).1, nI (w - hadS M w8 k), (Z k).2.2) := Prod.ext rfl (Prod.ext hop rfl)
                            rw [← e8, ← hZ.2 k] at hL9 op9 ea9
                            rw [hpqk.2] at ea9
                            exact ih (n1 - 1) (k + 1, _) _ _ _ _ _ _ (by omega) ⟨by omega, by omega, hG, hL9, (by dsimp only; rw [op9, hadS, etb]; exact congrArg nI (by omega)), rfl, rfl⟩ hP hD hS (by have hl9 := (lv_sub hl [0, 1, 2, 5, 6, 7, 8, 9, 10, 11, 12, 13, 14, 15, 16, 17, 18] rfl); rw [show w - hadS M w8 k - sd = w - hadS M w8 (k + 1) by rw [hadS, etb]; omega, show (Z k).2.2 + nI sd = (Z (k + 1)).2.2 by rw [ea9, if_neg (by rw [← f10]; exact c318)]] at hl9; exact hl9)
                    · skip
                      refine lv_aload hx hb dL_sells_209 (lv_at hl 13 rfl) ?_
                      refine lv_iload hx hb dL_sells_211 (lv_at hl 0 rfl) ?_
                      refine lw_iald hx hb hK hP hG.a4 (k := 10 * w8 + k) (by omega) (v := nI b) (gh) dL_sells_213 ?_
                      refine lv_iload hx hb dL_sells_214 (lv_at hl 1 rfl) ?_
                      refine lw_icmp_ge (tgt := 227) (a := b) (b := w - hadS M w8 k) hx hb dL_sells_216 (by decide) (by omega) (by omega) (fun c216 => ?_) (fun c216 => ?_)
                      · skip
                        refine lv_iload hx hb dL_sells_227 (lv_at hl 1 rfl) ?_
                        exact k229 _ _ _ _ (⟨w - hadS M w8 k, by omega, rfl, rfl⟩) hP hD hS
                      · skip
                        refine lv_aload hx hb dL_sells_219 (lv_at hl 13 rfl) ?_
                        refine lv_iload hx hb dL_sells_221 (lv_at hl 0 rfl) ?_
                        refine lw_iald hx hb hK hP hG.a4 (k := 10 * w8 + k) (by omega) (v := nI b) (gh) dL_sells_223 ?_
                        refine lv_goto (tgt := 229) hx hb dL_sells_224 (by decide) ?_
                        exact k229 _ _ _ _ (⟨b, by omega, rfl, rfl⟩) hP hD hS
              · have hle : ¬ sh ≤ al := c173
                refine lv_bipush (v := (-103)) hx hb dL_sells_176 (by decide) ?_
                refine lv_goto (tgt := 182) hx hb dL_sells_178 (by decide) ?_
                refine lv_istore (lv' := [(14, .int (-103)), (13, .int (nI fi)), (12, .int sh), (11, .int al), (10, .int (nI 1)), (9, .int (nI w8)), (0, .ref x), (1, .int y), (2, .ref (ad 0)), (3, .ref (ad 1)), (4, .ref (ad 2)), (5, .ref (ad 4)), (6, .ref (ad 5)), (7, .ref (ad 6)), (8, .ref (ad 7))]) hx hb dL_sells_182 hl (by decide) rfl (fun ls hl => ?_)
                refine lv_iload hx hb dL_sells_184 (lv_at hl 0 rfl) ?_
                refine lv_if_ne (tgt := 194) hx hb dL_sells_186 (by decide) (fun c186 => ?_) (fun c186 => ?_)
                · skip
                  refine lv_iconst (v := nI 0) hx hb dL_sells_194 (by decide) ?_
                  refine lv_istore (lv' := [(15, .int (nI 0)), (14, .int (-103)), (13, .int (nI fi)), (12, .int sh), (11, .int al), (10, .int (nI 1)), (9, .int (nI w8)), (0, .ref x), (1, .int y), (2, .ref (ad 0)), (3, .ref (ad 1)), (4, .ref (ad 2)), (5, .ref (ad 4)), (6, .ref (ad 5)), (7, .ref (ad 6)), (8, .ref (ad 7))]) hx hb dL_sells_195 hl (by decide) rfl (fun ls hl => ?_)
                  refine lv_bipush (v := nI 10) hx hb dL_sells_197 (by decide) ?_
                  refine lv_iload hx hb dL_sells_199 (lv_at hl 6 rfl) ?_
                  refine lw_imul (a := 10) (b := w8) hx hb dL_sells_201 ?_
                  refine lv_istore (lv' := [(16, .int (nI (10 * w8))), (15, .int (nI 0)), (14, .int (-103)), (13, .int (nI fi)), (12, .int sh), (11, .int al), (10, .int (nI 1)), (9, .int (nI w8)), (0, .ref x), (1, .int y), (2, .ref (ad 0)), (3, .ref (ad 1)), (4, .ref (ad 2)), (5, .ref (ad 4)), (6, .ref (ad 5)), (7, .ref (ad 6)), (8, .ref (ad 7))]) hx hb dL_sells_202 hl (by decide) rfl (fun ls hl => ?_)
                  refine lv_iload hx hb dL_sells_204 (lv_at hl 1 rfl) ?_
                  refine lw_if_le (tgt := 353) (a := 0) hx hb dL_sells_206 (by decide) (by omega) (fun c206 => ?_) (fun c206 => ?_)
                  · skip
                    obtain ⟨Z9, hZ9⟩ : ∃ Z9, Z9 = xSell M (nI w8) sh := ⟨_, rfl⟩
                    have hS9 : al = sH M (tN (nI w8)) 10 := by rw [ek]; exact hal
                    refine lv_aload_n hx hb dL_sells_353 rfl (lv_at hl 8 rfl) ?_
                    refine lv_iconst (v := nI 2) hx hb dL_sells_354 (by decide) ?_
                    refine lv_iload hx hb dL_sells_355 (lv_at hl 7 rfl) ?_
                    refine lv_iload hx hb dL_sells_357 (lv_at hl 4 rfl) ?_
                    refine sg_xcalli hD hS hA (vx_runSX (As := [.ref x, .int (nI 2), .int (nI w8), .int sh]) (rest := []) ⟨hx, hb, hml, hown, hts⟩ (c_L_act2 l hfl D Y _ _ x M N t c (nI w8) sh (hXX.far hG.2.2) hc Z9 hZ9 al hS9) (vx_cwSW 4 hts gL_sells_L_act rfl rfl rfl (by decide +kernel) ⟨(Nat.le_of_ble_eq_true rfl), (Nat.le_of_ble_eq_true rfl)⟩) (lh_preS hK hP hD hN hC hX hS hA) rfl rfl hl.1 rfl (lv_room (Nat.le_of_ble_eq_true rfl)) dL_sells_359 ⟨(Nat.le_of_ble_eq_true rfl), (Nat.le_of_ble_eq_true rfl)⟩) (fun E ce q9 H locs hpx hP hD hS hce hcv hcl => False.elim hpx) (fun r9 σ' H locs hw9 hP hD hS => ?_)
                    obtain ⟨-, rfl, rfl⟩ := ((hw9.resolve_left (fun z => z.1 hvi)).resolve_left (fun z => z.1.2 hq9)).resolve_right (fun z => hle z.1.2.2)
                    refine lv_iload hx hb dL_sells_362 (lv_at hl 2 rfl) ?_
                    refine lv_icmp_ne (tgt := 371) hx hb dL_sells_364 (by decide) (fun c364 => ?_) (fun c364 => ?_)
                    · exact absurd rfl c364
                    · skip
                      refine lv_iconst (v := nI 1) hx hb dL_sells_367 (by decide) ?_
                      refine lv_goto (tgt := 372) hx hb dL_sells_368 (by decide) ?_
                      exact sg_iret hx hb hr rfl hlocks hP hD hS (Nat.le_of_ble_eq_true rfl) (Nat.le_of_ble_eq_true rfl) dL_sells_372 (⟨rfl, LI.mk ((hXX.far hG.2.2).mon (Nat.le_succ c)) hG hL⟩)
                  · exfalso; omega
                · exact absurd c186 (by decide)
            · have hq9 : ¬ qIn sh 1 1000000 := hfi.elim (fun z => absurd (z.1.symm.trans c161) (by decide)) (fun z => z.2)
              refine lv_bipush (v := (-102)) hx hb dL_sells_164 (by decide) ?_
              refine lv_goto (tgt := 182) hx hb dL_sells_166 (by decide) ?_
              refine lv_istore (lv' := [(14, .int (-102)), (13, .int (nI fi)), (12, .int sh), (11, .int al), (10, .int (nI 1)), (9, .int (nI w8)), (0, .ref x), (1, .int y), (2, .ref (ad 0)), (3, .ref (ad 1)), (4, .ref (ad 2)), (5, .ref (ad 4)), (6, .ref (ad 5)), (7, .ref (ad 6)), (8, .ref (ad 7))]) hx hb dL_sells_182 hl (by decide) rfl (fun ls hl => ?_)
              refine lv_iload hx hb dL_sells_184 (lv_at hl 0 rfl) ?_
              refine lv_if_ne (tgt := 194) hx hb dL_sells_186 (by decide) (fun c186 => ?_) (fun c186 => ?_)
              · skip
                refine lv_iconst (v := nI 0) hx hb dL_sells_194 (by decide) ?_
                refine lv_istore (lv' := [(15, .int (nI 0)), (14, .int (-102)), (13, .int (nI fi)), (12, .int sh), (11, .int al), (10, .int (nI 1)), (9, .int (nI w8)), (0, .ref x), (1, .int y), (2, .ref (ad 0)), (3, .ref (ad 1)), (4, .ref (ad 2)), (5, .ref (ad 4)), (6, .ref (ad 5)), (7, .ref (ad 6)), (8, .ref (ad 7))]) hx hb dL_sells_195 hl (by decide) rfl (fun ls hl => ?_)
                refine lv_bipush (v := nI 10) hx hb dL_sells_197 (by decide) ?_
                refine lv_iload hx hb dL_sells_199 (lv_at hl 6 rfl) ?_
                refine lw_imul (a := 10) (b := w8) hx hb dL_sells_201 ?_
                refine lv_istore (lv' := [(16, .int (nI (10 * w8))), (15, .int (nI 0)), (14, .int (-102)), (13, .int (nI fi)), (12, .int sh), (11, .int al), (10, .int (nI 1)), (9, .int (nI w8)), (0, .ref x), (1, .int y), (2, .ref (ad 0)), (3, .ref (ad 1)), (4, .ref (ad 2)), (5, .ref (ad 4)), (6, .ref (ad 5)), (7, .ref (ad 6)), (8, .ref (ad 7))]) hx hb dL_sells_202 hl (by decide) rfl (fun ls hl => ?_)
                refine lv_iload hx hb dL_sells_204 (lv_at hl 1 rfl) ?_
                refine lw_if_le (tgt := 353) (a := 0) hx hb dL_sells_206 (by decide) (by omega) (fun c206 => ?_) (fun c206 => ?_)
                · skip
                  obtain ⟨Z9, hZ9⟩ : ∃ Z9, Z9 = xSell M (nI w8) sh := ⟨_, rfl⟩
                  have hS9 : al = sH M (tN (nI w8)) 10 := by rw [ek]; exact hal
                  refine lv_aload_n hx hb dL_sells_353 rfl (lv_at hl 8 rfl) ?_
                  refine lv_iconst (v := nI 2) hx hb dL_sells_354 (by decide) ?_
                  refine lv_iload hx hb dL_sells_355 (lv_at hl 7 rfl) ?_
                  refine lv_iload hx hb dL_sells_357 (lv_at hl 4 rfl) ?_
                  refine sg_xcalli hD hS hA (vx_runSX (As := [.ref x, .int (nI 2), .int (nI w8), .int sh]) (rest := []) ⟨hx, hb, hml, hown, hts⟩ (c_L_act2 l hfl D Y _ _ x M N t c (nI w8) sh (hXX.far hG.2.2) hc Z9 hZ9 al hS9) (vx_cwSW 4 hts gL_sells_L_act rfl rfl rfl (by decide +kernel) ⟨(Nat.le_of_ble_eq_true rfl), (Nat.le_of_ble_eq_true rfl)⟩) (lh_preS hK hP hD hN hC hX hS hA) rfl rfl hl.1 rfl (lv_room (Nat.le_of_ble_eq_true rfl)) dL_sells_359 ⟨(Nat.le_of_ble_eq_true rfl), (Nat.le_of_ble_eq_true rfl)⟩) (fun E ce q9 H locs hpx hP hD hS hce hcv hcl => False.elim hpx) (fun r9 σ' H locs hw9 hP hD hS => ?_)
                  obtain ⟨-, rfl, rfl⟩ := (hw9.resolve_left (fun z => z.1 hvi)).resolve_right (fun z => z.elim (fun z => hq9 z.1.2.1) (fun z => hq9 z.1.2.1))
                  refine lv_iload hx hb dL_sells_362 (lv_at hl 2 rfl) ?_
                  refine lv_icmp_ne (tgt := 371) hx hb dL_sells_364 (by decide) (fun c364 => ?_) (fun c364 => ?_)
                  · exact absurd rfl c364
                  · skip
                    refine lv_iconst (v := nI 1) hx hb dL_sells_367 (by decide) ?_
                    refine lv_goto (tgt := 372) hx hb dL_sells_368 (by decide) ?_
                    exact sg_iret hx hb hr rfl hlocks hP hD hS (Nat.le_of_ble_eq_true rfl) (Nat.le_of_ble_eq_true rfl) dL_sells_372 (⟨rfl, LI.mk ((hXX.far hG.2.2).mon (Nat.le_succ c)) hG hL⟩)
                · exfalso; omega
              · exact absurd c186 (by decide)
          · exfalso; omega
        · skip
          refine lv_iload hx hb dL_sells_130 (lv_at hl 0 rfl) ?_
          refine lv_if_le (tgt := 146) hx hb dL_sells_132 (by decide) (fun c132 => ?_) (fun c132 => ?_)
          · skip
            refine lv_iconst (v := nI 0) hx hb dL_sells_146 (by decide) ?_
            exact k147 _ _ _ _ (⟨0, Or.inr ⟨rfl, sh_lo c132⟩, rfl, rfl⟩) hP hD hS
          · skip
            refine lv_iload hx hb dL_sells_135 (lv_at hl 0 rfl) ?_
            refine lv_ldc (v := 1000001) hx hb hown (hts (.constant RL 122 1000001) (by decide +kernel)) dL_sells_137 ?_
            refine lw_nat (a := 1000001) rfl ?_
            refine lv_icmp_ge (tgt := 146) hx hb dL_sells_139 (by decide) (fun c139 => ?_) (fun c139 => ?_)
            · skip
              refine lv_iconst (v := nI 0) hx hb dL_sells_146 (by decide) ?_
              exact k147 _ _ _ _ (⟨0, Or.inr ⟨rfl, sh_hi c139⟩, rfl, rfl⟩) hP hD hS
            · skip
              refine lv_iconst (v := nI 1) hx hb dL_sells_142 (by decide) ?_
              refine lv_goto (tgt := 147) hx hb dL_sells_143 (by decide) ?_
              exact k147 _ _ _ _ (⟨1, Or.inl ⟨rfl, sh_in c132 c139⟩, rfl, rfl⟩) hP hD hS
      · skip
        refine lv_iload_n hx hb dL_sells_68 rfl (lv_at hl 5 rfl) ?_
        refine lv_bipush (v := nI 30) hx hb dL_sells_69 (by decide) ?_
        refine sg_calli hD hS hA (va_runS (As := [.int y, .int (nI 30)]) (rest := []) ⟨hx, hb, hml, hown, hts⟩ (c_L_some l D Y _ _ y 30 (by omega) (by omega)) (va_cwS 2 hts gL_sells_L_some rfl rfl rfl (by decide +kernel) ⟨(Nat.le_of_ble_eq_true rfl), (Nat.le_of_ble_eq_true rfl)⟩) (sg_preS hK hP hD hN hX hS hA) rfl rfl hl.1 rfl (lv_room (Nat.le_of_ble_eq_true rfl)) dL_sells_71 ⟨(Nat.le_of_ble_eq_true rfl), (Nat.le_of_ble_eq_true rfl)⟩) (fun r9 σ' H locs hw9 hP hD hS => ?_)
        obtain ⟨w71, hw71, rfl, rfl⟩ := hw9
        refine lw_if_ne (tgt := 90) (a := w71) hx hb dL_sells_74 (by decide) (by omega) (fun c74 => ?_) (fun c74 => ?_)
        · skip
          refine lv_iload_n hx hb dL_sells_90 rfl (lv_at hl 5 rfl) ?_
          refine lv_bipush (v := nI 12) hx hb dL_sells_91 (by decide) ?_
          refine sg_calli hD hS hA (va_runS (As := [.int y, .int (nI 12)]) (rest := []) ⟨hx, hb, hml, hown, hts⟩ (c_L_some l D Y _ _ y 12 (by omega) (by omega)) (va_cwS 2 hts gL_sells_L_some rfl rfl rfl (by decide +kernel) ⟨(Nat.le_of_ble_eq_true rfl), (Nat.le_of_ble_eq_true rfl)⟩) (sg_preS hK hP hD hN hX hS hA) rfl rfl hl.1 rfl (lv_room (Nat.le_of_ble_eq_true rfl)) dL_sells_93 ⟨(Nat.le_of_ble_eq_true rfl), (Nat.le_of_ble_eq_true rfl)⟩) (fun r9 σ' H locs hw9 hP hD hS => ?_)
          obtain ⟨w93, hw93, rfl, rfl⟩ := hw9
          refine lw_if_ne (tgt := 106) (a := w93) hx hb dL_sells_96 (by decide) (by omega) (fun c96 => ?_) (fun c96 => ?_)
          · skip
            refine lv_iconst (v := nI 1) hx hb dL_sells_106 (by decide) ?_
            refine lv_iload_n hx hb dL_sells_107 rfl (lv_at hl 5 rfl) ?_
            refine lv_iconst (v := nI 2) hx hb dL_sells_108 (by decide) ?_
            refine lv_ishr hx hb dL_sells_109 ?_
            refine lv_topi (fun v109 _ => ?_)
            refine lv_iload hx hb dL_sells_110 (lv_at hl 1 rfl) ?_
            refine lv_iconst (v := nI 4) hx hb dL_sells_112 (by decide) ?_
            refine lv_icmp_le (tgt := 123) hx hb dL_sells_113 (by decide) (fun c113 => ?_) (fun c113 => ?_)
            · skip
              refine lv_iconst (v := nI 3) hx hb dL_sells_123 (by decide) ?_
              refine sg_calli hD hS hA (va_runS (As := [.int v109, .int (nI 3)]) (rest := [.int (nI 1)]) ⟨hx, hb, hml, hown, hts⟩ (c_L_some l D Y _ _ v109 3 (by omega) (by omega)) (va_cwS 2 hts gL_sells_L_some rfl rfl rfl (by decide +kernel) ⟨(Nat.le_of_ble_eq_true rfl), (Nat.le_of_ble_eq_true rfl)⟩) (sg_preS hK hP hD hN hX hS hA) rfl rfl hl.1 rfl (lv_room (Nat.le_of_ble_eq_true rfl)) dL_sells_124 ⟨(Nat.le_of_ble_eq_true rfl), (Nat.le_of_ble_eq_true rfl)⟩) (fun r9 σ' H locs hw9 hP hD hS => ?_)
              obtain ⟨w124, hw124, rfl, rfl⟩ := hw9
              refine lw_iadd (a := 1) (b := w124) hx hb dL_sells_127 ?_
              exact k128 _ _ _ _ (⟨trivial, rfl⟩) hP hD hS
            · obtain ⟨A9, hA1, hA2, hA3⟩ := al_pos c113
              refine lv_iload hx hb dL_sells_116 (lv_at hl 1 rfl) ?_
              refine lv_iconst (v := nI 2) hx hb dL_sells_118 (by decide) ?_
              refine lv_idiv hx hb dL_sells_119 (by decide) ?_
              refine lw_nat (a := A9 / 2) (by rw [hA3]; exact pk_div hA1 (by decide) (by decide)) ?_
              refine lv_goto (tgt := 124) hx hb dL_sells_120 (by decide) ?_
              refine sg_calli hD hS hA (va_runS (As := [.int v109, .int (nI (A9 / 2))]) (rest := [.int (nI 1)]) ⟨hx, hb, hml, hown, hts⟩ (c_L_some l D Y _ _ v109 (A9 / 2) (by omega) (by omega)) (va_cwS 2 hts gL_sells_L_some rfl rfl rfl (by decide +kernel) ⟨(Nat.le_of_ble_eq_true rfl), (Nat.le_of_ble_eq_true rfl)⟩) (sg_preS hK hP hD hN hX hS hA) rfl rfl hl.1 rfl (lv_room (Nat.le_of_ble_eq_true rfl)) dL_sells_124 ⟨(Nat.le_of_ble_eq_true rfl), (Nat.le_of_ble_eq_true rfl)⟩) (fun r9 σ' H locs hw9 hP hD hS => ?_)
              obtain ⟨w124, hw124, rfl, rfl⟩ := hw9
              refine lw_iadd (a := 1) (b := w124) hx hb dL_sells_127 ?_
              exact k128 _ _ _ _ (⟨trivial, rfl⟩) hP hD hS
          · skip
            refine lv_iload hx hb dL_sells_99 (lv_at hl 1 rfl) ?_
            refine lv_iconst (v := nI 1) hx hb dL_sells_101 (by decide) ?_
            refine lv_iadd hx hb dL_sells_102 ?_
            refine lv_goto (tgt := 128) hx hb dL_sells_103 (by decide) ?_
            exact k128 _ _ _ _ (⟨trivial, rfl⟩) hP hD hS
        · skip
          refine lv_ldc (v := 1000001) hx hb hown (hts (.constant RL 122 1000001) (by decide +kernel)) dL_sells_77 ?_
          refine lw_nat (a := 1000001) rfl ?_
          refine lv_iload_n hx hb dL_sells_79 rfl (lv_at hl 5 rfl) ?_
          refine lv_iconst (v := nI 3) hx hb dL_sells_80 (by decide) ?_
          refine lv_ishr hx hb dL_sells_81 ?_
          refine lv_topi (fun v81 _ => ?_)
          refine lv_iconst (v := nI 2) hx hb dL_sells_82 (by decide) ?_
          refine sg_calli hD hS hA (va_runS (As := [.int v81, .int (nI 2)]) (rest := [.int (nI 1000001)]) ⟨hx, hb, hml, hown, hts⟩ (c_L_some l D Y _ _ v81 2 (by omega) (by omega)) (va_cwS 2 hts gL_sells_L_some rfl rfl rfl (by decide +kernel) ⟨(Nat.le_of_ble_eq_true rfl), (Nat.le_of_ble_eq_true rfl)⟩) (sg_preS hK hP hD hN hX hS hA) rfl rfl hl.1 rfl (lv_room (Nat.le_of_ble_eq_true rfl)) dL_sells_83 ⟨(Nat.le_of_ble_eq_true rfl), (Nat.le_of_ble_eq_true rfl)⟩) (fun r9 σ' H locs hw9 hP hD hS => ?_)
          obtain ⟨w83, hw83, rfl, rfl⟩ := hw9
          refine lw_imul (a := 1000001) (b := w83) hx hb dL_sells_86 ?_
          refine lv_goto (tgt := 128) hx hb dL_sells_87 (by decide) ?_
          exact k128 _ _ _ _ (⟨trivial, rfl⟩) hP hD hS
    · have eh : gI G 4 (10 * w8 + jj) = sI M 16 (10 * w8 + jj) := (eQ9 (10 * w8 + jj) (by omega)).2.1
      refine lv_iload hx hb dL_sells_41 (lv_at hl 2 rfl) ?_
      refine lw_if_eq (tgt := 68) (a := 1) hx hb dL_sells_43 (by decide) (by omega) (fun c43 => ?_) (fun c43 => ?_)
      · exfalso; omega
      · skip
        refine lv_iload hx hb dL_sells_46 (lv_at hl 1 rfl) ?_
        refine lv_aload hx hb dL_sells_48 (lv_at hl 9 rfl) ?_
        refine lv_bipush (v := nI 10) hx hb dL_sells_50 (by decide) ?_
        refine lv_iload hx hb dL_sells_52 (lv_at hl 3 rfl) ?_
        refine lw_imul (a := 10) (b := w8) hx hb dL_sells_54 ?_
        refine lv_iload hx hb dL_sells_55 (lv_at hl 0 rfl) ?_
        refine lw_iadd (a := 10 * w8) (b := jj) hx hb dL_sells_57 ?_
        refine lw_iald hx hb hK hP hG.a4 (k := (10 * w8) + jj) (by omega) (v := gI G 4 ((10 * w8) + jj)) (rfl) dL_sells_58 ?_
        refine lv_iadd hx hb dL_sells_59 ?_
        refine lw_int (y := sH M w8 (jj + 1)) (by rw [sH, eh]) ?_
        refine lv_istore (lv' := [(11, .int (sH M w8 (jj + 1))), (12, .int (nI jj)), (10, .int (nI 1)), (9, .int (nI w8)), (0, .ref x), (1, .int y), (2, .ref (ad 0)), (3, .ref (ad 1)), (4, .ref (ad 2)), (5, .ref (ad 4)), (6, .ref (ad 5)), (7, .ref (ad 6)), (8, .ref (ad 7))]) hx hb dL_sells_60 hl (by decide) rfl (fun ls hl => ?_)
        refine lv_iinc (v := nI (jj + 1)) (lv' := [(12, .int (nI (jj + 1))), (11, .int (sH M w8 (jj + 1))), (10, .int (nI 1)), (9, .int (nI w8)), (0, .ref x), (1, .int y), (2, .ref (ad 0)), (3, .ref (ad 1)), (4, .ref (ad 2)), (5, .ref (ad 4)), (6, .ref (ad 5)), (7, .ref (ad 6)), (8, .ref (ad 7))]) hx hb dL_sells_62 hl (k := 1) rfl (nI_1 _) (by decide) rfl (fun ls hl => ?_)
        refine lv_goto (tgt := 34) hx hb dL_sells_65 (by decide) ?_
        exact ih (n1 - 1) (jj + 1) _ _ _ _ _ _ (by omega) ⟨by omega, rfl, rfl, rfl⟩ hP hD hS (lv_sub hl [0, 1, 2, 3, 4, 5, 6, 7, 8, 9, 10, 11, 12] rfl)
