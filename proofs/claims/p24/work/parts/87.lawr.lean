set_option maxHeartbeats 8000000 in
set_option maxRecDepth 100000 in
theorem c_L_tells (l : Launch) (hfl : l.stackTraces = false) (D : va_G) (Y : Nat → ClassId) (σ : sg_W) (sz : Nat) (ad : Nat → Nat) (x : Nat) (G : ZG) (M : MS) (N t c : Nat) (y : Int32) (hXX : CX Y x σ M N t c σ) (hG : ZF Y ad σ G σ) (hL : LR G M N t) (hc : c < 512) : Met l yL_tells wsL_tells ({ frames := 9, cells := 100, slots := 600, locals := 160 } : Room) (va_Pc [.ref x, .int y, .ref (ad 0), .ref (ad 1), .ref (ad 2), .ref (ad 3), .ref (ad 4), .ref (ad 5), .ref (ad 6), .ref (ad 7)] (lh_U D Y σ sz)) (va_Qi (fun r σ' => r = nI 1 ∧ σ = σ') (sg_B D σ sz) (sg_A σ sz)) 100 600 (sg_A σ sz) := by
  refine lh_metP (cc := cL_tells) (maxL := 20) (ret := (some .boolean)) (by decide) rfl (Nat.le_of_ble_eq_true rfl) ?_
  intro p e s m below meth cd9 ls hx hb hml hr hown hts hlocks hnm hP hK hD hN hC hX hA hS hsz hl
  have hl : lv_has ls 20 [(0, .ref x), (1, .int y), (2, .ref (ad 0)), (3, .ref (ad 1)), (4, .ref (ad 2)), (5, .ref (ad 3)), (6, .ref (ad 4)), (7, .ref (ad 5)), (8, .ref (ad 6)), (9, .ref (ad 7))] := hl
  have hIV := hXX.iv
  have hN4 := hL.1.1
  have ht6 := hIV.1.2.1
  have hNt := hIV.1.2.2.1
  obtain ⟨⟨-, e0, e1, e2⟩, eP, -, eQ9, -, hfr⟩ := id hL
  refine lv_ldc2 (v := (-987654321987654321)) hx hb hown (hts (.constantLong RL 91 (-987654321987654321)) (by decide +kernel)) dL_tells_0 ?_
  refine lv_lstore (lv' := [(10, .long (-987654321987654321)), (0, .ref x), (1, .int y), (2, .ref (ad 0)), (3, .ref (ad 1)), (4, .ref (ad 2)), (5, .ref (ad 3)), (6, .ref (ad 4)), (7, .ref (ad 5)), (8, .ref (ad 6)), (9, .ref (ad 7))]) hx hb dL_tells_3 hl (by decide) rfl (fun ls hl => ?_)
  refine sg_cutwi (D := D) hS (j := 49) (ls := ls) (rest := []) (0) (0) (fun x9 σ' => ∃ v9 : Nat, v9 ≤ 60 ∧ x9 = nI v9 ∧ σ = σ') (fun x9 σ' H locs hj9 hP hD hS => ?_) (fun k49 => ?_)
  · obtain ⟨mo, hmo60, rfl, rfl⟩ := hj9
    refine lv_istore (lv' := [(12, .int (nI mo)), (10, .long (-987654321987654321)), (0, .ref x), (1, .int y), (2, .ref (ad 0)), (3, .ref (ad 1)), (4, .ref (ad 2)), (5, .ref (ad 3)), (6, .ref (ad 4)), (7, .ref (ad 5)), (8, .ref (ad 6)), (9, .ref (ad 7))]) hx hb dL_tells_49 hl (by decide) rfl (fun ls hl => ?_)
    refine lv_iload_n hx hb dL_tells_51 rfl (lv_at hl 3 rfl) ?_
    refine lv_iconst (v := nI 5) hx hb dL_tells_52 (by decide) ?_
    refine lv_ishr hx hb dL_tells_53 ?_
    refine lv_topi (fun v53 _ => ?_)
    refine lv_bipush (v := nI 6) hx hb dL_tells_54 (by decide) ?_
    refine sg_calli hD hS hA (va_runS (As := [.int v53, .int (nI 6)]) (rest := []) ⟨hx, hb, hml, hown, hts⟩ (c_L_some l D Y _ _ v53 6 (by omega) (by omega)) (va_cwS 2 hts gL_tells_L_some rfl rfl rfl (by decide +kernel) ⟨(Nat.le_of_ble_eq_true rfl), (Nat.le_of_ble_eq_true rfl)⟩) (sg_preS hK hP hD hN hX hS hA) rfl rfl hl.1 rfl (lv_room (Nat.le_of_ble_eq_true rfl)) dL_tells_56 ⟨by show 0 + 0 ≤ 100; omega, by show 0 + 0 ≤ 600; omega⟩) (fun r9 σ' H locs hw9 hP hD hS => ?_)
    obtain ⟨w56, hw56, rfl, rfl⟩ := hw9
    refine lv_istore (lv' := [(13, .int (nI w56)), (12, .int (nI mo)), (10, .long (-987654321987654321)), (0, .ref x), (1, .int y), (2, .ref (ad 0)), (3, .ref (ad 1)), (4, .ref (ad 2)), (5, .ref (ad 3)), (6, .ref (ad 4)), (7, .ref (ad 5)), (8, .ref (ad 6)), (9, .ref (ad 7))]) hx hb dL_tells_59 hl (by decide) rfl (fun ls hl => ?_)
    refine lv_iconst (v := nI 0) hx hb dL_tells_61 (by decide) ?_
    refine lv_istore (lv' := [(14, .int (nI 0)), (13, .int (nI w56)), (12, .int (nI mo)), (10, .long (-987654321987654321)), (0, .ref x), (1, .int y), (2, .ref (ad 0)), (3, .ref (ad 1)), (4, .ref (ad 2)), (5, .ref (ad 3)), (6, .ref (ad 4)), (7, .ref (ad 5)), (8, .ref (ad 6)), (9, .ref (ad 7))]) hx hb dL_tells_62 hl (by decide) rfl (fun ls hl => ?_)
    refine sg_loop (D := D) (H0 := s.heap) (T := Nat) 64 20 (fun n1 kk σ' c' s' => n1 + kk = N + 1 ∧ σ = σ' ∧ c' = 19 * kk ∧ s' = 114 * kk) (fun kk => [(14, .int (nI kk)), (13, .int (nI w56)), (12, .int (nI mo)), (10, .long (-987654321987654321)), (0, .ref x), (1, .int y), (2, .ref (ad 0)), (3, .ref (ad 1)), (4, .ref (ad 2)), (5, .ref (ad 3)), (6, .ref (ad 4)), (7, .ref (ad 5)), (8, .ref (ad 6)), (9, .ref (ad 7))]) ?_ (N + 1) (0) _ _ _ _ _ _ (⟨rfl, rfl, rfl, rfl⟩) hP hD hS (lv_sub hl [0, 1, 2, 3, 4, 5, 6, 7, 8, 9, 10, 11, 12, 13] rfl)
    intro n1O kk σ' cells slots H locs ls ihO hI hP hD hS hl
    obtain ⟨hn0, rfl, rfl, rfl⟩ := hI
    have hl : lv_has ls 20 [(14, .int (nI kk)), (13, .int (nI w56)), (12, .int (nI mo)), (10, .long (-987654321987654321)), (0, .ref x), (1, .int y), (2, .ref (ad 0)), (3, .ref (ad 1)), (4, .ref (ad 2)), (5, .ref (ad 3)), (6, .ref (ad 4)), (7, .ref (ad 5)), (8, .ref (ad 6)), (9, .ref (ad 7))] := hl
    refine lv_iload hx hb dL_tells_64 (lv_at hl 0 rfl) ?_
    refine lv_aload_n hx hb dL_tells_66 rfl (lv_at hl 6 rfl) ?_
    refine lv_iconst (v := nI 1) hx hb dL_tells_67 (by decide) ?_
    refine lw_iald hx hb hK hP hG.a0 (k := 1) (by omega) (v := nI N) (e1) dL_tells_68 ?_
    refine lw_icmp_gt (tgt := 709) (a := kk) (b := N) hx hb dL_tells_69 (by decide) (by omega) (by omega) (fun c69 => ?_) (fun c69 => ?_)
    · have hout : N < kk := c69
      refine lv_aload_n hx hb dL_tells_709 rfl (lv_at hl 4 rfl) ?_
      obtain ⟨aM, aO, aL, aC, P, hQ0, hR, -, -, -⟩ := id hXX
      refine sg_calli hD hS hA (va_runV (As := []) (rest := []) ⟨hx, hb, hml, hown, hts⟩ (c_X2_month l D Y _ _ x aM N aO aL aC P hQ0) (cwV 0 hts gL_tells_X2_month rfl rfl rfl (by decide +kernel) ⟨(Nat.le_of_ble_eq_true rfl), (Nat.le_of_ble_eq_true rfl)⟩) (sg_preV (q := (RX2, TX2, 5)) (hQ0.1) rfl hK hP hD hN hX hS hA) rfl rfl hl.1 rfl (lv_room (Nat.le_of_ble_eq_true rfl)) dL_tells_710 ⟨by show 19 * kk + 0 ≤ 100; omega, by show 114 * kk + 0 ≤ 600; omega⟩) (fun r9 σ' H locs hw9 hP hD hS => ?_)
      obtain ⟨e9, rfl⟩ := hw9
      refine lv_aload_n hx hb dL_tells_713 rfl (lv_at hl 6 rfl) ?_
      refine lv_iconst (v := nI 0) hx hb dL_tells_714 (by decide) ?_
      refine lw_iald hx hb hK hP hG.a0 (k := 0) (by omega) (v := nI t) (e0) dL_tells_715 ?_
      refine lv_iconst (v := nI 1) hx hb dL_tells_716 (by decide) ?_
      refine lv_isub hx hb dL_tells_717 ?_
      refine lv_icmp_ne (tgt := 737) hx hb dL_tells_718 (by decide) (fun c718 => ?_) (fun c718 => ?_)
      · exact absurd (e9.trans (hR.2.1.trans hIV.1.2.2.2.2)) c718
      · skip
        refine lv_aload_n hx hb dL_tells_721 rfl (lv_at hl 4 rfl) ?_
        refine lv_iconst (v := nI 0) hx hb dL_tells_722 (by decide) ?_
        refine lv_iconst (v := (-1)) hx hb dL_tells_723 (by decide) ?_
        refine lv_iconst (v := nI 0) hx hb dL_tells_724 (by decide) ?_
        refine sg_xcalli hD hS hA (vx_runSX (As := [.ref x, .int (nI 0), .int (-1), .int (nI 0)]) (rest := []) ⟨hx, hb, hml, hown, hts⟩ (c_L_of0 l hfl D Y _ _ x M N t c (-1) (nI 0) hXX hc _ rfl) (vx_cwSW 4 hts gL_tells_L_of rfl rfl rfl (by decide +kernel) ⟨(Nat.le_of_ble_eq_true rfl), (Nat.le_of_ble_eq_true rfl)⟩) (lh_preS hK hP hD hN hC hX hS hA) rfl rfl hl.1 rfl (lv_room (Nat.le_of_ble_eq_true rfl)) dL_tells_725 ⟨by show 19 * kk + 0 + 1 ≤ 100; omega, by show 114 * kk + 0 + 6 ≤ 600; omega⟩) (fun E ce q9 H locs hpx hP hD hS hce hcv hcl => False.elim hpx) (fun r9 σ' H locs hw9 hP hD hS => ?_)
        obtain ⟨-, rfl, rfl⟩ := hw9.resolve_right (fun z => vn1 z.1)
        refine lv_bipush (v := (-101)) hx hb dL_tells_728 (by decide) ?_
        refine lv_icmp_ne (tgt := 737) hx hb dL_tells_730 (by decide) (fun c730 => ?_) (fun c730 => ?_)
        · exact absurd rfl c730
        · skip
          refine lv_iconst (v := nI 1) hx hb dL_tells_733 (by decide) ?_
          refine lv_goto (tgt := 738) hx hb dL_tells_734 (by decide) ?_
          exact sg_iret hx hb hr rfl hlocks hP hD hS (by omega) (by omega) dL_tells_738 (⟨rfl, rfl⟩)
    · skip
      refine lv_iload hx hb dL_tells_72 (lv_at hl 0 rfl) ?_
      refine lv_aload_n hx hb dL_tells_74 rfl (lv_at hl 6 rfl) ?_
      refine lv_iconst (v := nI 1) hx hb dL_tells_75 (by decide) ?_
      refine lw_iald hx hb hK hP hG.a0 (k := 1) (by omega) (v := nI N) (e1) dL_tells_76 ?_
      refine lw_icmp_ge (tgt := 84) (a := kk) (b := N) hx hb dL_tells_77 (by decide) (by omega) (by omega) (fun c77 => ?_) (fun c77 => ?_)
      · have hnv : ¬ vp_in (nI kk) N := fun z => absurd ((vn (by omega) (by omega)).mp z) (by omega)
        obtain ⟨S9, hS9⟩ : ∃ S9, S9 = sH M (tN (nI kk)) 10 := ⟨_, rfl⟩
        obtain ⟨W9, hW9⟩ : ∃ W9, W9 = gN M (tN (nI kk)) 10 := ⟨_, rfl⟩
        refine lv_iconst (v := nI 0) hx hb dL_tells_84 (by decide) ?_
        refine lv_istore (lv' := [(15, .int (nI 0)), (14, .int (nI kk)), (13, .int (nI w56)), (12, .int (nI mo)), (10, .long (-987654321987654321)), (0, .ref x), (1, .int y), (2, .ref (ad 0)), (3, .ref (ad 1)), (4, .ref (ad 2)), (5, .ref (ad 3)), (6, .ref (ad 4)), (7, .ref (ad 5)), (8, .ref (ad 6)), (9, .ref (ad 7))]) hx hb dL_tells_85 hl (by decide) rfl (fun ls hl => ?_)
        refine lv_iconst (v := nI 0) hx hb dL_tells_87 (by decide) ?_
        refine lv_istore (lv' := [(16, .int (nI 0)), (15, .int (nI 0)), (14, .int (nI kk)), (13, .int (nI w56)), (12, .int (nI mo)), (10, .long (-987654321987654321)), (0, .ref x), (1, .int y), (2, .ref (ad 0)), (3, .ref (ad 1)), (4, .ref (ad 2)), (5, .ref (ad 3)), (6, .ref (ad 4)), (7, .ref (ad 5)), (8, .ref (ad 6)), (9, .ref (ad 7))]) hx hb dL_tells_88 hl (by decide) rfl (fun ls hl => ?_)
        refine lv_lconst (v := 0) hx hb dL_tells_90 (by decide) ?_
        refine lv_lstore (lv' := [(17, .long 0), (16, .int (nI 0)), (15, .int (nI 0)), (14, .int (nI kk)), (13, .int (nI w56)), (12, .int (nI mo)), (10, .long (-987654321987654321)), (0, .ref x), (1, .int y), (2, .ref (ad 0)), (3, .ref (ad 1)), (4, .ref (ad 2)), (5, .ref (ad 3)), (6, .ref (ad 4)), (7, .ref (ad 5)), (8, .ref (ad 6)), (9, .ref (ad 7))]) hx hb dL_tells_91 hl (by decide) rfl (fun ls hl => ?_)
        refine lv_bipush (v := nI 10) hx hb dL_tells_93 (by decide) ?_
        refine lv_iload hx hb dL_tells_95 (lv_at hl 3 rfl) ?_
        refine lw_imul (a := 10) (b := kk) hx hb dL_tells_97 ?_
        refine lv_istore (lv' := [(19, .int (nI (10 * kk))), (17, .long 0), (16, .int (nI 0)), (15, .int (nI 0)), (14, .int (nI kk)), (13, .int (nI w56)), (12, .int (nI mo)), (10, .long (-987654321987654321)), (0, .ref x), (1, .int y), (2, .ref (ad 0)), (3, .ref (ad 1)), (4, .ref (ad 2)), (5, .ref (ad 3)), (6, .ref (ad 4)), (7, .ref (ad 5)), (8, .ref (ad 6)), (9, .ref (ad 7))]) hx hb dL_tells_98 hl (by decide) rfl (fun ls hl => ?_)
        refine lv_iload hx hb dL_tells_100 (lv_at hl 0 rfl) ?_
        refine lv_bipush (v := nI 10) hx hb dL_tells_102 (by decide) ?_
        refine lv_iload hx hb dL_tells_104 (lv_at hl 4 rfl) ?_
        refine lw_imul (a := 10) (b := kk) hx hb dL_tells_106 ?_
        refine lv_bipush (v := nI 10) hx hb dL_tells_107 (by decide) ?_
        refine lw_iadd (a := 10 * kk) (b := 10) hx hb dL_tells_109 ?_
        refine lw_icmp_ge (tgt := 184) (a := 10 * kk) (b := (10 * kk) + 10) hx hb dL_tells_110 (by decide) (by omega) (by omega) (fun c110 => ?_) (fun c110 => ?_)
        · exfalso; omega
        · skip
          refine lv_iload hx hb dL_tells_113 (lv_at hl 3 rfl) ?_
          refine lw_if_eq (tgt := 184) (a := 0) hx hb dL_tells_115 (by decide) (by omega) (fun c115 => ?_) (fun c115 => ?_)
          · skip
            refine lv_iload hx hb dL_tells_184 (lv_at hl 3 rfl) ?_
            refine lw_if_eq (tgt := 226) (a := 0) hx hb dL_tells_186 (by decide) (by omega) (fun c186 => ?_) (fun c186 => ?_)
            · skip
              refine lv_iconst (v := nI 0) hx hb dL_tells_226 (by decide) ?_
              refine lv_istore (lv' := [(19, .int (nI 0)), (17, .long 0), (16, .int (nI 0)), (15, .int (nI 0)), (14, .int (nI kk)), (13, .int (nI w56)), (12, .int (nI mo)), (10, .long (-987654321987654321)), (0, .ref x), (1, .int y), (2, .ref (ad 0)), (3, .ref (ad 1)), (4, .ref (ad 2)), (5, .ref (ad 3)), (6, .ref (ad 4)), (7, .ref (ad 5)), (8, .ref (ad 6)), (9, .ref (ad 7))]) hx hb dL_tells_227 hl (by decide) rfl (fun ls hl => ?_)
              refine lv_aload_n hx hb dL_tells_229 rfl (lv_at hl 8 rfl) ?_
              refine lv_iconst (v := nI 0) hx hb dL_tells_230 (by decide) ?_
              refine lv_iload hx hb dL_tells_231 (lv_at hl 4 rfl) ?_
              refine lv_iconst (v := nI 0) hx hb dL_tells_233 (by decide) ?_
              refine sg_xcalli hD hS hA (vx_runSX (As := [.ref x, .int (nI 0), .int (nI kk), .int (nI 0)]) (rest := []) ⟨hx, hb, hml, hown, hts⟩ (c_L_of0 l hfl D Y _ _ x M N t c (nI kk) (nI 0) hXX hc _ (rfl)) (vx_cwSW 4 hts gL_tells_L_of rfl rfl rfl (by decide +kernel) ⟨(Nat.le_of_ble_eq_true rfl), (Nat.le_of_ble_eq_true rfl)⟩) (lh_preS hK hP hD hN hC hX hS hA) rfl rfl hl.1 rfl (lv_room (Nat.le_of_ble_eq_true rfl)) dL_tells_234 ⟨by show 19 * kk + 1 ≤ 100; omega, by show 114 * kk + 6 ≤ 600; omega⟩) (fun E ce q9 H locs hpx hP hD hS hce hcv hcl => False.elim hpx) (fun r9 σ' H locs hw9 hP hD hS => ?_)
              obtain ⟨-, rfl, rfl⟩ := hw9.resolve_right (fun z => hnv z.1)
              refine lv_iload hx hb dL_tells_237 (lv_at hl 3 rfl) ?_
              refine lw_if_eq (tgt := 253) (a := 0) hx hb dL_tells_239 (by decide) (by omega) (fun c239 => ?_) (fun c239 => ?_)
              · skip
                refine lv_bipush (v := (-101)) hx hb dL_tells_253 (by decide) ?_
                refine lv_icmp_ne (tgt := 370) hx hb dL_tells_255 (by decide) (fun c255 => ?_) (fun c255 => ?_)
                · exact absurd rfl c255
                · skip
                  refine lv_aload_n hx hb dL_tells_258 rfl (lv_at hl 8 rfl) ?_
                  refine lv_iconst (v := nI 1) hx hb dL_tells_259 (by decide) ?_
                  refine lv_iload hx hb dL_tells_260 (lv_at hl 4 rfl) ?_
                  refine lv_iconst (v := nI 0) hx hb dL_tells_262 (by decide) ?_
                  refine sg_xcalli hD hS hA (vx_runSX (As := [.ref x, .int (nI 1), .int (nI kk), .int (nI 0)]) (rest := []) ⟨hx, hb, hml, hown, hts⟩ (c_L_of1 l hfl D Y _ _ x M N t c (nI kk) (nI 0) hXX hc _ (rfl)) (vx_cwSW 4 hts gL_tells_L_of rfl rfl rfl (by decide +kernel) ⟨(Nat.le_of_ble_eq_true rfl), (Nat.le_of_ble_eq_true rfl)⟩) (lh_preS hK hP hD hN hC hX hS hA) rfl rfl hl.1 rfl (lv_room (Nat.le_of_ble_eq_true rfl)) dL_tells_263 ⟨by show 19 * kk + 1 + 1 ≤ 100; omega, by show 114 * kk + 6 + 6 ≤ 600; omega⟩) (fun E ce q9 H locs hpx hP hD hS hce hcv hcl => False.elim hpx) (fun r9 σ' H locs hw9 hP hD hS => ?_)
                  obtain ⟨-, rfl, rfl⟩ := hw9.resolve_right (fun z => hnv z.1)
                  refine lv_iload hx hb dL_tells_266 (lv_at hl 3 rfl) ?_
                  refine lw_if_eq (tgt := 282) (a := 0) hx hb dL_tells_268 (by decide) (by omega) (fun c268 => ?_) (fun c268 => ?_)
                  · skip
                    refine lv_bipush (v := (-101)) hx hb dL_tells_282 (by decide) ?_
                    refine lv_icmp_ne (tgt := 370) hx hb dL_tells_284 (by decide) (fun c284 => ?_) (fun c284 => ?_)
                    · exact absurd rfl c284
                    · skip
                      refine lv_aload_n hx hb dL_tells_287 rfl (lv_at hl 8 rfl) ?_
                      refine lv_iconst (v := nI 2) hx hb dL_tells_288 (by decide) ?_
                      refine lv_iload hx hb dL_tells_289 (lv_at hl 4 rfl) ?_
                      refine lv_iconst (v := nI 0) hx hb dL_tells_291 (by decide) ?_
                      refine sg_xcalli hD hS hA (vx_runSX (As := [.ref x, .int (nI 2), .int (nI kk), .int (nI 0)]) (rest := []) ⟨hx, hb, hml, hown, hts⟩ (c_L_of2 l hfl D Y _ _ x M N t c (nI kk) (nI 0) hXX hc _ (rfl)) (vx_cwSW 4 hts gL_tells_L_of rfl rfl rfl (by decide +kernel) ⟨(Nat.le_of_ble_eq_true rfl), (Nat.le_of_ble_eq_true rfl)⟩) (lh_preS hK hP hD hN hC hX hS hA) rfl rfl hl.1 rfl (lv_room (Nat.le_of_ble_eq_true rfl)) dL_tells_292 ⟨by show 19 * kk + 1 + 1 + 1 ≤ 100; omega, by show 114 * kk + 6 + 6 + 6 ≤ 600; omega⟩) (fun E ce q9 H locs hpx hP hD hS hce hcv hcl => False.elim hpx) (fun r9 σ' H locs hw9 hP hD hS => ?_)
                      obtain ⟨-, rfl, rfl⟩ := hw9.resolve_right (fun z => hnv z.1)
                      refine lv_iload hx hb dL_tells_295 (lv_at hl 3 rfl) ?_
                      refine lw_if_eq (tgt := 313) (a := 0) hx hb dL_tells_297 (by decide) (by omega) (fun c297 => ?_) (fun c297 => ?_)
                      · skip
                        refine lv_bipush (v := (-101)) hx hb dL_tells_313 (by decide) ?_
                        refine lv_icmp_ne (tgt := 370) hx hb dL_tells_315 (by decide) (fun c315 => ?_) (fun c315 => ?_)
                        · exact absurd rfl c315
                        · skip
                          refine lv_aload_n hx hb dL_tells_318 rfl (lv_at hl 8 rfl) ?_
                          refine lv_iconst (v := nI 3) hx hb dL_tells_319 (by decide) ?_
                          refine lv_iload hx hb dL_tells_320 (lv_at hl 4 rfl) ?_
                          refine lv_iconst (v := nI 0) hx hb dL_tells_322 (by decide) ?_
                          refine sg_xcalli hD hS hA (vx_runSX (As := [.ref x, .int (nI 3), .int (nI kk), .int (nI 0)]) (rest := []) ⟨hx, hb, hml, hown, hts⟩ (c_L_of3 l hfl D Y _ _ x M N t c (nI kk) (nI 0) hXX hc _ (rfl)) (vx_cwSW 4 hts gL_tells_L_of rfl rfl rfl (by decide +kernel) ⟨(Nat.le_of_ble_eq_true rfl), (Nat.le_of_ble_eq_true rfl)⟩) (lh_preS hK hP hD hN hC hX hS hA) rfl rfl hl.1 rfl (lv_room (Nat.le_of_ble_eq_true rfl)) dL_tells_323 ⟨by show 19 * kk + 1 + 1 + 1 + 1 ≤ 100; omega, by show 114 * kk + 6 + 6 + 6 + 6 ≤ 600; omega⟩) (fun E ce q9 H locs hpx hP hD hS hce hcv hcl => False.elim hpx) (fun r9 σ' H locs hw9 hP hD hS => ?_)
                          obtain ⟨-, rfl, rfl⟩ := hw9.resolve_right (fun z => hnv z.1)
                          refine lv_iload hx hb dL_tells_326 (lv_at hl 3 rfl) ?_
                          refine lw_if_eq (tgt := 342) (a := 0) hx hb dL_tells_328 (by decide) (by omega) (fun c328 => ?_) (fun c328 => ?_)
                          · skip
                            refine lv_bipush (v := (-101)) hx hb dL_tells_342 (by decide) ?_
                            refine lv_icmp_ne (tgt := 370) hx hb dL_tells_344 (by decide) (fun c344 => ?_) (fun c344 => ?_)
                            · exact absurd rfl c344
                            · skip
                              refine lv_aload_n hx hb dL_tells_347 rfl (lv_at hl 8 rfl) ?_
                              refine lv_iconst (v := nI 4) hx hb dL_tells_348 (by decide) ?_
                              refine lv_iload hx hb dL_tells_349 (lv_at hl 4 rfl) ?_
                              refine lv_iconst (v := nI 0) hx hb dL_tells_351 (by decide) ?_
                              refine sg_xcalli hD hS hA (vx_runSX (As := [.ref x, .int (nI 4), .int (nI kk), .int (nI 0)]) (rest := []) ⟨hx, hb, hml, hown, hts⟩ (c_L_of4 l hfl D Y _ _ x M N t c (nI kk) (nI 0) hXX hc S9 (hS9)) (vx_cwSW 4 hts gL_tells_L_of rfl rfl rfl (by decide +kernel) ⟨(Nat.le_of_ble_eq_true rfl), (Nat.le_of_ble_eq_true rfl)⟩) (lh_preS hK hP hD hN hC hX hS hA) rfl rfl hl.1 rfl (lv_room (Nat.le_of_ble_eq_true rfl)) dL_tells_352 ⟨by show 19 * kk + 1 + 1 + 1 + 1 + 1 ≤ 100; omega, by show 114 * kk + 6 + 6 + 6 + 6 + 6 ≤ 600; omega⟩) (fun E ce q9 H locs hpx hP hD hS hce hcv hcl => False.elim hpx) (fun r9 σ' H locs hw9 hP hD hS => ?_)
                              obtain ⟨-, rfl, rfl⟩ := hw9.resolve_right (fun z => hnv z.1)
                              refine lv_iload hx hb dL_tells_355 (lv_at hl 3 rfl) ?_
                              refine lw_if_eq (tgt := 365) (a := 0) hx hb dL_tells_357 (by decide) (by omega) (fun c357 => ?_) (fun c357 => ?_)
                              · skip
                                refine lv_bipush (v := (-101)) hx hb dL_tells_365 (by decide) ?_
                                refine lv_icmp_eq (tgt := 372) hx hb dL_tells_367 (by decide) (fun c367 => ?_) (fun c367 => ?_)
                                · skip
                                  refine sg_cutw (D := D) hS (j := 479) (ls := ls) (rest := []) (19 * kk + 1 + 1 + 1 + 1 + 1 + 3 + 3) (114 * kk + 6 + 6 + 6 + 6 + 6 + 18 + 18) (fun σ' => σ = σ') (fun σ' H locs hj9 hP hD hS => ?_) (fun k479 => ?_)
                                  · obtain rfl := hj9
                                    refine sg_cutw (D := D) hS (j := 520) (ls := ls) (rest := []) (19 * kk + 1 + 1 + 1 + 1 + 1 + 3 + 3 + 3) (114 * kk + 6 + 6 + 6 + 6 + 6 + 18 + 18 + 18) (fun σ' => σ = σ') (fun σ' H locs hj9 hP hD hS => ?_) (fun k520 => ?_)
                                    · obtain rfl := hj9
                                      refine lv_aload_n hx hb dL_tells_520 rfl (lv_at hl 8 rfl) ?_
                                      refine lv_iconst (v := nI 1) hx hb dL_tells_521 (by decide) ?_
                                      refine lv_iload hx hb dL_tells_522 (lv_at hl 4 rfl) ?_
                                      refine lv_iconst (v := nI 0) hx hb dL_tells_524 (by decide) ?_
                                      refine sg_xcalll hD hS hA (vx_runSX (As := [.ref x, .int (nI 1), .int (nI kk), .int (nI 0)]) (rest := []) ⟨hx, hb, hml, hown, hts⟩ (c_L_sum1 l hfl D Y _ _ x M N t c (nI kk) (nI 0) hXX hc _ (rfl)) (vx_cwSW 4 hts gL_tells_L_sum rfl rfl rfl (by decide +kernel) ⟨(Nat.le_of_ble_eq_true rfl), (Nat.le_of_ble_eq_true rfl)⟩) (lh_preS hK hP hD hN hC hX hS hA) rfl rfl hl.1 rfl (lv_room (Nat.le_of_ble_eq_true rfl)) dL_tells_525 ⟨by show 19 * kk + 1 + 1 + 1 + 1 + 1 + 3 + 3 + 3 + 1 ≤ 100; omega, by show 114 * kk + 6 + 6 + 6 + 6 + 6 + 18 + 18 + 18 + 6 ≤ 600; omega⟩) (fun E ce q9 H locs hpx hP hD hS hce hcv hcl => False.elim hpx) (fun r9 σ' H locs hw9 hP hD hS => ?_)
                                      obtain ⟨-, rfl, rfl⟩ := hw9.resolve_right (fun z => hnv z.1)
                                      refine lv_iload hx hb dL_tells_528 (lv_at hl 3 rfl) ?_
                                      refine lw_if_eq (tgt := 541) (a := 0) hx hb dL_tells_530 (by decide) (by omega) (fun c530 => ?_) (fun c530 => ?_)
                                      · skip
                                        refine lv_lload hx hb dL_tells_541 (lv_at hl 7 rfl) ?_
                                        refine W.lcmp hx hb dL_tells_543 ?_
                                        refine lv_if_ne (tgt := 658) hx hb dL_tells_544 (by decide) (fun c544 => ?_) (fun c544 => ?_)
                                        · exact absurd ((lg_cmp_eq _ _).mpr rfl) c544
                                        · skip
                                          refine lv_aload_n hx hb dL_tells_547 rfl (lv_at hl 8 rfl) ?_
                                          refine lv_iconst (v := nI 2) hx hb dL_tells_548 (by decide) ?_
                                          refine lv_iload hx hb dL_tells_549 (lv_at hl 4 rfl) ?_
                                          refine lv_iconst (v := nI 0) hx hb dL_tells_551 (by decide) ?_
                                          refine sg_xcalll hD hS hA (vx_runSX (As := [.ref x, .int (nI 2), .int (nI kk), .int (nI 0)]) (rest := []) ⟨hx, hb, hml, hown, hts⟩ (c_L_sum2 l hfl D Y _ _ x M N t c (nI kk) (nI 0) hXX hc _ (rfl)) (vx_cwSW 4 hts gL_tells_L_sum rfl rfl rfl (by decide +kernel) ⟨(Nat.le_of_ble_eq_true rfl), (Nat.le_of_ble_eq_true rfl)⟩) (lh_preS hK hP hD hN hC hX hS hA) rfl rfl hl.1 rfl (lv_room (Nat.le_of_ble_eq_true rfl)) dL_tells_552 ⟨by show 19 * kk + 1 + 1 + 1 + 1 + 1 + 3 + 3 + 3 + 1 + 1 ≤ 100; omega, by show 114 * kk + 6 + 6 + 6 + 6 + 6 + 18 + 18 + 18 + 6 + 6 ≤ 600; omega⟩) (fun E ce q9 H locs hpx hP hD hS hce hcv hcl => False.elim hpx) (fun r9 σ' H locs hw9 hP hD hS => ?_)
                                          obtain ⟨-, rfl, rfl⟩ := hw9.resolve_right (fun z => hnv z.1)
                                          refine lv_iload hx hb dL_tells_555 (lv_at hl 3 rfl) ?_
                                          refine lw_if_eq (tgt := 568) (a := 0) hx hb dL_tells_557 (by decide) (by omega) (fun c557 => ?_) (fun c557 => ?_)
                                          · skip
                                            refine lv_lload hx hb dL_tells_568 (lv_at hl 7 rfl) ?_
                                            refine W.lcmp hx hb dL_tells_570 ?_
                                            refine lv_if_ne (tgt := 658) hx hb dL_tells_571 (by decide) (fun c571 => ?_) (fun c571 => ?_)
                                            · exact absurd ((lg_cmp_eq _ _).mpr rfl) c571
                                            · skip
                                              refine lv_aload_n hx hb dL_tells_574 rfl (lv_at hl 8 rfl) ?_
                                              refine lv_iconst (v := nI 3) hx hb dL_tells_575 (by decide) ?_
                                              refine lv_iload hx hb dL_tells_576 (lv_at hl 4 rfl) ?_
                                              refine lv_iconst (v := nI 0) hx hb dL_tells_578 (by decide) ?_
                                              refine sg_xcalll hD hS hA (vx_runSX (As := [.ref x, .int (nI 3), .int (nI kk), .int (nI 0)]) (rest := []) ⟨hx, hb, hml, hown, hts⟩ (c_L_sum3 l hfl D Y _ _ x M N t c (nI kk) (nI 0) hXX hc _ (rfl)) (vx_cwSW 4 hts gL_tells_L_sum rfl rfl rfl (by decide +kernel) ⟨(Nat.le_of_ble_eq_true rfl), (Nat.le_of_ble_eq_true rfl)⟩) (lh_preS hK hP hD hN hC hX hS hA) rfl rfl hl.1 rfl (lv_room (Nat.le_of_ble_eq_true rfl)) dL_tells_579 ⟨by show 19 * kk + 1 + 1 + 1 + 1 + 1 + 3 + 3 + 3 + 1 + 1 + 1 ≤ 100; omega, by show 114 * kk + 6 + 6 + 6 + 6 + 6 + 18 + 18 + 18 + 6 + 6 + 6 ≤ 600; omega⟩) (fun E ce q9 H locs hpx hP hD hS hce hcv hcl => False.elim hpx) (fun r9 σ' H locs hw9 hP hD hS => ?_)
                                              obtain ⟨-, rfl, rfl⟩ := hw9.resolve_right (fun z => hnv z.1)
                                              refine lv_iload hx hb dL_tells_582 (lv_at hl 3 rfl) ?_
                                              refine lw_if_eq (tgt := 598) (a := 0) hx hb dL_tells_584 (by decide) (by omega) (fun c584 => ?_) (fun c584 => ?_)
                                              · skip
                                                refine lv_lload hx hb dL_tells_598 (lv_at hl 7 rfl) ?_
                                                refine W.lcmp hx hb dL_tells_600 ?_
                                                refine lv_if_ne (tgt := 658) hx hb dL_tells_601 (by decide) (fun c601 => ?_) (fun c601 => ?_)
                                                · exact absurd ((lg_cmp_eq _ _).mpr rfl) c601
                                                · skip
                                                  refine lv_aload_n hx hb dL_tells_604 rfl (lv_at hl 8 rfl) ?_
                                                  refine lv_iconst (v := nI 4) hx hb dL_tells_605 (by decide) ?_
                                                  refine lv_iload hx hb dL_tells_606 (lv_at hl 4 rfl) ?_
                                                  refine lv_iconst (v := nI 0) hx hb dL_tells_608 (by decide) ?_
                                                  refine sg_xcalll hD hS hA (vx_runSX (As := [.ref x, .int (nI 4), .int (nI kk), .int (nI 0)]) (rest := []) ⟨hx, hb, hml, hown, hts⟩ (c_L_sum4 l hfl D Y _ _ x M N t c (nI kk) (nI 0) hXX hc _ (rfl)) (vx_cwSW 4 hts gL_tells_L_sum rfl rfl rfl (by decide +kernel) ⟨(Nat.le_of_ble_eq_true rfl), (Nat.le_of_ble_eq_true rfl)⟩) (lh_preS hK hP hD hN hC hX hS hA) rfl rfl hl.1 rfl (lv_room (Nat.le_of_ble_eq_true rfl)) dL_tells_609 ⟨by show 19 * kk + 1 + 1 + 1 + 1 + 1 + 3 + 3 + 3 + 1 + 1 + 1 + 1 ≤ 100; omega, by show 114 * kk + 6 + 6 + 6 + 6 + 6 + 18 + 18 + 18 + 6 + 6 + 6 + 6 ≤ 600; omega⟩) (fun E ce q9 H locs hpx hP hD hS hce hcv hcl => False.elim hpx) (fun r9 σ' H locs hw9 hP hD hS => ?_)
                                                  obtain ⟨-, rfl, rfl⟩ := hw9.resolve_right (fun z => hnv z.1)
                                                  refine lv_iload hx hb dL_tells_612 (lv_at hl 3 rfl) ?_
                                                  refine lw_if_eq (tgt := 628) (a := 0) hx hb dL_tells_614 (by decide) (by omega) (fun c614 => ?_) (fun c614 => ?_)
                                                  · skip
                                                    refine lv_lload hx hb dL_tells_628 (lv_at hl 7 rfl) ?_
                                                    refine W.lcmp hx hb dL_tells_630 ?_
                                                    refine lv_if_ne (tgt := 658) hx hb dL_tells_631 (by decide) (fun c631 => ?_) (fun c631 => ?_)
                                                    · exact absurd ((lg_cmp_eq _ _).mpr rfl) c631
                                                    · skip
                                                      refine lv_aload_n hx hb dL_tells_634 rfl (lv_at hl 8 rfl) ?_
                                                      refine lv_iconst (v := nI 5) hx hb dL_tells_635 (by decide) ?_
                                                      refine lv_iload hx hb dL_tells_636 (lv_at hl 4 rfl) ?_
                                                      refine lv_iconst (v := nI 0) hx hb dL_tells_638 (by decide) ?_
                                                      refine sg_xcalll hD hS hA (vx_runSX (As := [.ref x, .int (nI 5), .int (nI kk), .int (nI 0)]) (rest := []) ⟨hx, hb, hml, hown, hts⟩ (c_L_sum5 l hfl D Y _ _ x M N t c (nI kk) (nI 0) hXX hc W9 (hW9)) (vx_cwSW 4 hts gL_tells_L_sum rfl rfl rfl (by decide +kernel) ⟨(Nat.le_of_ble_eq_true rfl), (Nat.le_of_ble_eq_true rfl)⟩) (lh_preS hK hP hD hN hC hX hS hA) rfl rfl hl.1 rfl (lv_room (Nat.le_of_ble_eq_true rfl)) dL_tells_639 ⟨by show 19 * kk + 1 + 1 + 1 + 1 + 1 + 3 + 3 + 3 + 1 + 1 + 1 + 1 + 1 ≤ 100; omega, by show 114 * kk + 6 + 6 + 6 + 6 + 6 + 18 + 18 + 18 + 6 + 6 + 6 + 6 + 6 ≤ 600; omega⟩) (fun E ce q9 H locs hpx hP hD hS hce hcv hcl => False.elim hpx) (fun r9 σ' H locs hw9 hP hD hS => ?_)
                                                      obtain ⟨-, rfl, rfl⟩ := hw9.resolve_right (fun z => hnv z.1)
                                                      refine lv_iload hx hb dL_tells_642 (lv_at hl 3 rfl) ?_
                                                      refine lw_if_eq (tgt := 652) (a := 0) hx hb dL_tells_644 (by decide) (by omega) (fun c644 => ?_) (fun c644 => ?_)
                                                      · skip
                                                        refine lv_lload hx hb dL_tells_652 (lv_at hl 7 rfl) ?_
                                                        refine W.lcmp hx hb dL_tells_654 ?_
                                                        refine lv_if_eq (tgt := 660) hx hb dL_tells_655 (by decide) (fun c655 => ?_) (fun c655 => ?_)
                                                        · skip
                                                          refine lv_iload hx hb dL_tells_660 (lv_at hl 3 rfl) ?_
                                                          refine lw_if_eq (tgt := 703) (a := 0) hx hb dL_tells_662 (by decide) (by omega) (fun c662 => ?_) (fun c662 => ?_)
                                                          · skip
                                                            refine lv_iinc (v := nI (kk + 1)) (lv' := [(14, .int (nI (kk + 1))), (19, .int (nI 0)), (17, .long 0), (16, .int (nI 0)), (15, .int (nI 0)), (13, .int (nI w56)), (12, .int (nI mo)), (10, .long (-987654321987654321)), (0, .ref x), (1, .int y), (2, .ref (ad 0)), (3, .ref (ad 1)), (4, .ref (ad 2)), (5, .ref (ad 3)), (6, .ref (ad 4)), (7, .ref (ad 5)), (8, .ref (ad 6)), (9, .ref (ad 7))]) hx hb dL_tells_703 hl (k := 4) rfl (nI_1 _) (by decide) rfl (fun ls hl => ?_)
                                                            refine lv_goto (tgt := 64) hx hb dL_tells_706 (by decide) ?_
                                                            exact ihO (n1O - 1) (kk + 1) _ _ _ _ _ _ (by omega) ⟨by omega, rfl, by omega, by omega⟩ hP hD hS (lv_sub hl [0, 5, 6, 7, 8, 9, 10, 11, 12, 13, 14, 15, 16, 17] rfl)
                                                          · exfalso; omega
                                                        · exact absurd ((lg_cmp_eq _ _).mpr rfl) c655
                                                      · exfalso; omega
                                                  · exfalso; omega
                                              · exfalso; omega
                                          · exfalso; omega
                                      · exfalso; omega
                                    · skip
                                      refine lv_aload_n hx hb dL_tells_479 rfl (lv_at hl 8 rfl) ?_
                                      refine lv_iconst (v := nI 0) hx hb dL_tells_480 (by decide) ?_
                                      refine lv_iload hx hb dL_tells_481 (lv_at hl 4 rfl) ?_
                                      refine lv_iload hx hb dL_tells_483 (lv_at hl 5 rfl) ?_
                                      refine sg_xcalll hD hS hA (vx_runSX (As := [.ref x, .int (nI 0), .int (nI kk), .int (nI w56)]) (rest := []) ⟨hx, hb, hml, hown, hts⟩ (c_L_sum0 l hfl D Y _ _ x M N t c (nI kk) (nI w56) hXX hc _ (rfl)) (vx_cwSW 4 hts gL_tells_L_sum rfl rfl rfl (by decide +kernel) ⟨(Nat.le_of_ble_eq_true rfl), (Nat.le_of_ble_eq_true rfl)⟩) (lh_preS hK hP hD hN hC hX hS hA) rfl rfl hl.1 rfl (lv_room (Nat.le_of_ble_eq_true rfl)) dL_tells_485 ⟨by show 19 * kk + 1 + 1 + 1 + 1 + 1 + 3 + 3 + 3 ≤ 100; omega, by show 114 * kk + 6 + 6 + 6 + 6 + 6 + 18 + 18 + 18 ≤ 600; omega⟩) (fun E ce q9 H locs hpx hP hD hS hce hcv hcl => False.elim hpx) (fun r9 σ' H locs hw9 hP hD hS => ?_)
                                      obtain ⟨-, rfl, rfl⟩ := hw9.resolve_right (fun z => hnv z.1.1)
                                      refine lv_iload hx hb dL_tells_488 (lv_at hl 3 rfl) ?_
                                      refine lw_if_eq (tgt := 514) (a := 0) hx hb dL_tells_490 (by decide) (by omega) (fun c490 => ?_) (fun c490 => ?_)
                                      · skip
                                        refine lv_lload hx hb dL_tells_514 (lv_at hl 7 rfl) ?_
                                        refine W.lcmp hx hb dL_tells_516 ?_
                                        refine lv_if_ne (tgt := 658) hx hb dL_tells_517 (by decide) (fun c517 => ?_) (fun c517 => ?_)
                                        · exact absurd ((lg_cmp_eq _ _).mpr rfl) c517
                                        · skip
                                          exact k520 _ _ _ (rfl) hP hD hS
                                      · exfalso; omega
                                  · skip
                                    refine lv_aload_n hx hb dL_tells_372 rfl (lv_at hl 8 rfl) ?_
                                    refine lv_iconst (v := nI 5) hx hb dL_tells_373 (by decide) ?_
                                    refine lv_iload hx hb dL_tells_374 (lv_at hl 4 rfl) ?_
                                    refine lv_iload hx hb dL_tells_376 (lv_at hl 6 rfl) ?_
                                    refine sg_xcalli hD hS hA (vx_runSX (As := [.ref x, .int (nI 5), .int (nI kk), .int (nI mo)]) (rest := []) ⟨hx, hb, hml, hown, hts⟩ (c_L_of5 l hfl D Y _ _ x M N t c (nI kk) (nI mo) hXX hc _ (rfl)) (vx_cwSW 4 hts gL_tells_L_of rfl rfl rfl (by decide +kernel) ⟨(Nat.le_of_ble_eq_true rfl), (Nat.le_of_ble_eq_true rfl)⟩) (lh_preS hK hP hD hN hC hX hS hA) rfl rfl hl.1 rfl (lv_room (Nat.le_of_ble_eq_true rfl)) dL_tells_378 ⟨by show 19 * kk + 1 + 1 + 1 + 1 + 1 + 3 ≤ 100; omega, by show 114 * kk + 6 + 6 + 6 + 6 + 6 + 18 ≤ 600; omega⟩) (fun E ce q9 H locs hpx hP hD hS hce hcv hcl => False.elim hpx) (fun r9 σ' H locs hw9 hP hD hS => ?_)
                                    obtain ⟨-, rfl, rfl⟩ := hw9.resolve_right (fun z => hnv z.1.1)
                                    refine lv_iload hx hb dL_tells_381 (lv_at hl 3 rfl) ?_
                                    refine lw_if_eq (tgt := 393) (a := 0) hx hb dL_tells_383 (by decide) (by omega) (fun c383 => ?_) (fun c383 => ?_)
                                    · skip
                                      refine lv_bipush (v := (-101)) hx hb dL_tells_393 (by decide) ?_
                                      refine lv_goto (tgt := 421) hx hb dL_tells_395 (by decide) ?_
                                      refine lv_icmp_ne (tgt := 477) hx hb dL_tells_421 (by decide) (fun c421 => ?_) (fun c421 => ?_)
                                      · exact absurd rfl c421
                                      · skip
                                        refine lv_aload_n hx hb dL_tells_424 rfl (lv_at hl 8 rfl) ?_
                                        refine lv_bipush (v := nI 6) hx hb dL_tells_425 (by decide) ?_
                                        refine lv_iload hx hb dL_tells_427 (lv_at hl 4 rfl) ?_
                                        refine lv_iload hx hb dL_tells_429 (lv_at hl 6 rfl) ?_
                                        refine sg_xcalli hD hS hA (vx_runSX (As := [.ref x, .int (nI 6), .int (nI kk), .int (nI mo)]) (rest := []) ⟨hx, hb, hml, hown, hts⟩ (c_L_of6 l hfl D Y _ _ x M N t c (nI kk) (nI mo) hXX hc _ (rfl)) (vx_cwSW 4 hts gL_tells_L_of rfl rfl rfl (by decide +kernel) ⟨(Nat.le_of_ble_eq_true rfl), (Nat.le_of_ble_eq_true rfl)⟩) (lh_preS hK hP hD hN hC hX hS hA) rfl rfl hl.1 rfl (lv_room (Nat.le_of_ble_eq_true rfl)) dL_tells_431 ⟨by show 19 * kk + 1 + 1 + 1 + 1 + 1 + 3 + 3 ≤ 100; omega, by show 114 * kk + 6 + 6 + 6 + 6 + 6 + 18 + 18 ≤ 600; omega⟩) (fun E ce q9 H locs hpx hP hD hS hce hcv hcl => False.elim hpx) (fun r9 σ' H locs hw9 hP hD hS => ?_)
                                        obtain ⟨-, rfl, rfl⟩ := hw9.resolve_right (fun z => hnv z.1.1)
                                        refine lv_iload hx hb dL_tells_434 (lv_at hl 3 rfl) ?_
                                        refine lw_if_eq (tgt := 446) (a := 0) hx hb dL_tells_436 (by decide) (by omega) (fun c436 => ?_) (fun c436 => ?_)
                                        · skip
                                          refine lv_bipush (v := (-101)) hx hb dL_tells_446 (by decide) ?_
                                          refine lv_goto (tgt := 474) hx hb dL_tells_448 (by decide) ?_
                                          refine lv_icmp_eq (tgt := 479) hx hb dL_tells_474 (by decide) (fun c474 => ?_) (fun c474 => ?_)
                                          · skip
                                            exact k479 _ _ _ (rfl) hP hD hS
                                          · exact absurd rfl c474
                                        · exfalso; omega
                                    · exfalso; omega
                                · exact absurd rfl c367
                              · exfalso; omega
                          · exfalso; omega
                      · exfalso; omega
                  · exfalso; omega
              · exfalso; omega
            · exfalso; omega
          · exfalso; omega
      · have hvi : vp_in (nI kk) N := vp_in_nI (by omega) (by omega)
        have ek : tN (nI kk) = kk := nI_clamp (by omega)
        obtain ⟨al, hal⟩ : ∃ al : Int32, al = sH M kk 10 := ⟨_, rfl⟩
        obtain ⟨nw, hnw⟩ : ∃ nw : Int64, nw = gN M kk 10 := ⟨_, rfl⟩
        obtain ⟨aM, aO, aL, aC, P, hQ0, hR, -, -, -⟩ := id hXX
        obtain ⟨⟨ff, hff, eff⟩, -, -, -, -⟩ := hIV.2.2.1 kk (by omega)
        have egx : gX G kk = sL M 9 kk := by have z : gX G (0 + kk) = sL M 9 kk := hL.xat (by omega) (show xP 0 9 by unfold xP; omega); rw [Nat.zero_add] at z; exact z
        have htp : 0 < t := hNt (by omega)
        refine lv_iconst (v := nI 1) hx hb dL_tells_80 (by decide) ?_
        refine lv_goto (tgt := 85) hx hb dL_tells_81 (by decide) ?_
        refine lv_istore (lv' := [(15, .int (nI 1)), (14, .int (nI kk)), (13, .int (nI w56)), (12, .int (nI mo)), (10, .long (-987654321987654321)), (0, .ref x), (1, .int y), (2, .ref (ad 0)), (3, .ref (ad 1)), (4, .ref (ad 2)), (5, .ref (ad 3)), (6, .ref (ad 4)), (7, .ref (ad 5)), (8, .ref (ad 6)), (9, .ref (ad 7))]) hx hb dL_tells_85 hl (by decide) rfl (fun ls hl => ?_)
        refine lv_iconst (v := nI 0) hx hb dL_tells_87 (by decide) ?_
        refine lv_istore (lv' := [(16, .int (nI 0)), (15, .int (nI 1)), (14, .int (nI kk)), (13, .int (nI w56)), (12, .int (nI mo)), (10, .long (-987654321987654321)), (0, .ref x), (1, .int y), (2, .ref (ad 0)), (3, .ref (ad 1)), (4, .ref (ad 2)), (5, .ref (ad 3)), (6, .ref (ad 4)), (7, .ref (ad 5)), (8, .ref (ad 6)), (9, .ref (ad 7))]) hx hb dL_tells_88 hl (by decide) rfl (fun ls hl => ?_)
        refine lv_lconst (v := 0) hx hb dL_tells_90 (by decide) ?_
        refine lv_lstore (lv' := [(17, .long 0), (16, .int (nI 0)), (15, .int (nI 1)), (14, .int (nI kk)), (13, .int (nI w56)), (12, .int (nI mo)), (10, .long (-987654321987654321)), (0, .ref x), (1, .int y), (2, .ref (ad 0)), (3, .ref (ad 1)), (4, .ref (ad 2)), (5, .ref (ad 3)), (6, .ref (ad 4)), (7, .ref (ad 5)), (8, .ref (ad 6)), (9, .ref (ad 7))]) hx hb dL_tells_91 hl (by decide) rfl (fun ls hl => ?_)
        refine lv_bipush (v := nI 10) hx hb dL_tells_93 (by decide) ?_
        refine lv_iload hx hb dL_tells_95 (lv_at hl 3 rfl) ?_
        refine lw_imul (a := 10) (b := kk) hx hb dL_tells_97 ?_
        refine lv_istore (lv' := [(19, .int (nI (10 * kk))), (17, .long 0), (16, .int (nI 0)), (15, .int (nI 1)), (14, .int (nI kk)), (13, .int (nI w56)), (12, .int (nI mo)), (10, .long (-987654321987654321)), (0, .ref x), (1, .int y), (2, .ref (ad 0)), (3, .ref (ad 1)), (4, .ref (ad 2)), (5, .ref (ad 3)), (6, .ref (ad 4)), (7, .ref (ad 5)), (8, .ref (ad 6)), (9, .ref (ad 7))]) hx hb dL_tells_98 hl (by decide) rfl (fun ls hl => ?_)
        refine sg_loop (D := D) (H0 := s.heap) (T := Nat) 100 20 (fun n1 jj σ' c' s' => n1 + jj = 10 ∧ σ = σ' ∧ c' = 19 * kk ∧ s' = 114 * kk) (fun jj => [(19, .int (nI (10 * kk + jj))), (17, .long (gN M kk jj)), (16, .int (sH M kk jj)), (15, .int (nI 1)), (14, .int (nI kk)), (13, .int (nI w56)), (12, .int (nI mo)), (10, .long (-987654321987654321)), (0, .ref x), (1, .int y), (2, .ref (ad 0)), (3, .ref (ad 1)), (4, .ref (ad 2)), (5, .ref (ad 3)), (6, .ref (ad 4)), (7, .ref (ad 5)), (8, .ref (ad 6)), (9, .ref (ad 7))]) ?_ (10) (0) _ _ _ _ _ _ (⟨rfl, rfl, rfl, rfl⟩) hP hD hS (lv_sub hl [0, 1, 2, 3, 4, 5, 6, 7, 8, 9, 10, 11, 12, 13, 14, 15, 16, 17] rfl)
        intro n1 jj σ' cells slots H locs ls ih hI hP hD hS hl
        obtain ⟨hn, rfl, rfl, rfl⟩ := hI
        have hl : lv_has ls 20 [(19, .int (nI (10 * kk + jj))), (17, .long (gN M kk jj)), (16, .int (sH M kk jj)), (15, .int (nI 1)), (14, .int (nI kk)), (13, .int (nI w56)), (12, .int (nI mo)), (10, .long (-987654321987654321)), (0, .ref x), (1, .int y), (2, .ref (ad 0)), (3, .ref (ad 1)), (4, .ref (ad 2)), (5, .ref (ad 3)), (6, .ref (ad 4)), (7, .ref (ad 5)), (8, .ref (ad 6)), (9, .ref (ad 7))] := hl
        refine lv_iload hx hb dL_tells_100 (lv_at hl 0 rfl) ?_
        refine lv_bipush (v := nI 10) hx hb dL_tells_102 (by decide) ?_
        refine lv_iload hx hb dL_tells_104 (lv_at hl 4 rfl) ?_
        refine lw_imul (a := 10) (b := kk) hx hb dL_tells_106 ?_
        refine lv_bipush (v := nI 10) hx hb dL_tells_107 (by decide) ?_
        refine lw_iadd (a := 10 * kk) (b := 10) hx hb dL_tells_109 ?_
        refine lw_icmp_ge (tgt := 184) (a := 10 * kk + jj) (b := (10 * kk) + 10) hx hb dL_tells_110 (by decide) (by omega) (by omega) (fun c110 => ?_) (fun c110 => ?_)
        · obtain rfl : jj = 10 := by omega
          rw [← hal, ← hnw] at hl
          refine sg_cutwi (D := D) hS (j := 227) (ls := ls) (rest := []) (19 * kk) (114 * kk) (fun x9 σ' => ∃ v9 : Nat, ((v9 = 1 ∧ (mo < 60 ∧ mo % 6 = 5 ∧ sI M 15 (10 * kk + mo / 6) ≠ 0)) ∨ (v9 = 0 ∧ ¬ (mo < 60 ∧ mo % 6 = 5 ∧ sI M 15 (10 * kk + mo / 6) ≠ 0))) ∧ x9 = nI v9 ∧ σ = σ') (fun x9 σ' H locs hj9 hP hD hS => ?_) (fun k227 => ?_)
          · obtain ⟨lt, hlt, rfl, rfl⟩ := hj9
            refine lv_istore (lv' := [(19, .int (nI lt)), (17, .long nw), (16, .int al), (15, .int (nI 1)), (14, .int (nI kk)), (13, .int (nI w56)), (12, .int (nI mo)), (10, .long (-987654321987654321)), (0, .ref x), (1, .int y), (2, .ref (ad 0)), (3, .ref (ad 1)), (4, .ref (ad 2)), (5, .ref (ad 3)), (6, .ref (ad 4)), (7, .ref (ad 5)), (8, .ref (ad 6)), (9, .ref (ad 7))]) hx hb dL_tells_227 hl (by decide) rfl (fun ls hl => ?_)
            refine lv_aload_n hx hb dL_tells_229 rfl (lv_at hl 8 rfl) ?_
            refine lv_iconst (v := nI 0) hx hb dL_tells_230 (by decide) ?_
            refine lv_iload hx hb dL_tells_231 (lv_at hl 4 rfl) ?_
            refine lv_iconst (v := nI 0) hx hb dL_tells_233 (by decide) ?_
            refine sg_xcalli hD hS hA (vx_runSX (As := [.ref x, .int (nI 0), .int (nI kk), .int (nI 0)]) (rest := []) ⟨hx, hb, hml, hown, hts⟩ (c_L_of0 l hfl D Y _ _ x M N t c (nI kk) (nI 0) hXX hc (gI G 2 (8 + kk)) (by rw [ek]; exact hL.at (by omega) (show mP 8 6 by unfold mP; omega))) (vx_cwSW 4 hts gL_tells_L_of rfl rfl rfl (by decide +kernel) ⟨(Nat.le_of_ble_eq_true rfl), (Nat.le_of_ble_eq_true rfl)⟩) (lh_preS hK hP hD hN hC hX hS hA) rfl rfl hl.1 rfl (lv_room (Nat.le_of_ble_eq_true rfl)) dL_tells_234 ⟨by show 19 * kk + 1 ≤ 100; omega, by show 114 * kk + 6 ≤ 600; omega⟩) (fun E ce q9 H locs hpx hP hD hS hce hcv hcl => False.elim hpx) (fun r9 σ' H locs hw9 hP hD hS => ?_)
            obtain ⟨-, e9, rfl⟩ := hw9.resolve_left (fun z => z.1 hvi)
            refine lv_iload hx hb dL_tells_237 (lv_at hl 3 rfl) ?_
            refine lw_if_eq (tgt := 253) (a := 1) hx hb dL_tells_239 (by decide) (by omega) (fun c239 => ?_) (fun c239 => ?_)
            · exfalso; omega
            · skip
              refine lv_aload hx hb dL_tells_242 (lv_at hl 12 rfl) ?_
              refine lv_bipush (v := nI 8) hx hb dL_tells_244 (by decide) ?_
              refine lv_iload hx hb dL_tells_246 (lv_at hl 4 rfl) ?_
              refine lw_iadd (a := 8) (b := kk) hx hb dL_tells_248 ?_
              refine lw_iald hx hb hK hP hG.a2 (k := 8 + kk) (by omega) (v := gI G 2 (8 + kk)) (rfl) dL_tells_249 ?_
              refine lv_goto (tgt := 255) hx hb dL_tells_250 (by decide) ?_
              refine lv_icmp_ne (tgt := 370) hx hb dL_tells_255 (by decide) (fun c255 => ?_) (fun c255 => ?_)
              · exact absurd e9 c255
              · skip
                refine lv_aload_n hx hb dL_tells_258 rfl (lv_at hl 8 rfl) ?_
                refine lv_iconst (v := nI 1) hx hb dL_tells_259 (by decide) ?_
                refine lv_iload hx hb dL_tells_260 (lv_at hl 4 rfl) ?_
                refine lv_iconst (v := nI 0) hx hb dL_tells_262 (by decide) ?_
                refine sg_xcalli hD hS hA (vx_runSX (As := [.ref x, .int (nI 1), .int (nI kk), .int (nI 0)]) (rest := []) ⟨hx, hb, hml, hown, hts⟩ (c_L_of1 l hfl D Y _ _ x M N t c (nI kk) (nI 0) hXX hc (gI G 2 (12 + kk)) (by rw [ek]; exact hL.at (by omega) (show mP 12 10 by unfold mP; omega))) (vx_cwSW 4 hts gL_tells_L_of rfl rfl rfl (by decide +kernel) ⟨(Nat.le_of_ble_eq_true rfl), (Nat.le_of_ble_eq_true rfl)⟩) (lh_preS hK hP hD hN hC hX hS hA) rfl rfl hl.1 rfl (lv_room (Nat.le_of_ble_eq_true rfl)) dL_tells_263 ⟨by show 19 * kk + 1 + 1 ≤ 100; omega, by show 114 * kk + 6 + 6 ≤ 600; omega⟩) (fun E ce q9 H locs hpx hP hD hS hce hcv hcl => False.elim hpx) (fun r9 σ' H locs hw9 hP hD hS => ?_)
                obtain ⟨-, e9, rfl⟩ := hw9.resolve_left (fun z => z.1 hvi)
                refine lv_iload hx hb dL_tells_266 (lv_at hl 3 rfl) ?_
                refine lw_if_eq (tgt := 282) (a := 1) hx hb dL_tells_268 (by decide) (by omega) (fun c268 => ?_) (fun c268 => ?_)
                · exfalso; omega
                · skip
                  refine lv_aload hx hb dL_tells_271 (lv_at hl 12 rfl) ?_
                  refine lv_bipush (v := nI 12) hx hb dL_tells_273 (by decide) ?_
                  refine lv_iload hx hb dL_tells_275 (lv_at hl 4 rfl) ?_
                  refine lw_iadd (a := 12) (b := kk) hx hb dL_tells_277 ?_
                  refine lw_iald hx hb hK hP hG.a2 (k := 12 + kk) (by omega) (v := gI G 2 (12 + kk)) (rfl) dL_tells_278 ?_
                  refine lv_goto (tgt := 284) hx hb dL_tells_279 (by decide) ?_
                  refine lv_icmp_ne (tgt := 370) hx hb dL_tells_284 (by decide) (fun c284 => ?_) (fun c284 => ?_)
                  · exact absurd e9 c284
                  · skip
                    refine lv_aload_n hx hb dL_tells_287 rfl (lv_at hl 8 rfl) ?_
                    refine lv_iconst (v := nI 2) hx hb dL_tells_288 (by decide) ?_
                    refine lv_iload hx hb dL_tells_289 (lv_at hl 4 rfl) ?_
                    refine lv_iconst (v := nI 0) hx hb dL_tells_291 (by decide) ?_
                    refine sg_xcalli hD hS hA (vx_runSX (As := [.ref x, .int (nI 2), .int (nI kk), .int (nI 0)]) (rest := []) ⟨hx, hb, hml, hown, hts⟩ (c_L_of2 l hfl D Y _ _ x M N t c (nI kk) (nI 0) hXX hc (gI G 1 ff) (by rw [ek, eff, show tN (nI ff) = ff from nI_clamp (by omega)]; exact eP ff hff)) (vx_cwSW 4 hts gL_tells_L_of rfl rfl rfl (by decide +kernel) ⟨(Nat.le_of_ble_eq_true rfl), (Nat.le_of_ble_eq_true rfl)⟩) (lh_preS hK hP hD hN hC hX hS hA) rfl rfl hl.1 rfl (lv_room (Nat.le_of_ble_eq_true rfl)) dL_tells_292 ⟨by show 19 * kk + 1 + 1 + 1 ≤ 100; omega, by show 114 * kk + 6 + 6 + 6 ≤ 600; omega⟩) (fun E ce q9 H locs hpx hP hD hS hce hcv hcl => False.elim hpx) (fun r9 σ' H locs hw9 hP hD hS => ?_)
                    obtain ⟨-, e9, rfl⟩ := hw9.resolve_left (fun z => z.1 hvi)
                    refine lv_iload hx hb dL_tells_295 (lv_at hl 3 rfl) ?_
                    refine lw_if_eq (tgt := 313) (a := 1) hx hb dL_tells_297 (by decide) (by omega) (fun c297 => ?_) (fun c297 => ?_)
                    · exfalso; omega
                    · skip
                      refine lv_aload_n hx hb dL_tells_300 rfl (lv_at hl 11 rfl) ?_
                      refine lv_aload hx hb dL_tells_301 (lv_at hl 12 rfl) ?_
                      refine lv_bipush (v := nI 12) hx hb dL_tells_303 (by decide) ?_
                      refine lv_iload hx hb dL_tells_305 (lv_at hl 4 rfl) ?_
                      refine lw_iadd (a := 12) (b := kk) hx hb dL_tells_307 ?_
                      refine lw_iald hx hb hK hP hG.a2 (k := 12 + kk) (by omega) (v := nI ff) ((hL.at (by omega) (show mP 12 10 by unfold mP; omega)).trans eff) dL_tells_308 ?_
                      refine lw_iald hx hb hK hP hG.a1 (k := ff) (by omega) (v := gI G 1 ff) (rfl) dL_tells_309 ?_
                      refine lv_goto (tgt := 315) hx hb dL_tells_310 (by decide) ?_
                      refine lv_icmp_ne (tgt := 370) hx hb dL_tells_315 (by decide) (fun c315 => ?_) (fun c315 => ?_)
                      · exact absurd e9 c315
                      · skip
                        refine lv_aload_n hx hb dL_tells_318 rfl (lv_at hl 8 rfl) ?_
                        refine lv_iconst (v := nI 3) hx hb dL_tells_319 (by decide) ?_
                        refine lv_iload hx hb dL_tells_320 (lv_at hl 4 rfl) ?_
                        refine lv_iconst (v := nI 0) hx hb dL_tells_322 (by decide) ?_
                        refine sg_xcalli hD hS hA (vx_runSX (As := [.ref x, .int (nI 3), .int (nI kk), .int (nI 0)]) (rest := []) ⟨hx, hb, hml, hown, hts⟩ (c_L_of3 l hfl D Y _ _ x M N t c (nI kk) (nI 0) hXX hc (gI G 2 (20 + kk)) (by rw [ek]; exact hL.at (by omega) (show mP 20 12 by unfold mP; omega))) (vx_cwSW 4 hts gL_tells_L_of rfl rfl rfl (by decide +kernel) ⟨(Nat.le_of_ble_eq_true rfl), (Nat.le_of_ble_eq_true rfl)⟩) (lh_preS hK hP hD hN hC hX hS hA) rfl rfl hl.1 rfl (lv_room (Nat.le_of_ble_eq_true rfl)) dL_tells_323 ⟨by show 19 * kk + 1 + 1 + 1 + 1 ≤ 100; omega, by show 114 * kk + 6 + 6 + 6 + 6 ≤ 600; omega⟩) (fun E ce q9 H locs hpx hP hD hS hce hcv hcl => False.elim hpx) (fun r9 σ' H locs hw9 hP hD hS => ?_)
                        obtain ⟨-, e9, rfl⟩ := hw9.resolve_left (fun z => z.1 hvi)
                        refine lv_iload hx hb dL_tells_326 (lv_at hl 3 rfl) ?_
                        refine lw_if_eq (tgt := 342) (a := 1) hx hb dL_tells_328 (by decide) (by omega) (fun c328 => ?_) (fun c328 => ?_)
                        · exfalso; omega
                        · skip
                          refine lv_aload hx hb dL_tells_331 (lv_at hl 12 rfl) ?_
                          refine lv_bipush (v := nI 20) hx hb dL_tells_333 (by decide) ?_
                          refine lv_iload hx hb dL_tells_335 (lv_at hl 4 rfl) ?_
                          refine lw_iadd (a := 20) (b := kk) hx hb dL_tells_337 ?_
                          refine lw_iald hx hb hK hP hG.a2 (k := 20 + kk) (by omega) (v := gI G 2 (20 + kk)) (rfl) dL_tells_338 ?_
                          refine lv_goto (tgt := 344) hx hb dL_tells_339 (by decide) ?_
                          refine lv_icmp_ne (tgt := 370) hx hb dL_tells_344 (by decide) (fun c344 => ?_) (fun c344 => ?_)
                          · exact absurd e9 c344
                          · skip
                            refine lv_aload_n hx hb dL_tells_347 rfl (lv_at hl 8 rfl) ?_
                            refine lv_iconst (v := nI 4) hx hb dL_tells_348 (by decide) ?_
                            refine lv_iload hx hb dL_tells_349 (lv_at hl 4 rfl) ?_
                            refine lv_iconst (v := nI 0) hx hb dL_tells_351 (by decide) ?_
                            refine sg_xcalli hD hS hA (vx_runSX (As := [.ref x, .int (nI 4), .int (nI kk), .int (nI 0)]) (rest := []) ⟨hx, hb, hml, hown, hts⟩ (c_L_of4 l hfl D Y _ _ x M N t c (nI kk) (nI 0) hXX hc al (by rw [ek]; exact hal)) (vx_cwSW 4 hts gL_tells_L_of rfl rfl rfl (by decide +kernel) ⟨(Nat.le_of_ble_eq_true rfl), (Nat.le_of_ble_eq_true rfl)⟩) (lh_preS hK hP hD hN hC hX hS hA) rfl rfl hl.1 rfl (lv_room (Nat.le_of_ble_eq_true rfl)) dL_tells_352 ⟨by show 19 * kk + 1 + 1 + 1 + 1 + 1 ≤ 100; omega, by show 114 * kk + 6 + 6 + 6 + 6 + 6 ≤ 600; omega⟩) (fun E ce q9 H locs hpx hP hD hS hce hcv hcl => False.elim hpx) (fun r9 σ' H locs hw9 hP hD hS => ?_)
                            obtain ⟨-, e9, rfl⟩ := hw9.resolve_left (fun z => z.1 hvi)
                            refine lv_iload hx hb dL_tells_355 (lv_at hl 3 rfl) ?_
                            refine lw_if_eq (tgt := 365) (a := 1) hx hb dL_tells_357 (by decide) (by omega) (fun c357 => ?_) (fun c357 => ?_)
                            · exfalso; omega
                            · skip
                              refine lv_iload hx hb dL_tells_360 (lv_at hl 2 rfl) ?_
                              refine lv_goto (tgt := 367) hx hb dL_tells_362 (by decide) ?_
                              refine lv_icmp_eq (tgt := 372) hx hb dL_tells_367 (by decide) (fun c367 => ?_) (fun c367 => ?_)
                              · skip
                                refine sg_cutw (D := D) hS (j := 479) (ls := ls) (rest := []) (19 * kk + 1 + 1 + 1 + 1 + 1 + 3 + 3) (114 * kk + 6 + 6 + 6 + 6 + 6 + 18 + 18) (fun σ' => σ = σ') (fun σ' H locs hj9 hP hD hS => ?_) (fun k479 => ?_)
                                · obtain rfl := hj9
                                  refine sg_cutw (D := D) hS (j := 520) (ls := ls) (rest := []) (19 * kk + 1 + 1 + 1 + 1 + 1 + 3 + 3 + 3) (114 * kk + 6 + 6 + 6 + 6 + 6 + 18 + 18 + 18) (fun σ' => σ = σ') (fun σ' H locs hj9 hP hD hS => ?_) (fun k520 => ?_)
                                  · obtain rfl := hj9
                                    refine lv_aload_n hx hb dL_tells_520 rfl (lv_at hl 8 rfl) ?_
                                    refine lv_iconst (v := nI 1) hx hb dL_tells_521 (by decide) ?_
                                    refine lv_iload hx hb dL_tells_522 (lv_at hl 4 rfl) ?_
                                    refine lv_iconst (v := nI 0) hx hb dL_tells_524 (by decide) ?_
                                    refine sg_xcalll hD hS hA (vx_runSX (As := [.ref x, .int (nI 1), .int (nI kk), .int (nI 0)]) (rest := []) ⟨hx, hb, hml, hown, hts⟩ (c_L_sum1 l hfl D Y _ _ x M N t c (nI kk) (nI 0) hXX hc (gX G kk) (by rw [ek, egx]; exact hXX.kept (by omega))) (vx_cwSW 4 hts gL_tells_L_sum rfl rfl rfl (by decide +kernel) ⟨(Nat.le_of_ble_eq_true rfl), (Nat.le_of_ble_eq_true rfl)⟩) (lh_preS hK hP hD hN hC hX hS hA) rfl rfl hl.1 rfl (lv_room (Nat.le_of_ble_eq_true rfl)) dL_tells_525 ⟨by show 19 * kk + 1 + 1 + 1 + 1 + 1 + 3 + 3 + 3 + 1 ≤ 100; omega, by show 114 * kk + 6 + 6 + 6 + 6 + 6 + 18 + 18 + 18 + 6 ≤ 600; omega⟩) (fun E ce q9 H locs hpx hP hD hS hce hcv hcl => False.elim hpx) (fun r9 σ' H locs hw9 hP hD hS => ?_)
                                    obtain ⟨-, e9, rfl⟩ := hw9.resolve_left (fun z => z.1 hvi)
                                    refine lv_iload hx hb dL_tells_528 (lv_at hl 3 rfl) ?_
                                    refine lw_if_eq (tgt := 541) (a := 1) hx hb dL_tells_530 (by decide) (by omega) (fun c530 => ?_) (fun c530 => ?_)
                                    · exfalso; omega
                                    · skip
                                      refine lv_aload hx hb dL_tells_533 (lv_at hl 17 rfl) ?_
                                      refine lv_iload hx hb dL_tells_535 (lv_at hl 4 rfl) ?_
                                      refine lw_lald hx hb hK hP hG.a7 (k := kk) (by omega) (v := gX G kk) (rfl) dL_tells_537 ?_
                                      refine lv_goto (tgt := 543) hx hb dL_tells_538 (by decide) ?_
                                      refine W.lcmp hx hb dL_tells_543 ?_
                                      refine lv_if_ne (tgt := 658) hx hb dL_tells_544 (by decide) (fun c544 => ?_) (fun c544 => ?_)
                                      · exact absurd ((lg_cmp_eq _ _).mpr e9) c544
                                      · skip
                                        refine lv_aload_n hx hb dL_tells_547 rfl (lv_at hl 8 rfl) ?_
                                        refine lv_iconst (v := nI 2) hx hb dL_tells_548 (by decide) ?_
                                        refine lv_iload hx hb dL_tells_549 (lv_at hl 4 rfl) ?_
                                        refine lv_iconst (v := nI 0) hx hb dL_tells_551 (by decide) ?_
                                        refine sg_xcalll hD hS hA (vx_runSX (As := [.ref x, .int (nI 2), .int (nI kk), .int (nI 0)]) (rest := []) ⟨hx, hb, hml, hown, hts⟩ (c_L_sum2 l hfl D Y _ _ x M N t c (nI kk) (nI 0) hXX hc (gX G kk) (by rw [ek]; exact egx)) (vx_cwSW 4 hts gL_tells_L_sum rfl rfl rfl (by decide +kernel) ⟨(Nat.le_of_ble_eq_true rfl), (Nat.le_of_ble_eq_true rfl)⟩) (lh_preS hK hP hD hN hC hX hS hA) rfl rfl hl.1 rfl (lv_room (Nat.le_of_ble_eq_true rfl)) dL_tells_552 ⟨by show 19 * kk + 1 + 1 + 1 + 1 + 1 + 3 + 3 + 3 + 1 + 1 ≤ 100; omega, by show 114 * kk + 6 + 6 + 6 + 6 + 6 + 18 + 18 + 18 + 6 + 6 ≤ 600; omega⟩) (fun E ce q9 H locs hpx hP hD hS hce hcv hcl => False.elim hpx) (fun r9 σ' H locs hw9 hP hD hS => ?_)
                                        obtain ⟨-, e9, rfl⟩ := hw9.resolve_left (fun z => z.1 hvi)
                                        refine lv_iload hx hb dL_tells_555 (lv_at hl 3 rfl) ?_
                                        refine lw_if_eq (tgt := 568) (a := 1) hx hb dL_tells_557 (by decide) (by omega) (fun c557 => ?_) (fun c557 => ?_)
                                        · exfalso; omega
                                        · skip
                                          refine lv_aload hx hb dL_tells_560 (lv_at hl 17 rfl) ?_
                                          refine lv_iload hx hb dL_tells_562 (lv_at hl 4 rfl) ?_
                                          refine lw_lald hx hb hK hP hG.a7 (k := kk) (by omega) (v := gX G kk) (rfl) dL_tells_564 ?_
                                          refine lv_goto (tgt := 570) hx hb dL_tells_565 (by decide) ?_
                                          refine W.lcmp hx hb dL_tells_570 ?_
                                          refine lv_if_ne (tgt := 658) hx hb dL_tells_571 (by decide) (fun c571 => ?_) (fun c571 => ?_)
                                          · exact absurd ((lg_cmp_eq _ _).mpr e9) c571
                                          · skip
                                            refine lv_aload_n hx hb dL_tells_574 rfl (lv_at hl 8 rfl) ?_
                                            refine lv_iconst (v := nI 3) hx hb dL_tells_575 (by decide) ?_
                                            refine lv_iload hx hb dL_tells_576 (lv_at hl 4 rfl) ?_
                                            refine lv_iconst (v := nI 0) hx hb dL_tells_578 (by decide) ?_
                                            refine sg_xcalll hD hS hA (vx_runSX (As := [.ref x, .int (nI 3), .int (nI kk), .int (nI 0)]) (rest := []) ⟨hx, hb, hml, hown, hts⟩ (c_L_sum3 l hfl D Y _ _ x M N t c (nI kk) (nI 0) hXX hc (gX G (8 + kk)) (by rw [ek]; exact hL.xat (by omega) (show xP 8 13 by unfold xP; omega))) (vx_cwSW 4 hts gL_tells_L_sum rfl rfl rfl (by decide +kernel) ⟨(Nat.le_of_ble_eq_true rfl), (Nat.le_of_ble_eq_true rfl)⟩) (lh_preS hK hP hD hN hC hX hS hA) rfl rfl hl.1 rfl (lv_room (Nat.le_of_ble_eq_true rfl)) dL_tells_579 ⟨by show 19 * kk + 1 + 1 + 1 + 1 + 1 + 3 + 3 + 3 + 1 + 1 + 1 ≤ 100; omega, by show 114 * kk + 6 + 6 + 6 + 6 + 6 + 18 + 18 + 18 + 6 + 6 + 6 ≤ 600; omega⟩) (fun E ce q9 H locs hpx hP hD hS hce hcv hcl => False.elim hpx) (fun r9 σ' H locs hw9 hP hD hS => ?_)
                                            obtain ⟨-, e9, rfl⟩ := hw9.resolve_left (fun z => z.1 hvi)
                                            refine lv_iload hx hb dL_tells_582 (lv_at hl 3 rfl) ?_
                                            refine lw_if_eq (tgt := 598) (a := 1) hx hb dL_tells_584 (by decide) (by omega) (fun c584 => ?_) (fun c584 => ?_)
                                            · exfalso; omega
                                            · skip
                                              refine lv_aload hx hb dL_tells_587 (lv_at hl 17 rfl) ?_
                                              refine lv_bipush (v := nI 8) hx hb dL_tells_589 (by decide) ?_
                                              refine lv_iload hx hb dL_tells_591 (lv_at hl 4 rfl) ?_
                                              refine lw_iadd (a := 8) (b := kk) hx hb dL_tells_593 ?_
                                              refine lw_lald hx hb hK hP hG.a7 (k := 8 + kk) (by omega) (v := gX G (8 + kk)) (rfl) dL_tells_594 ?_
                                              refine lv_goto (tgt := 600) hx hb dL_tells_595 (by decide) ?_
                                              refine W.lcmp hx hb dL_tells_600 ?_
                                              refine lv_if_ne (tgt := 658) hx hb dL_tells_601 (by decide) (fun c601 => ?_) (fun c601 => ?_)
                                              · exact absurd ((lg_cmp_eq _ _).mpr e9) c601
                                              · skip
                                                refine lv_aload_n hx hb dL_tells_604 rfl (lv_at hl 8 rfl) ?_
                                                refine lv_iconst (v := nI 4) hx hb dL_tells_605 (by decide) ?_
                                                refine lv_iload hx hb dL_tells_606 (lv_at hl 4 rfl) ?_
                                                refine lv_iconst (v := nI 0) hx hb dL_tells_608 (by decide) ?_
                                                refine sg_xcalll hD hS hA (vx_runSX (As := [.ref x, .int (nI 4), .int (nI kk), .int (nI 0)]) (rest := []) ⟨hx, hb, hml, hown, hts⟩ (c_L_sum4 l hfl D Y _ _ x M N t c (nI kk) (nI 0) hXX hc (gX G (12 + kk)) (by rw [ek]; exact hL.xat (by omega) (show xP 12 14 by unfold xP; omega))) (vx_cwSW 4 hts gL_tells_L_sum rfl rfl rfl (by decide +kernel) ⟨(Nat.le_of_ble_eq_true rfl), (Nat.le_of_ble_eq_true rfl)⟩) (lh_preS hK hP hD hN hC hX hS hA) rfl rfl hl.1 rfl (lv_room (Nat.le_of_ble_eq_true rfl)) dL_tells_609 ⟨by show 19 * kk + 1 + 1 + 1 + 1 + 1 + 3 + 3 + 3 + 1 + 1 + 1 + 1 ≤ 100; omega, by show 114 * kk + 6 + 6 + 6 + 6 + 6 + 18 + 18 + 18 + 6 + 6 + 6 + 6 ≤ 600; omega⟩) (fun E ce q9 H locs hpx hP hD hS hce hcv hcl => False.elim hpx) (fun r9 σ' H locs hw9 hP hD hS => ?_)
                                                obtain ⟨-, e9, rfl⟩ := hw9.resolve_left (fun z => z.1 hvi)
                                                refine lv_iload hx hb dL_tells_612 (lv_at hl 3 rfl) ?_
                                                refine lw_if_eq (tgt := 628) (a := 1) hx hb dL_tells_614 (by decide) (by omega) (fun c614 => ?_) (fun c614 => ?_)
                                                · exfalso; omega
                                                · skip
                                                  refine lv_aload hx hb dL_tells_617 (lv_at hl 17 rfl) ?_
                                                  refine lv_bipush (v := nI 12) hx hb dL_tells_619 (by decide) ?_
                                                  refine lv_iload hx hb dL_tells_621 (lv_at hl 4 rfl) ?_
                                                  refine lw_iadd (a := 12) (b := kk) hx hb dL_tells_623 ?_
                                                  refine lw_lald hx hb hK hP hG.a7 (k := 12 + kk) (by omega) (v := gX G (12 + kk)) (rfl) dL_tells_624 ?_
                                                  refine lv_goto (tgt := 630) hx hb dL_tells_625 (by decide) ?_
                                                  refine W.lcmp hx hb dL_tells_630 ?_
                                                  refine lv_if_ne (tgt := 658) hx hb dL_tells_631 (by decide) (fun c631 => ?_) (fun c631 => ?_)
                                                  · exact absurd ((lg_cmp_eq _ _).mpr e9) c631
                                                  · skip
                                                    refine lv_aload_n hx hb dL_tells_634 rfl (lv_at hl 8 rfl) ?_
                                                    refine lv_iconst (v := nI 5) hx hb dL_tells_635 (by decide) ?_
                                                    refine lv_iload hx hb dL_tells_636 (lv_at hl 4 rfl) ?_
                                                    refine lv_iconst (v := nI 0) hx hb dL_tells_638 (by decide) ?_
                                                    refine sg_xcalll hD hS hA (vx_runSX (As := [.ref x, .int (nI 5), .int (nI kk), .int (nI 0)]) (rest := []) ⟨hx, hb, hml, hown, hts⟩ (c_L_sum5 l hfl D Y _ _ x M N t c (nI kk) (nI 0) hXX hc nw (by rw [ek]; exact hnw)) (vx_cwSW 4 hts gL_tells_L_sum rfl rfl rfl (by decide +kernel) ⟨(Nat.le_of_ble_eq_true rfl), (Nat.le_of_ble_eq_true rfl)⟩) (lh_preS hK hP hD hN hC hX hS hA) rfl rfl hl.1 rfl (lv_room (Nat.le_of_ble_eq_true rfl)) dL_tells_639 ⟨by show 19 * kk + 1 + 1 + 1 + 1 + 1 + 3 + 3 + 3 + 1 + 1 + 1 + 1 + 1 ≤ 100; omega, by show 114 * kk + 6 + 6 + 6 + 6 + 6 + 18 + 18 + 18 + 6 + 6 + 6 + 6 + 6 ≤ 600; omega⟩) (fun E ce q9 H locs hpx hP hD hS hce hcv hcl => False.elim hpx) (fun r9 σ' H locs hw9 hP hD hS => ?_)
                                                    obtain ⟨-, e9, rfl⟩ := hw9.resolve_left (fun z => z.1 hvi)
                                                    refine lv_iload hx hb dL_tells_642 (lv_at hl 3 rfl) ?_
                                                    refine lw_if_eq (tgt := 652) (a := 1) hx hb dL_tells_644 (by decide) (by omega) (fun c644 => ?_) (fun c644 => ?_)
                                                    · exfalso; omega
                                                    · skip
                                                      refine lv_lload hx hb dL_tells_647 (lv_at hl 1 rfl) ?_
                                                      refine lv_goto (tgt := 654) hx hb dL_tells_649 (by decide) ?_
                                                      refine W.lcmp hx hb dL_tells_654 ?_
                                                      refine lv_if_eq (tgt := 660) hx hb dL_tells_655 (by decide) (fun c655 => ?_) (fun c655 => ?_)
                                                      · skip
                                                        refine lv_iload hx hb dL_tells_660 (lv_at hl 3 rfl) ?_
                                                        refine lw_if_eq (tgt := 703) (a := 1) hx hb dL_tells_662 (by decide) (by omega) (fun c662 => ?_) (fun c662 => ?_)
                                                        · exfalso; omega
                                                        · skip
                                                          have hac9 : gX G kk = gX G (4 + kk) + (gI G 2 (8 + kk)).toInt64 + (gI G 2 (24 + kk)).toInt64 := by rw [egx, hL.xat (by omega) (show xP 4 8 by unfold xP; omega), hL.at (by omega) (show mP 8 6 by unfold mP; omega), hL.at (by omega) (show mP 24 7 by unfold mP; omega)]; exact hXX.kept (by omega)
                                                          refine lv_aload hx hb dL_tells_665 (lv_at hl 17 rfl) ?_
                                                          refine lv_iload hx hb dL_tells_667 (lv_at hl 4 rfl) ?_
                                                          refine lw_lald hx hb hK hP hG.a7 (k := kk) (by omega) (v := gX G kk) (rfl) dL_tells_669 ?_
                                                          refine lv_aload hx hb dL_tells_670 (lv_at hl 17 rfl) ?_
                                                          refine lv_iconst (v := nI 4) hx hb dL_tells_672 (by decide) ?_
                                                          refine lv_iload hx hb dL_tells_673 (lv_at hl 4 rfl) ?_
                                                          refine lw_iadd (a := 4) (b := kk) hx hb dL_tells_675 ?_
                                                          refine lw_lald hx hb hK hP hG.a7 (k := 4 + kk) (by omega) (v := gX G (4 + kk)) (rfl) dL_tells_676 ?_
                                                          refine lv_aload hx hb dL_tells_677 (lv_at hl 12 rfl) ?_
                                                          refine lv_bipush (v := nI 8) hx hb dL_tells_679 (by decide) ?_
                                                          refine lv_iload hx hb dL_tells_681 (lv_at hl 4 rfl) ?_
                                                          refine lw_iadd (a := 8) (b := kk) hx hb dL_tells_683 ?_
                                                          refine lw_iald hx hb hK hP hG.a2 (k := 8 + kk) (by omega) (v := gI G 2 (8 + kk)) (rfl) dL_tells_684 ?_
                                                          refine lv_i2l hx hb dL_tells_685 rfl ?_
                                                          refine lv_ladd hx hb dL_tells_686 ?_
                                                          refine lv_aload hx hb dL_tells_687 (lv_at hl 12 rfl) ?_
                                                          refine lv_bipush (v := nI 24) hx hb dL_tells_689 (by decide) ?_
                                                          refine lv_iload hx hb dL_tells_691 (lv_at hl 4 rfl) ?_
                                                          refine lw_iadd (a := 24) (b := kk) hx hb dL_tells_693 ?_
                                                          refine lw_iald hx hb hK hP hG.a2 (k := 24 + kk) (by omega) (v := gI G 2 (24 + kk)) (rfl) dL_tells_694 ?_
                                                          refine lv_i2l hx hb dL_tells_695 rfl ?_
                                                          refine lv_ladd hx hb dL_tells_696 ?_
                                                          refine W.lcmp hx hb dL_tells_697 ?_
                                                          refine lv_if_eq (tgt := 703) hx hb dL_tells_698 (by decide) (fun c698 => ?_) (fun c698 => ?_)
                                                          · skip
                                                            refine lv_iinc (v := nI (kk + 1)) (lv' := [(14, .int (nI (kk + 1))), (19, .int (nI lt)), (17, .long nw), (16, .int al), (15, .int (nI 1)), (13, .int (nI w56)), (12, .int (nI mo)), (10, .long (-987654321987654321)), (0, .ref x), (1, .int y), (2, .ref (ad 0)), (3, .ref (ad 1)), (4, .ref (ad 2)), (5, .ref (ad 3)), (6, .ref (ad 4)), (7, .ref (ad 5)), (8, .ref (ad 6)), (9, .ref (ad 7))]) hx hb dL_tells_703 hl (k := 4) rfl (nI_1 _) (by decide) rfl (fun ls hl => ?_)
                                                            refine lv_goto (tgt := 64) hx hb dL_tells_706 (by decide) ?_
                                                            exact ihO (n1O - 1) (kk + 1) _ _ _ _ _ _ (by omega) ⟨by omega, rfl, by omega, by omega⟩ hP hD hS (lv_sub hl [0, 5, 6, 7, 8, 9, 10, 11, 12, 13, 14, 15, 16, 17] rfl)
                                                          · exact absurd ((lg_cmp_eq _ _).mpr hac9) c698
                                                      · exact absurd ((lg_cmp_eq _ _).mpr e9) c655
                                  · skip
                                    by_cases hyr : w56 < 5
                                    · have hq4 : qIn (nI w56) 0 4 := (qn (a := 0) (b := 4) (by decide) (by decide) (by omega)).mpr ⟨by omega, by omega⟩
                                      refine lv_aload_n hx hb dL_tells_479 rfl (lv_at hl 8 rfl) ?_
                                      refine lv_iconst (v := nI 0) hx hb dL_tells_480 (by decide) ?_
                                      refine lv_iload hx hb dL_tells_481 (lv_at hl 4 rfl) ?_
                                      refine lv_iload hx hb dL_tells_483 (lv_at hl 5 rfl) ?_
                                      refine sg_xcalll hD hS hA (vx_runSX (As := [.ref x, .int (nI 0), .int (nI kk), .int (nI w56)]) (rest := []) ⟨hx, hb, hml, hown, hts⟩ (c_L_sum0 l hfl D Y _ _ x M N t c (nI kk) (nI w56) hXX hc (cntL G kk w56 10) (by rw [ek, show tN (nI w56) = w56 from nI_clamp (by omega)]; exact cnt_eq hL hIV (by omega) (by omega))) (vx_cwSW 4 hts gL_tells_L_sum rfl rfl rfl (by decide +kernel) ⟨(Nat.le_of_ble_eq_true rfl), (Nat.le_of_ble_eq_true rfl)⟩) (lh_preS hK hP hD hN hC hX hS hA) rfl rfl hl.1 rfl (lv_room (Nat.le_of_ble_eq_true rfl)) dL_tells_485 ⟨by show 19 * kk + 1 + 1 + 1 + 1 + 1 + 3 + 3 + 3 ≤ 100; omega, by show 114 * kk + 6 + 6 + 6 + 6 + 6 + 18 + 18 + 18 ≤ 600; omega⟩) (fun E ce q9 H locs hpx hP hD hS hce hcv hcl => False.elim hpx) (fun r9 σ' H locs hw9 hP hD hS => ?_)
                                      obtain ⟨-, e9, rfl⟩ := hw9.resolve_left (fun z => z.1 ⟨hvi, hq4⟩)
                                      refine lv_iload hx hb dL_tells_488 (lv_at hl 3 rfl) ?_
                                      refine lw_if_eq (tgt := 514) (a := 1) hx hb dL_tells_490 (by decide) (by omega) (fun c490 => ?_) (fun c490 => ?_)
                                      · exfalso; omega
                                      · skip
                                        refine lv_iload hx hb dL_tells_493 (lv_at hl 5 rfl) ?_
                                        refine lv_iconst (v := nI 5) hx hb dL_tells_495 (by decide) ?_
                                        refine lw_icmp_ge (tgt := 514) (a := w56) (b := 5) hx hb dL_tells_496 (by decide) (by omega) (by omega) (fun c496 => ?_) (fun c496 => ?_)
                                        · exfalso; omega
                                        · skip
                                          refine lv_aload_n hx hb dL_tells_499 rfl (lv_at hl 11 rfl) ?_
                                          refine lv_aload hx hb dL_tells_500 (lv_at hl 13 rfl) ?_
                                          refine lv_aload hx hb dL_tells_502 (lv_at hl 16 rfl) ?_
                                          refine lv_iload hx hb dL_tells_504 (lv_at hl 4 rfl) ?_
                                          refine lv_iload hx hb dL_tells_506 (lv_at hl 5 rfl) ?_
                                          refine sg_calll hD hS hA (va_runS (As := [.ref (ad 1), .ref (ad 3), .ref (ad 6), .int (nI kk), .int (nI w56)]) (rest := [.long r9]) ⟨hx, hb, hml, hown, hts⟩ (c_L_counted l D Y _ _ ad G kk w56 (by omega) (by omega) hG hfr) (va_cwS 5 hts gL_tells_L_counted rfl rfl rfl (by decide +kernel) ⟨(Nat.le_of_ble_eq_true rfl), (Nat.le_of_ble_eq_true rfl)⟩) (sg_preS hK hP hD hN hX hS hA) rfl rfl hl.1 rfl (lv_room (Nat.le_of_ble_eq_true rfl)) dL_tells_508 ⟨by show 19 * kk + 1 + 1 + 1 + 1 + 1 + 3 + 3 + 3 + 0 ≤ 100; omega, by show 114 * kk + 6 + 6 + 6 + 6 + 6 + 18 + 18 + 18 + 0 ≤ 600; omega⟩) (fun r8 σ' H locs hw9 hP hD hS => ?_)
                                          obtain ⟨e8, rfl⟩ := hw9
                                          refine lv_goto (tgt := 516) hx hb dL_tells_511 (by decide) ?_
                                          refine W.lcmp hx hb dL_tells_516 ?_
                                          refine lv_if_ne (tgt := 658) hx hb dL_tells_517 (by decide) (fun c517 => ?_) (fun c517 => ?_)
                                          · exact absurd ((lg_cmp_eq _ _).mpr (e9.trans e8.symm)) c517
                                          · skip
                                            exact k520 _ _ _ (rfl) hP hD hS
                                    · have hnq : ¬ qIn (nI w56) 0 4 := fun z => hyr (by have := ((qn (a := 0) (b := 4) (by decide) (by decide) (by omega)).mp z).2; omega)
                                      refine lv_aload_n hx hb dL_tells_479 rfl (lv_at hl 8 rfl) ?_
                                      refine lv_iconst (v := nI 0) hx hb dL_tells_480 (by decide) ?_
                                      refine lv_iload hx hb dL_tells_481 (lv_at hl 4 rfl) ?_
                                      refine lv_iload hx hb dL_tells_483 (lv_at hl 5 rfl) ?_
                                      refine sg_xcalll hD hS hA (vx_runSX (As := [.ref x, .int (nI 0), .int (nI kk), .int (nI w56)]) (rest := []) ⟨hx, hb, hml, hown, hts⟩ (c_L_sum0 l hfl D Y _ _ x M N t c (nI kk) (nI w56) hXX hc _ (rfl)) (vx_cwSW 4 hts gL_tells_L_sum rfl rfl rfl (by decide +kernel) ⟨(Nat.le_of_ble_eq_true rfl), (Nat.le_of_ble_eq_true rfl)⟩) (lh_preS hK hP hD hN hC hX hS hA) rfl rfl hl.1 rfl (lv_room (Nat.le_of_ble_eq_true rfl)) dL_tells_485 ⟨by show 19 * kk + 1 + 1 + 1 + 1 + 1 + 3 + 3 + 3 ≤ 100; omega, by show 114 * kk + 6 + 6 + 6 + 6 + 6 + 18 + 18 + 18 ≤ 600; omega⟩) (fun E ce q9 H locs hpx hP hD hS hce hcv hcl => False.elim hpx) (fun r9 σ' H locs hw9 hP hD hS => ?_)
                                      obtain ⟨-, rfl, rfl⟩ := hw9.resolve_right (fun z => hnq z.1.2)
                                      refine lv_iload hx hb dL_tells_488 (lv_at hl 3 rfl) ?_
                                      refine lw_if_eq (tgt := 514) (a := 1) hx hb dL_tells_490 (by decide) (by omega) (fun c490 => ?_) (fun c490 => ?_)
                                      · exfalso; omega
                                      · skip
                                        refine lv_iload hx hb dL_tells_493 (lv_at hl 5 rfl) ?_
                                        refine lv_iconst (v := nI 5) hx hb dL_tells_495 (by decide) ?_
                                        refine lw_icmp_ge (tgt := 514) (a := w56) (b := 5) hx hb dL_tells_496 (by decide) (by omega) (by omega) (fun c496 => ?_) (fun c496 => ?_)
                                        · skip
                                          refine lv_lload hx hb dL_tells_514 (lv_at hl 7 rfl) ?_
                                          refine W.lcmp hx hb dL_tells_516 ?_
                                          refine lv_if_ne (tgt := 658) hx hb dL_tells_517 (by decide) (fun c517 => ?_) (fun c517 => ?_)
                                          · exact absurd ((lg_cmp_eq _ _).mpr rfl) c517
                                          · skip
                                            exact k520 _ _ _ (rfl) hP hD hS
                                        · exfalso; omega
                                · skip
                                  by_cases hmo : mo ≤ 59
                                  · have hq59 : qIn (nI mo) 0 59 := (qn (a := 0) (b := 59) (by decide) (by decide) (by omega)).mpr ⟨by omega, hmo⟩
                                    obtain ⟨bb, hbb, ebb⟩ := (hIV.2.2.2.2 (10 * kk + mo / 6) (by omega)).2.2.2.2
                                    rcases hlt with ⟨hf1, hf2, hf3, hf5⟩ | ⟨hf1, hf4⟩
                                    · skip
                                      refine lv_aload_n hx hb dL_tells_372 rfl (lv_at hl 8 rfl) ?_
                                      refine lv_iconst (v := nI 5) hx hb dL_tells_373 (by decide) ?_
                                      refine lv_iload hx hb dL_tells_374 (lv_at hl 4 rfl) ?_
                                      refine lv_iload hx hb dL_tells_376 (lv_at hl 6 rfl) ?_
                                      refine sg_xcalli hD hS hA (vx_runSX (As := [.ref x, .int (nI 5), .int (nI kk), .int (nI mo)]) (rest := []) ⟨hx, hb, hml, hown, hts⟩ (c_L_of5 l hfl D Y _ _ x M N t c (nI kk) (nI mo) hXX hc (gI G 3 (10 * kk + mo / 6)) ((eQ9 _ (by omega)).1.trans (rB_1 (by omega) hmo hf3).symm)) (vx_cwSW 4 hts gL_tells_L_of rfl rfl rfl (by decide +kernel) ⟨(Nat.le_of_ble_eq_true rfl), (Nat.le_of_ble_eq_true rfl)⟩) (lh_preS hK hP hD hN hC hX hS hA) rfl rfl hl.1 rfl (lv_room (Nat.le_of_ble_eq_true rfl)) dL_tells_378 ⟨by show 19 * kk + 1 + 1 + 1 + 1 + 1 + 3 ≤ 100; omega, by show 114 * kk + 6 + 6 + 6 + 6 + 6 + 18 ≤ 600; omega⟩) (fun E ce q9 H locs hpx hP hD hS hce hcv hcl => False.elim hpx) (fun r9 σ' H locs hw9 hP hD hS => ?_)
                                      obtain ⟨-, e9, rfl⟩ := hw9.resolve_left (fun z => z.1 ⟨hvi, hq59⟩)
                                      refine lv_iload hx hb dL_tells_381 (lv_at hl 3 rfl) ?_
                                      refine lw_if_eq (tgt := 393) (a := 1) hx hb dL_tells_383 (by decide) (by omega) (fun c383 => ?_) (fun c383 => ?_)
                                      · exfalso; omega
                                      · skip
                                        refine lv_iload hx hb dL_tells_386 (lv_at hl 6 rfl) ?_
                                        refine lv_bipush (v := nI 59) hx hb dL_tells_388 (by decide) ?_
                                        refine lw_icmp_le (tgt := 398) (a := mo) (b := 59) hx hb dL_tells_390 (by decide) (by omega) (by omega) (fun c390 => ?_) (fun c390 => ?_)
                                        · skip
                                          refine lv_iload hx hb dL_tells_398 (lv_at hl 0 rfl) ?_
                                          refine lw_if_eq (tgt := 420) (a := lt) hx hb dL_tells_400 (by decide) (by omega) (fun c400 => ?_) (fun c400 => ?_)
                                          · exfalso; omega
                                          · skip
                                            refine lv_aload hx hb dL_tells_403 (lv_at hl 13 rfl) ?_
                                            refine lv_bipush (v := nI 10) hx hb dL_tells_405 (by decide) ?_
                                            refine lv_iload hx hb dL_tells_407 (lv_at hl 4 rfl) ?_
                                            refine lw_imul (a := 10) (b := kk) hx hb dL_tells_409 ?_
                                            refine lv_iload hx hb dL_tells_410 (lv_at hl 6 rfl) ?_
                                            refine lv_bipush (v := nI 6) hx hb dL_tells_412 (by decide) ?_
                                            refine lw_idiv (a := mo) (b := 6) hx hb dL_tells_414 (by omega) (by decide) (by decide) ?_
                                            refine lw_iadd (a := 10 * kk) (b := mo / 6) hx hb dL_tells_415 ?_
                                            refine lw_iald hx hb hK hP hG.a3 (k := (10 * kk) + (mo / 6)) (by omega) (v := gI G 3 ((10 * kk) + (mo / 6))) (rfl) dL_tells_416 ?_
                                            refine lv_goto (tgt := 421) hx hb dL_tells_417 (by decide) ?_
                                            refine lv_icmp_ne (tgt := 477) hx hb dL_tells_421 (by decide) (fun c421 => ?_) (fun c421 => ?_)
                                            · exact absurd e9 c421
                                            · skip
                                              refine lv_aload_n hx hb dL_tells_424 rfl (lv_at hl 8 rfl) ?_
                                              refine lv_bipush (v := nI 6) hx hb dL_tells_425 (by decide) ?_
                                              refine lv_iload hx hb dL_tells_427 (lv_at hl 4 rfl) ?_
                                              refine lv_iload hx hb dL_tells_429 (lv_at hl 6 rfl) ?_
                                              refine sg_xcalli hD hS hA (vx_runSX (As := [.ref x, .int (nI 6), .int (nI kk), .int (nI mo)]) (rest := []) ⟨hx, hb, hml, hown, hts⟩ (c_L_of6 l hfl D Y _ _ x M N t c (nI kk) (nI mo) hXX hc (gI G 5 (10 * kk + mo / 6)) (((eQ9 _ (by omega)).2.2 hf5).1.trans (rP_1 (by omega) hmo hf3 hbb ebb hf5).symm)) (vx_cwSW 4 hts gL_tells_L_of rfl rfl rfl (by decide +kernel) ⟨(Nat.le_of_ble_eq_true rfl), (Nat.le_of_ble_eq_true rfl)⟩) (lh_preS hK hP hD hN hC hX hS hA) rfl rfl hl.1 rfl (lv_room (Nat.le_of_ble_eq_true rfl)) dL_tells_431 ⟨by show 19 * kk + 1 + 1 + 1 + 1 + 1 + 3 + 3 ≤ 100; omega, by show 114 * kk + 6 + 6 + 6 + 6 + 6 + 18 + 18 ≤ 600; omega⟩) (fun E ce q9 H locs hpx hP hD hS hce hcv hcl => False.elim hpx) (fun r9 σ' H locs hw9 hP hD hS => ?_)
                                              obtain ⟨-, e9, rfl⟩ := hw9.resolve_left (fun z => z.1 ⟨hvi, hq59⟩)
                                              refine lv_iload hx hb dL_tells_434 (lv_at hl 3 rfl) ?_
                                              refine lw_if_eq (tgt := 446) (a := 1) hx hb dL_tells_436 (by decide) (by omega) (fun c436 => ?_) (fun c436 => ?_)
                                              · exfalso; omega
                                              · skip
                                                refine lv_iload hx hb dL_tells_439 (lv_at hl 6 rfl) ?_
                                                refine lv_bipush (v := nI 59) hx hb dL_tells_441 (by decide) ?_
                                                refine lw_icmp_le (tgt := 451) (a := mo) (b := 59) hx hb dL_tells_443 (by decide) (by omega) (by omega) (fun c443 => ?_) (fun c443 => ?_)
                                                · skip
                                                  refine lv_iload hx hb dL_tells_451 (lv_at hl 0 rfl) ?_
                                                  refine lw_if_eq (tgt := 473) (a := lt) hx hb dL_tells_453 (by decide) (by omega) (fun c453 => ?_) (fun c453 => ?_)
                                                  · exfalso; omega
                                                  · skip
                                                    refine lv_aload hx hb dL_tells_456 (lv_at hl 15 rfl) ?_
                                                    refine lv_bipush (v := nI 10) hx hb dL_tells_458 (by decide) ?_
                                                    refine lv_iload hx hb dL_tells_460 (lv_at hl 4 rfl) ?_
                                                    refine lw_imul (a := 10) (b := kk) hx hb dL_tells_462 ?_
                                                    refine lv_iload hx hb dL_tells_463 (lv_at hl 6 rfl) ?_
                                                    refine lv_bipush (v := nI 6) hx hb dL_tells_465 (by decide) ?_
                                                    refine lw_idiv (a := mo) (b := 6) hx hb dL_tells_467 (by omega) (by decide) (by decide) ?_
                                                    refine lw_iadd (a := 10 * kk) (b := mo / 6) hx hb dL_tells_468 ?_
                                                    refine lw_iald hx hb hK hP hG.a5 (k := (10 * kk) + (mo / 6)) (by omega) (v := gI G 5 ((10 * kk) + (mo / 6))) (rfl) dL_tells_469 ?_
                                                    refine lv_goto (tgt := 474) hx hb dL_tells_470 (by decide) ?_
                                                    refine lv_icmp_eq (tgt := 479) hx hb dL_tells_474 (by decide) (fun c474 => ?_) (fun c474 => ?_)
                                                    · skip
                                                      exact k479 _ _ _ (rfl) hP hD hS
                                                    · exact absurd e9 c474
                                                · exfalso; omega
                                        · exfalso; omega
                                    · have hf5 : ¬ (mo % 6 = 5 ∧ sI M 15 (10 * kk + mo / 6) ≠ 0) := fun z => hf4 ⟨by omega, z⟩
                                      refine lv_aload_n hx hb dL_tells_372 rfl (lv_at hl 8 rfl) ?_
                                      refine lv_iconst (v := nI 5) hx hb dL_tells_373 (by decide) ?_
                                      refine lv_iload hx hb dL_tells_374 (lv_at hl 4 rfl) ?_
                                      refine lv_iload hx hb dL_tells_376 (lv_at hl 6 rfl) ?_
                                      refine sg_xcalli hD hS hA (vx_runSX (As := [.ref x, .int (nI 5), .int (nI kk), .int (nI mo)]) (rest := []) ⟨hx, hb, hml, hown, hts⟩ (c_L_of5 l hfl D Y _ _ x M N t c (nI kk) (nI mo) hXX hc (nI 0) ((rB_0 (by omega) hmo hf5).symm)) (vx_cwSW 4 hts gL_tells_L_of rfl rfl rfl (by decide +kernel) ⟨(Nat.le_of_ble_eq_true rfl), (Nat.le_of_ble_eq_true rfl)⟩) (lh_preS hK hP hD hN hC hX hS hA) rfl rfl hl.1 rfl (lv_room (Nat.le_of_ble_eq_true rfl)) dL_tells_378 ⟨by show 19 * kk + 1 + 1 + 1 + 1 + 1 + 3 ≤ 100; omega, by show 114 * kk + 6 + 6 + 6 + 6 + 6 + 18 ≤ 600; omega⟩) (fun E ce q9 H locs hpx hP hD hS hce hcv hcl => False.elim hpx) (fun r9 σ' H locs hw9 hP hD hS => ?_)
                                      obtain ⟨-, e9, rfl⟩ := hw9.resolve_left (fun z => z.1 ⟨hvi, hq59⟩)
                                      refine lv_iload hx hb dL_tells_381 (lv_at hl 3 rfl) ?_
                                      refine lw_if_eq (tgt := 393) (a := 1) hx hb dL_tells_383 (by decide) (by omega) (fun c383 => ?_) (fun c383 => ?_)
                                      · exfalso; omega
                                      · skip
                                        refine lv_iload hx hb dL_tells_386 (lv_at hl 6 rfl) ?_
                                        refine lv_bipush (v := nI 59) hx hb dL_tells_388 (by decide) ?_
                                        refine lw_icmp_le (tgt := 398) (a := mo) (b := 59) hx hb dL_tells_390 (by decide) (by omega) (by omega) (fun c390 => ?_) (fun c390 => ?_)
                                        · skip
                                          refine lv_iload hx hb dL_tells_398 (lv_at hl 0 rfl) ?_
                                          refine lw_if_eq (tgt := 420) (a := lt) hx hb dL_tells_400 (by decide) (by omega) (fun c400 => ?_) (fun c400 => ?_)
                                          · skip
                                            refine lv_iconst (v := nI 0) hx hb dL_tells_420 (by decide) ?_
                                            refine lv_icmp_ne (tgt := 477) hx hb dL_tells_421 (by decide) (fun c421 => ?_) (fun c421 => ?_)
                                            · exact absurd e9 c421
                                            · skip
                                              refine lv_aload_n hx hb dL_tells_424 rfl (lv_at hl 8 rfl) ?_
                                              refine lv_bipush (v := nI 6) hx hb dL_tells_425 (by decide) ?_
                                              refine lv_iload hx hb dL_tells_427 (lv_at hl 4 rfl) ?_
                                              refine lv_iload hx hb dL_tells_429 (lv_at hl 6 rfl) ?_
                                              refine sg_xcalli hD hS hA (vx_runSX (As := [.ref x, .int (nI 6), .int (nI kk), .int (nI mo)]) (rest := []) ⟨hx, hb, hml, hown, hts⟩ (c_L_of6 l hfl D Y _ _ x M N t c (nI kk) (nI mo) hXX hc (-1) ((rP_0 (by omega) hmo hf5).symm)) (vx_cwSW 4 hts gL_tells_L_of rfl rfl rfl (by decide +kernel) ⟨(Nat.le_of_ble_eq_true rfl), (Nat.le_of_ble_eq_true rfl)⟩) (lh_preS hK hP hD hN hC hX hS hA) rfl rfl hl.1 rfl (lv_room (Nat.le_of_ble_eq_true rfl)) dL_tells_431 ⟨by show 19 * kk + 1 + 1 + 1 + 1 + 1 + 3 + 3 ≤ 100; omega, by show 114 * kk + 6 + 6 + 6 + 6 + 6 + 18 + 18 ≤ 600; omega⟩) (fun E ce q9 H locs hpx hP hD hS hce hcv hcl => False.elim hpx) (fun r9 σ' H locs hw9 hP hD hS => ?_)
                                              obtain ⟨-, e9, rfl⟩ := hw9.resolve_left (fun z => z.1 ⟨hvi, hq59⟩)
                                              refine lv_iload hx hb dL_tells_434 (lv_at hl 3 rfl) ?_
                                              refine lw_if_eq (tgt := 446) (a := 1) hx hb dL_tells_436 (by decide) (by omega) (fun c436 => ?_) (fun c436 => ?_)
                                              · exfalso; omega
                                              · skip
                                                refine lv_iload hx hb dL_tells_439 (lv_at hl 6 rfl) ?_
                                                refine lv_bipush (v := nI 59) hx hb dL_tells_441 (by decide) ?_
                                                refine lw_icmp_le (tgt := 451) (a := mo) (b := 59) hx hb dL_tells_443 (by decide) (by omega) (by omega) (fun c443 => ?_) (fun c443 => ?_)
                                                · skip
                                                  refine lv_iload hx hb dL_tells_451 (lv_at hl 0 rfl) ?_
                                                  refine lw_if_eq (tgt := 473) (a := lt) hx hb dL_tells_453 (by decide) (by omega) (fun c453 => ?_) (fun c453 => ?_)
                                                  · skip
                                                    refine lv_iconst (v := (-1)) hx hb dL_tells_473 (by decide) ?_
                                                    refine lv_icmp_eq (tgt := 479) hx hb dL_tells_474 (by decide) (fun c474 => ?_) (fun c474 => ?_)
                                                    · skip
                                                      exact k479 _ _ _ (rfl) hP hD hS
                                                    · exact absurd e9 c474
                                                  · exfalso; omega
                                                · exfalso; omega
                                          · exfalso; omega
                                        · exfalso; omega
                                  · have hnq : ¬ qIn (nI mo) 0 59 := fun z => hmo ((qn (a := 0) (b := 59) (by decide) (by decide) (by omega)).mp z).2
                                    refine lv_aload_n hx hb dL_tells_372 rfl (lv_at hl 8 rfl) ?_
                                    refine lv_iconst (v := nI 5) hx hb dL_tells_373 (by decide) ?_
                                    refine lv_iload hx hb dL_tells_374 (lv_at hl 4 rfl) ?_
                                    refine lv_iload hx hb dL_tells_376 (lv_at hl 6 rfl) ?_
                                    refine sg_xcalli hD hS hA (vx_runSX (As := [.ref x, .int (nI 5), .int (nI kk), .int (nI mo)]) (rest := []) ⟨hx, hb, hml, hown, hts⟩ (c_L_of5 l hfl D Y _ _ x M N t c (nI kk) (nI mo) hXX hc _ (rfl)) (vx_cwSW 4 hts gL_tells_L_of rfl rfl rfl (by decide +kernel) ⟨(Nat.le_of_ble_eq_true rfl), (Nat.le_of_ble_eq_true rfl)⟩) (lh_preS hK hP hD hN hC hX hS hA) rfl rfl hl.1 rfl (lv_room (Nat.le_of_ble_eq_true rfl)) dL_tells_378 ⟨by show 19 * kk + 1 + 1 + 1 + 1 + 1 + 3 ≤ 100; omega, by show 114 * kk + 6 + 6 + 6 + 6 + 6 + 18 ≤ 600; omega⟩) (fun E ce q9 H locs hpx hP hD hS hce hcv hcl => False.elim hpx) (fun r9 σ' H locs hw9 hP hD hS => ?_)
                                    obtain ⟨-, rfl, rfl⟩ := hw9.resolve_right (fun z => hnq z.1.2)
                                    refine lv_iload hx hb dL_tells_381 (lv_at hl 3 rfl) ?_
                                    refine lw_if_eq (tgt := 393) (a := 1) hx hb dL_tells_383 (by decide) (by omega) (fun c383 => ?_) (fun c383 => ?_)
                                    · exfalso; omega
                                    · skip
                                      refine lv_iload hx hb dL_tells_386 (lv_at hl 6 rfl) ?_
                                      refine lv_bipush (v := nI 59) hx hb dL_tells_388 (by decide) ?_
                                      refine lw_icmp_le (tgt := 398) (a := mo) (b := 59) hx hb dL_tells_390 (by decide) (by omega) (by omega) (fun c390 => ?_) (fun c390 => ?_)
                                      · exfalso; omega
                                      · skip
                                        refine lv_bipush (v := (-101)) hx hb dL_tells_393 (by decide) ?_
                                        refine lv_goto (tgt := 421) hx hb dL_tells_395 (by decide) ?_
                                        refine lv_icmp_ne (tgt := 477) hx hb dL_tells_421 (by decide) (fun c421 => ?_) (fun c421 => ?_)
                                        · exact absurd rfl c421
                                        · skip
                                          refine lv_aload_n hx hb dL_tells_424 rfl (lv_at hl 8 rfl) ?_
                                          refine lv_bipush (v := nI 6) hx hb dL_tells_425 (by decide) ?_
                                          refine lv_iload hx hb dL_tells_427 (lv_at hl 4 rfl) ?_
                                          refine lv_iload hx hb dL_tells_429 (lv_at hl 6 rfl) ?_
                                          refine sg_xcalli hD hS hA (vx_runSX (As := [.ref x, .int (nI 6), .int (nI kk), .int (nI mo)]) (rest := []) ⟨hx, hb, hml, hown, hts⟩ (c_L_of6 l hfl D Y _ _ x M N t c (nI kk) (nI mo) hXX hc _ (rfl)) (vx_cwSW 4 hts gL_tells_L_of rfl rfl rfl (by decide +kernel) ⟨(Nat.le_of_ble_eq_true rfl), (Nat.le_of_ble_eq_true rfl)⟩) (lh_preS hK hP hD hN hC hX hS hA) rfl rfl hl.1 rfl (lv_room (Nat.le_of_ble_eq_true rfl)) dL_tells_431 ⟨by show 19 * kk + 1 + 1 + 1 + 1 + 1 + 3 + 3 ≤ 100; omega, by show 114 * kk + 6 + 6 + 6 + 6 + 6 + 18 + 18 ≤ 600; omega⟩) (fun E ce q9 H locs hpx hP hD hS hce hcv hcl => False.elim hpx) (fun r9 σ' H locs hw9 hP hD hS => ?_)
                                          obtain ⟨-, rfl, rfl⟩ := hw9.resolve_right (fun z => hnq z.1.2)
                                          refine lv_iload hx hb dL_tells_434 (lv_at hl 3 rfl) ?_
                                          refine lw_if_eq (tgt := 446) (a := 1) hx hb dL_tells_436 (by decide) (by omega) (fun c436 => ?_) (fun c436 => ?_)
                                          · exfalso; omega
                                          · skip
                                            refine lv_iload hx hb dL_tells_439 (lv_at hl 6 rfl) ?_
                                            refine lv_bipush (v := nI 59) hx hb dL_tells_441 (by decide) ?_
                                            refine lw_icmp_le (tgt := 451) (a := mo) (b := 59) hx hb dL_tells_443 (by decide) (by omega) (by omega) (fun c443 => ?_) (fun c443 => ?_)
                                            · exfalso; omega
                                            · skip
                                              refine lv_bipush (v := (-101)) hx hb dL_tells_446 (by decide) ?_
                                              refine lv_goto (tgt := 474) hx hb dL_tells_448 (by decide) ?_
                                              refine lv_icmp_eq (tgt := 479) hx hb dL_tells_474 (by decide) (fun c474 => ?_) (fun c474 => ?_)
                                              · skip
                                                exact k479 _ _ _ (rfl) hP hD hS
                                              · exact absurd rfl c474
                              · exact absurd e9 c367
          · skip
            refine lv_iload hx hb dL_tells_184 (lv_at hl 3 rfl) ?_
            refine lw_if_eq (tgt := 226) (a := 1) hx hb dL_tells_186 (by decide) (by omega) (fun c186 => ?_) (fun c186 => ?_)
            · exfalso; omega
            · skip
              refine lv_iload hx hb dL_tells_189 (lv_at hl 6 rfl) ?_
              refine lv_bipush (v := nI 60) hx hb dL_tells_191 (by decide) ?_
              refine lw_icmp_ge (tgt := 226) (a := mo) (b := 60) hx hb dL_tells_193 (by decide) (by omega) (by omega) (fun c193 => ?_) (fun c193 => ?_)
              · skip
                refine lv_iconst (v := nI 0) hx hb dL_tells_226 (by decide) ?_
                exact k227 _ _ _ _ (⟨0, Or.inr ⟨rfl, fun z => absurd z.1 (by omega)⟩, rfl, rfl⟩) hP hD hS
              · skip
                refine lv_iload hx hb dL_tells_196 (lv_at hl 6 rfl) ?_
                refine lv_bipush (v := nI 6) hx hb dL_tells_198 (by decide) ?_
                refine lw_irem (a := mo) (b := 6) hx hb dL_tells_200 (by omega) (by decide) (by decide) ?_
                refine lv_iconst (v := nI 5) hx hb dL_tells_201 (by decide) ?_
                refine lw_icmp_ne (tgt := 226) (a := mo % 6) (b := 5) hx hb dL_tells_202 (by decide) (by omega) (by omega) (fun c202 => ?_) (fun c202 => ?_)
                · skip
                  refine lv_iconst (v := nI 0) hx hb dL_tells_226 (by decide) ?_
                  exact k227 _ _ _ _ (⟨0, Or.inr ⟨rfl, fun z => c202 z.2.1⟩, rfl, rfl⟩) hP hD hS
                · skip
                  obtain ⟨bb, hbb, ebb⟩ := (hIV.2.2.2.2 (10 * kk + mo / 6) (by omega)).2.2.2.2
                  have gbb : gI G 3 (10 * kk + mo / 6) = nI bb := (eQ9 _ (by omega)).1.trans ebb
                  refine lv_aload hx hb dL_tells_205 (lv_at hl 13 rfl) ?_
                  refine lv_bipush (v := nI 10) hx hb dL_tells_207 (by decide) ?_
                  refine lv_iload hx hb dL_tells_209 (lv_at hl 4 rfl) ?_
                  refine lw_imul (a := 10) (b := kk) hx hb dL_tells_211 ?_
                  refine lv_iload hx hb dL_tells_212 (lv_at hl 6 rfl) ?_
                  refine lv_bipush (v := nI 6) hx hb dL_tells_214 (by decide) ?_
                  refine lw_idiv (a := mo) (b := 6) hx hb dL_tells_216 (by omega) (by decide) (by decide) ?_
                  refine lw_iadd (a := 10 * kk) (b := mo / 6) hx hb dL_tells_217 ?_
                  refine lw_iald hx hb hK hP hG.a3 (k := (10 * kk) + (mo / 6)) (by omega) (v := nI bb) (gbb) dL_tells_218 ?_
                  refine lw_if_le (tgt := 226) (a := bb) hx hb dL_tells_219 (by decide) (by omega) (fun c219 => ?_) (fun c219 => ?_)
                  · skip
                    refine lv_iconst (v := nI 0) hx hb dL_tells_226 (by decide) ?_
                    exact k227 _ _ _ _ (⟨0, Or.inr ⟨rfl, fun z => z.2.2 (by rw [ebb, c219]; rfl)⟩, rfl, rfl⟩) hP hD hS
                  · skip
                    refine lv_iconst (v := nI 1) hx hb dL_tells_222 (by decide) ?_
                    refine lv_goto (tgt := 227) hx hb dL_tells_223 (by decide) ?_
                    exact k227 _ _ _ _ (⟨1, Or.inl ⟨rfl, by omega, c202, by rw [ebb]; exact nI_ne0 (by omega) hbb⟩, rfl, rfl⟩) hP hD hS
        · obtain ⟨b, hb1, eb, etb⟩ := had_nat hIV (q := 10 * kk + jj) (by omega)
          have gh : gI G 4 (10 * kk + jj) = nI b := (eQ9 (10 * kk + jj) (by omega)).2.1.trans eb
          refine lv_iload hx hb dL_tells_113 (lv_at hl 3 rfl) ?_
          refine lw_if_eq (tgt := 184) (a := 1) hx hb dL_tells_115 (by decide) (by omega) (fun c115 => ?_) (fun c115 => ?_)
          · exfalso; omega
          · skip
            refine lv_iload hx hb dL_tells_118 (lv_at hl 2 rfl) ?_
            refine lv_aload hx hb dL_tells_120 (lv_at hl 14 rfl) ?_
            refine lv_iload hx hb dL_tells_122 (lv_at hl 0 rfl) ?_
            refine lw_iald hx hb hK hP hG.a4 (k := 10 * kk + jj) (by omega) (v := nI b) (gh) dL_tells_124 ?_
            refine lv_iadd hx hb dL_tells_125 ?_
            refine lw_int (y := sH M kk (jj + 1)) (by rw [sH, eb]) ?_
            refine lv_istore (lv' := [(16, .int (sH M kk (jj + 1))), (19, .int (nI (10 * kk + jj))), (17, .long (gN M kk jj)), (15, .int (nI 1)), (14, .int (nI kk)), (13, .int (nI w56)), (12, .int (nI mo)), (10, .long (-987654321987654321)), (0, .ref x), (1, .int y), (2, .ref (ad 0)), (3, .ref (ad 1)), (4, .ref (ad 2)), (5, .ref (ad 3)), (6, .ref (ad 4)), (7, .ref (ad 5)), (8, .ref (ad 6)), (9, .ref (ad 7))]) hx hb dL_tells_126 hl (by decide) rfl (fun ls hl => ?_)
            refine lv_lload hx hb dL_tells_128 (lv_at hl 2 rfl) ?_
            refine lv_aload hx hb dL_tells_130 (lv_at hl 14 rfl) ?_
            refine lv_iload hx hb dL_tells_132 (lv_at hl 1 rfl) ?_
            refine lw_iald hx hb hK hP hG.a4 (k := 10 * kk + jj) (by omega) (v := nI b) (gh) dL_tells_134 ?_
            refine lw_if_le (tgt := 174) (a := b) hx hb dL_tells_135 (by decide) (by omega) (fun c135 => ?_) (fun c135 => ?_)
            · skip
              refine lv_lconst (v := 0) hx hb dL_tells_174 (by decide) ?_
              refine lv_ladd hx hb dL_tells_175 ?_
              refine lw_long (y := gN M kk (jj + 1)) (by rw [gN, eb, c135, if_neg (show ¬ (0 : Int32) < nI 0 by decide)]) ?_
              refine lv_lstore (lv' := [(17, .long (gN M kk (jj + 1))), (16, .int (sH M kk (jj + 1))), (19, .int (nI (10 * kk + jj))), (15, .int (nI 1)), (14, .int (nI kk)), (13, .int (nI w56)), (12, .int (nI mo)), (10, .long (-987654321987654321)), (0, .ref x), (1, .int y), (2, .ref (ad 0)), (3, .ref (ad 1)), (4, .ref (ad 2)), (5, .ref (ad 3)), (6, .ref (ad 4)), (7, .ref (ad 5)), (8, .ref (ad 6)), (9, .ref (ad 7))]) hx hb dL_tells_176 hl (by decide) rfl (fun ls hl => ?_)
              refine lv_iinc (v := nI (10 * kk + jj + 1)) (lv' := [(19, .int (nI (10 * kk + jj + 1))), (17, .long (gN M kk (jj + 1))), (16, .int (sH M kk (jj + 1))), (15, .int (nI 1)), (14, .int (nI kk)), (13, .int (nI w56)), (12, .int (nI mo)), (10, .long (-987654321987654321)), (0, .ref x), (1, .int y), (2, .ref (ad 0)), (3, .ref (ad 1)), (4, .ref (ad 2)), (5, .ref (ad 3)), (6, .ref (ad 4)), (7, .ref (ad 5)), (8, .ref (ad 6)), (9, .ref (ad 7))]) hx hb dL_tells_178 hl (k := 2) rfl (nI_1 _) (by decide) rfl (fun ls hl => ?_)
              refine lv_goto (tgt := 100) hx hb dL_tells_181 (by decide) ?_
              exact ih (n1 - 1) (jj + 1) _ _ _ _ _ _ (by omega) ⟨by omega, rfl, rfl, rfl⟩ hP hD hS (lv_sub hl [0, 1, 2, 3, 4, 5, 6, 7, 8, 9, 10, 11, 12, 13, 14, 15, 16, 17] rfl)
            · have hbo : sI M 15 (10 * kk + jj) ≠ 0 := had_bought hR (by omega) (by omega) (by rw [eb]; exact nI_ne0 (by omega) hb1)
              have g56 := (eQ9 (10 * kk + jj) (by omega)).2.2 hbo
              obtain ⟨o9, w1, w2, w3, w4, ⟨f1, f2⟩, f3, f4, f5, f13, f6, f7, f8, f9, f10, f11, f12⟩ := lot_facts (G := G) hIV (q := 10 * kk + jj) (by omega) hbo eP g56.1 g56.2
              refine lv_aload hx hb dL_tells_138 (lv_at hl 14 rfl) ?_
              refine lv_iload hx hb dL_tells_140 (lv_at hl 1 rfl) ?_
              refine lw_iald hx hb hK hP hG.a4 (k := 10 * kk + jj) (by omega) (v := nI b) (gh) dL_tells_142 ?_
              refine lv_i2l hx hb dL_tells_143 rfl ?_
              refine lv_aload_n hx hb dL_tells_144 rfl (lv_at hl 11 rfl) ?_
              refine lv_aload_n hx hb dL_tells_145 rfl (lv_at hl 10 rfl) ?_
              refine lv_iconst (v := nI 0) hx hb dL_tells_146 (by decide) ?_
              refine lw_iald hx hb hK hP hG.a0 (k := 0) (by omega) (v := nI t) (e0) dL_tells_147 ?_
              refine lv_iconst (v := nI 1) hx hb dL_tells_148 (by decide) ?_
              refine lw_isub (a := t) (b := 1) hx hb dL_tells_149 (by omega) ?_
              refine lw_iald hx hb hK hP hG.a1 (k := t - 1) (by omega) (v := nI w4) (f8) dL_tells_150 ?_
              refine lv_aload hx hb dL_tells_151 (lv_at hl 15 rfl) ?_
              refine lv_iload hx hb dL_tells_153 (lv_at hl 1 rfl) ?_
              refine lw_iald hx hb hK hP hG.a5 (k := 10 * kk + jj) (by omega) (v := nI w2) (f6) dL_tells_155 ?_
              refine lv_isub hx hb dL_tells_156 ?_
              refine lv_aload_n hx hb dL_tells_157 rfl (lv_at hl 10 rfl) ?_
              refine lv_aload_n hx hb dL_tells_158 rfl (lv_at hl 11 rfl) ?_
              refine lv_aload hx hb dL_tells_159 (lv_at hl 15 rfl) ?_
              refine lv_aload hx hb dL_tells_161 (lv_at hl 16 rfl) ?_
              refine lv_iload hx hb dL_tells_163 (lv_at hl 1 rfl) ?_
              refine sg_calli hD hS hA (va_runS (As := [.ref (ad 0), .ref (ad 1), .ref (ad 5), .ref (ad 6), .int (nI (10 * kk + jj))]) (rest := [.int ((nI w4) - (nI w2)), .long ((nI b).toInt64), .long (gN M kk jj)]) ⟨hx, hb, hml, hown, hts⟩ (c_L_payEach l D Y _ _ ad G t o9 (10 * kk + jj) w1 w2 w3 w4 f1 f2 f3 (by omega) e0 f4 f5 f13 f6 f7 f8 hG) (va_cwS 5 hts gL_tells_L_payEach rfl rfl rfl (by decide +kernel) ⟨(Nat.le_of_ble_eq_true rfl), (Nat.le_of_ble_eq_true rfl)⟩) (sg_preS hK hP hD hN hX hS hA) rfl rfl hl.1 rfl (lv_room (Nat.le_of_ble_eq_true rfl)) dL_tells_165 ⟨by show 19 * kk + 0 ≤ 100; omega, by show 114 * kk + 0 ≤ 600; omega⟩) (fun r9 σ' H locs hw9 hP hD hS => ?_)
              obtain ⟨rfl, rfl⟩ := hw9
              refine lw_int (y := pq M (10 * kk + jj)) f9 ?_
              refine lv_isub hx hb dL_tells_168 ?_
              refine lv_i2l hx hb dL_tells_169 rfl ?_
              refine lv_lmul hx hb dL_tells_170 ?_
              refine lv_goto (tgt := 175) hx hb dL_tells_171 (by decide) ?_
              refine lv_ladd hx hb dL_tells_175 ?_
              refine lw_long (y := gN M kk (jj + 1)) (by rw [gN, eb, if_pos (show (0 : Int32) < nI b from (nI_ltI (a := 0) (b := b) (by decide) hb1).mpr (by omega)), gq, f11, f12]) ?_
              refine lv_lstore (lv' := [(17, .long (gN M kk (jj + 1))), (16, .int (sH M kk (jj + 1))), (19, .int (nI (10 * kk + jj))), (15, .int (nI 1)), (14, .int (nI kk)), (13, .int (nI w56)), (12, .int (nI mo)), (10, .long (-987654321987654321)), (0, .ref x), (1, .int y), (2, .ref (ad 0)), (3, .ref (ad 1)), (4, .ref (ad 2)), (5, .ref (ad 3)), (6, .ref (ad 4)), (7, .ref (ad 5)), (8, .ref (ad 6)), (9, .ref (ad 7))]) hx hb dL_tells_176 hl (by decide) rfl (fun ls hl => ?_)
              refine lv_iinc (v := nI (10 * kk + jj + 1)) (lv' := [(19, .int (nI (10 * kk + jj + 1))), (17, .long (gN M kk (jj + 1))), (16, .int (sH M kk (jj + 1))), (15, .int (nI 1)), (14, .int (nI kk)), (13, .int (nI w56)), (12, .int (nI mo)), (10, .long (-987654321987654321)), (0, .ref x), (1, .int y), (2, .ref (ad 0)), (3, .ref (ad 1)), (4, .ref (ad 2)), (5, .ref (ad 3)), (6, .ref (ad 4)), (7, .ref (ad 5)), (8, .ref (ad 6)), (9, .ref (ad 7))]) hx hb dL_tells_178 hl (k := 2) rfl (nI_1 _) (by decide) rfl (fun ls hl => ?_)
              refine lv_goto (tgt := 100) hx hb dL_tells_181 (by decide) ?_
              exact ih (n1 - 1) (jj + 1) _ _ _ _ _ _ (by omega) ⟨by omega, rfl, rfl, rfl⟩ hP hD hS (lv_sub hl [0, 1, 2, 3, 4, 5, 6, 7, 8, 9, 10, 11, 12, 13, 14, 15, 16, 17] rfl)
  · skip
    refine lv_iload_n hx hb dL_tells_5 rfl (lv_at hl 2 rfl) ?_
    refine lv_bipush (v := nI 30) hx hb dL_tells_6 (by decide) ?_
    refine sg_calli hD hS hA (va_runS (As := [.int y, .int (nI 30)]) (rest := []) ⟨hx, hb, hml, hown, hts⟩ (c_L_some l D Y _ _ y 30 (by omega) (by omega)) (va_cwS 2 hts gL_tells_L_some rfl rfl rfl (by decide +kernel) ⟨(Nat.le_of_ble_eq_true rfl), (Nat.le_of_ble_eq_true rfl)⟩) (sg_preS hK hP hD hN hX hS hA) rfl rfl hl.1 rfl (lv_room (Nat.le_of_ble_eq_true rfl)) dL_tells_8 ⟨by show 0 + 0 ≤ 100; omega, by show 0 + 0 ≤ 600; omega⟩) (fun r9 σ' H locs hw9 hP hD hS => ?_)
    obtain ⟨w8, hw8, rfl, rfl⟩ := hw9
    refine lw_if_ne (tgt := 19) (a := w8) hx hb dL_tells_11 (by decide) (by omega) (fun c11 => ?_) (fun c11 => ?_)
    · skip
      refine lv_iload_n hx hb dL_tells_19 rfl (lv_at hl 2 rfl) ?_
      refine lv_iconst (v := nI 2) hx hb dL_tells_20 (by decide) ?_
      refine lv_ishr hx hb dL_tells_21 ?_
      refine lv_topi (fun v21 _ => ?_)
      refine lv_iconst (v := nI 3) hx hb dL_tells_22 (by decide) ?_
      refine sg_calli hD hS hA (va_runS (As := [.int v21, .int (nI 3)]) (rest := []) ⟨hx, hb, hml, hown, hts⟩ (c_L_some l D Y _ _ v21 3 (by omega) (by omega)) (va_cwS 2 hts gL_tells_L_some rfl rfl rfl (by decide +kernel) ⟨(Nat.le_of_ble_eq_true rfl), (Nat.le_of_ble_eq_true rfl)⟩) (sg_preS hK hP hD hN hX hS hA) rfl rfl hl.1 rfl (lv_room (Nat.le_of_ble_eq_true rfl)) dL_tells_23 ⟨by show 0 + 0 + 0 ≤ 100; omega, by show 0 + 0 + 0 ≤ 600; omega⟩) (fun r9 σ' H locs hw9 hP hD hS => ?_)
      obtain ⟨w23, hw23, rfl, rfl⟩ := hw9
      refine lw_if_ne (tgt := 38) (a := w23) hx hb dL_tells_26 (by decide) (by omega) (fun c26 => ?_) (fun c26 => ?_)
      · skip
        refine lv_iload_n hx hb dL_tells_38 rfl (lv_at hl 2 rfl) ?_
        refine lv_bipush (v := nI 10) hx hb dL_tells_39 (by decide) ?_
        refine sg_calli hD hS hA (va_runS (As := [.int y, .int (nI 10)]) (rest := []) ⟨hx, hb, hml, hown, hts⟩ (c_L_some l D Y _ _ y 10 (by omega) (by omega)) (va_cwS 2 hts gL_tells_L_some rfl rfl rfl (by decide +kernel) ⟨(Nat.le_of_ble_eq_true rfl), (Nat.le_of_ble_eq_true rfl)⟩) (sg_preS hK hP hD hN hX hS hA) rfl rfl hl.1 rfl (lv_room (Nat.le_of_ble_eq_true rfl)) dL_tells_41 ⟨by show 0 + 0 + 0 + 0 ≤ 100; omega, by show 0 + 0 + 0 + 0 ≤ 600; omega⟩) (fun r9 σ' H locs hw9 hP hD hS => ?_)
        obtain ⟨w41, hw41, rfl, rfl⟩ := hw9
        refine lv_bipush (v := nI 6) hx hb dL_tells_44 (by decide) ?_
        refine lw_imul (a := w41) (b := 6) hx hb dL_tells_46 ?_
        refine lv_iconst (v := nI 5) hx hb dL_tells_47 (by decide) ?_
        refine lw_iadd (a := w41 * 6) (b := 5) hx hb dL_tells_48 ?_
        exact k49 _ _ _ _ (⟨(w41 * 6) + 5, by omega, rfl, rfl⟩) hP hD hS
      · skip
        refine lv_iload_n hx hb dL_tells_29 rfl (lv_at hl 2 rfl) ?_
        refine lv_bipush (v := nI 60) hx hb dL_tells_30 (by decide) ?_
        refine sg_calli hD hS hA (va_runS (As := [.int y, .int (nI 60)]) (rest := []) ⟨hx, hb, hml, hown, hts⟩ (c_L_some l D Y _ _ y 60 (by omega) (by omega)) (va_cwS 2 hts gL_tells_L_some rfl rfl rfl (by decide +kernel) ⟨(Nat.le_of_ble_eq_true rfl), (Nat.le_of_ble_eq_true rfl)⟩) (sg_preS hK hP hD hN hX hS hA) rfl rfl hl.1 rfl (lv_room (Nat.le_of_ble_eq_true rfl)) dL_tells_32 ⟨by show 0 + 0 + 0 + 0 ≤ 100; omega, by show 0 + 0 + 0 + 0 ≤ 600; omega⟩) (fun r9 σ' H locs hw9 hP hD hS => ?_)
        obtain ⟨w32, hw32, rfl, rfl⟩ := hw9
        refine lv_goto (tgt := 49) hx hb dL_tells_35 (by decide) ?_
        exact k49 _ _ _ _ (⟨w32, by omega, rfl, rfl⟩) hP hD hS
    · skip
      refine lv_bipush (v := nI 60) hx hb dL_tells_14 (by decide) ?_
      refine lv_goto (tgt := 49) hx hb dL_tells_16 (by decide) ?_
      exact k49 _ _ _ _ (⟨60, by omega, rfl, rfl⟩) hP hD hS
