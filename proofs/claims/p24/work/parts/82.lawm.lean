set_option maxHeartbeats 4000000 in
set_option maxRecDepth 100000 in
theorem c_L_goes3 (l : Launch) (hfl : l.stackTraces = false) (D : va_G) (Y : Nat → ClassId) (σ : sg_W) (sz : Nat) (ad : Nat → Nat) (x : Nat) (G : ZG) (M : MS) (N t c : Nat) (y : Int32) (hXX : CX Y x σ M N t c σ) (hG : ZF Y ad σ G σ) (hL : LR G M N t) (hc : c < 512) : Met l yL_goes wsL_goes ({ frames := 9, cells := 6, slots := 50, locals := 160 } : Room) (va_Pc [.ref x, .int (nI 3), .int y, .ref (ad 0), .ref (ad 1), .ref (ad 2), .ref (ad 3), .ref (ad 4), .ref (ad 5), .ref (ad 6), .ref (ad 7)] (lh_U D Y σ sz)) (va_Qi (fun r σ' => r = nI 1 ∧ LI Y x ad (c + 1) σ') (sg_B D σ sz) (sg_A σ sz)) 6 50 (sg_A σ sz) := by
  refine lh_metP (cc := cL_goes) (maxL := 19) (ret := (some .boolean)) (by decide) rfl (Nat.le_of_ble_eq_true rfl) ?_
  intro p e s m below meth cd9 ls hx hb hml hr hown hts hlocks hnm hP hK hD hN hC hX hA hS hsz hl
  have hl : lv_has ls 19 [(0, .ref x), (1, .int (nI 3)), (2, .int y), (3, .ref (ad 0)), (4, .ref (ad 1)), (5, .ref (ad 2)), (6, .ref (ad 3)), (7, .ref (ad 4)), (8, .ref (ad 5)), (9, .ref (ad 6)), (10, .ref (ad 7))] := hl
  have hIV := hXX.iv
  have hN4 := hL.1.1
  have ht6 := hIV.1.2.1
  have hNt := hIV.1.2.2.1
  obtain ⟨⟨-, e0, e1, e2⟩, eP, -, eQ, -, hfr⟩ := id hL
  refine lv_iload_n hx hb dL_goes_0 rfl (lv_at hl 1 rfl) ?_
  refine lw_if_ne (tgt := 277) (a := 3) hx hb dL_goes_1 (by decide) (by omega) (fun c1 => ?_) (fun c1 => ?_)
  · skip
    refine lv_iload_n hx hb dL_goes_277 rfl (lv_at hl 1 rfl) ?_
    refine lv_iconst (v := nI 1) hx hb dL_goes_278 (by decide) ?_
    refine lw_icmp_ne (tgt := 371) (a := 3) (b := 1) hx hb dL_goes_279 (by decide) (by omega) (by omega) (fun c279 => ?_) (fun c279 => ?_)
    · skip
      refine sg_cutwi (D := D) hS (j := 401) (ls := ls) (rest := []) (0) (0) (fun x9 σ' => ∃ v9 : Nat, v9 ≤ 16 ∧ x9 = nI v9 ∧ σ = σ') (fun x9 σ' H locs hj9 hP hD hS => ?_) (fun k401 => ?_)
      · obtain ⟨rt, hrt, rfl, rfl⟩ := hj9
        refine lv_istore (lv' := [(11, .int (nI rt)), (0, .ref x), (1, .int (nI 3)), (2, .int y), (3, .ref (ad 0)), (4, .ref (ad 1)), (5, .ref (ad 2)), (6, .ref (ad 3)), (7, .ref (ad 4)), (8, .ref (ad 5)), (9, .ref (ad 6)), (10, .ref (ad 7))]) hx hb dL_goes_401 hl (by decide) rfl (fun ls hl => ?_)
        refine sg_cutwi (D := D) hS (j := 420) (ls := ls) (rest := []) (0) (0) (fun x9 σ' => ∃ v9 : Nat, ((v9 = 1 ∧ (0 < rt ∧ rt < 16)) ∨ (v9 = 0 ∧ ¬ (0 < rt ∧ rt < 16))) ∧ x9 = nI v9 ∧ σ = σ') (fun x9 σ' H locs hj9 hP hD hS => ?_) (fun k420 => ?_)
        · obtain ⟨fi, hfi, rfl, rfl⟩ := hj9
          refine lv_istore (lv' := [(12, .int (nI fi)), (11, .int (nI rt)), (0, .ref x), (1, .int (nI 3)), (2, .int y), (3, .ref (ad 0)), (4, .ref (ad 1)), (5, .ref (ad 2)), (6, .ref (ad 3)), (7, .ref (ad 4)), (8, .ref (ad 5)), (9, .ref (ad 6)), (10, .ref (ad 7))]) hx hb dL_goes_420 hl (by decide) rfl (fun ls hl => ?_)
          refine lv_iload_n hx hb dL_goes_422 rfl (lv_at hl 3 rfl) ?_
          refine lv_iconst (v := nI 2) hx hb dL_goes_423 (by decide) ?_
          refine lw_icmp_ne (tgt := 523) (a := 3) (b := 2) hx hb dL_goes_424 (by decide) (by omega) (by omega) (fun c424 => ?_) (fun c424 => ?_)
          · skip
            refine sg_cutwi (D := D) hS (j := 552) (ls := ls) (rest := []) (0) (0) (fun x9 σ' => ((∃ v9 : Nat, v9 < N + 1 ∧ x9 = nI v9) ∨ x9 = -1) ∧ σ = σ') (fun x9 σ' H locs hj9 hP hD hS => ?_) (fun k552 => ?_)
            · obtain ⟨hk9, rfl⟩ := hj9
              rcases hk9 with ⟨kk, hkk, rfl⟩ | rfl
              · skip
                refine lv_istore (lv' := [(13, .int (nI kk)), (12, .int (nI fi)), (11, .int (nI rt)), (0, .ref x), (1, .int (nI 3)), (2, .int y), (3, .ref (ad 0)), (4, .ref (ad 1)), (5, .ref (ad 2)), (6, .ref (ad 3)), (7, .ref (ad 4)), (8, .ref (ad 5)), (9, .ref (ad 6)), (10, .ref (ad 7))]) hx hb dL_goes_552 hl (by decide) rfl (fun ls hl => ?_)
                refine lv_iload hx hb dL_goes_554 (lv_at hl 0 rfl) ?_
                refine lw_if_lt (tgt := 571) (a := kk) hx hb dL_goes_556 (by decide) (by omega) ?_
                refine lv_iload hx hb dL_goes_559 (lv_at hl 0 rfl) ?_
                refine lv_aload_n hx hb dL_goes_561 rfl (lv_at hl 6 rfl) ?_
                refine lv_iconst (v := nI 1) hx hb dL_goes_562 (by decide) ?_
                refine lw_iald hx hb hK hP hG.a0 (k := 1) (by omega) (v := nI N) (e1) dL_goes_563 ?_
                refine lw_icmp_ge (tgt := 571) (a := kk) (b := N) hx hb dL_goes_564 (by decide) (by omega) (by omega) (fun c564 => ?_) (fun c564 => ?_)
                · have hnv : ¬ vp_in (nI kk) N := fun z => absurd ((vn (by omega) (by omega)).mp z) (by omega)
                  refine lv_iconst (v := nI 0) hx hb dL_goes_571 (by decide) ?_
                  refine lv_istore (lv' := [(14, .int (nI 0)), (13, .int (nI kk)), (12, .int (nI fi)), (11, .int (nI rt)), (0, .ref x), (1, .int (nI 3)), (2, .int y), (3, .ref (ad 0)), (4, .ref (ad 1)), (5, .ref (ad 2)), (6, .ref (ad 3)), (7, .ref (ad 4)), (8, .ref (ad 5)), (9, .ref (ad 6)), (10, .ref (ad 7))]) hx hb dL_goes_572 hl (by decide) rfl (fun ls hl => ?_)
                  refine lv_iload hx hb dL_goes_574 (lv_at hl 0 rfl) ?_
                  refine lw_if_eq (tgt := 593) (a := 0) hx hb dL_goes_576 (by decide) (by omega) (fun c576 => ?_) (fun c576 => ?_)
                  · skip
                    refine lv_iconst (v := nI 0) hx hb dL_goes_593 (by decide) ?_
                    refine lv_istore (lv' := [(15, .int (nI 0)), (14, .int (nI 0)), (13, .int (nI kk)), (12, .int (nI fi)), (11, .int (nI rt)), (0, .ref x), (1, .int (nI 3)), (2, .int y), (3, .ref (ad 0)), (4, .ref (ad 1)), (5, .ref (ad 2)), (6, .ref (ad 3)), (7, .ref (ad 4)), (8, .ref (ad 5)), (9, .ref (ad 6)), (10, .ref (ad 7))]) hx hb dL_goes_594 hl (by decide) rfl (fun ls hl => ?_)
                    refine lv_iload_n hx hb dL_goes_596 rfl (lv_at hl 6 rfl) ?_
                    refine lv_iconst (v := nI 3) hx hb dL_goes_597 (by decide) ?_
                    refine lw_icmp_ne (tgt := 684) (a := 3) (b := 3) hx hb dL_goes_598 (by decide) (by omega) (by omega) (fun c598 => ?_) (fun c598 => ?_)
                    · exfalso; omega
                    · skip
                      refine lv_iload hx hb dL_goes_601 (lv_at hl 1 rfl) ?_
                      refine lw_if_eq (tgt := 614) (a := 0) hx hb dL_goes_603 (by decide) (by omega) (fun c603 => ?_) (fun c603 => ?_)
                      · skip
                        refine lv_iconst (v := nI 0) hx hb dL_goes_614 (by decide) ?_
                        refine lv_istore (lv' := [(16, .int (nI 0)), (15, .int (nI 0)), (14, .int (nI 0)), (13, .int (nI kk)), (12, .int (nI fi)), (11, .int (nI rt)), (0, .ref x), (1, .int (nI 3)), (2, .int y), (3, .ref (ad 0)), (4, .ref (ad 1)), (5, .ref (ad 2)), (6, .ref (ad 3)), (7, .ref (ad 4)), (8, .ref (ad 5)), (9, .ref (ad 6)), (10, .ref (ad 7))]) hx hb dL_goes_615 hl (by decide) rfl (fun ls hl => ?_)
                        refine lv_iload hx hb dL_goes_617 (lv_at hl 1 rfl) ?_
                        refine lw_if_eq (tgt := 634) (a := 0) hx hb dL_goes_619 (by decide) (by omega) (fun c619 => ?_) (fun c619 => ?_)
                        · skip
                          refine lv_aload_n hx hb dL_goes_634 rfl (lv_at hl 6 rfl) ?_
                          refine lv_iconst (v := nI 0) hx hb dL_goes_635 (by decide) ?_
                          refine lv_iload hx hb dL_goes_636 (lv_at hl 3 rfl) ?_
                          refine lv_iload hx hb dL_goes_638 (lv_at hl 5 rfl) ?_
                          refine sg_xcalli hD hS hA (vx_runSX (As := [.ref x, .int (nI 0), .int (nI kk), .int (nI rt)]) (rest := []) ⟨hx, hb, hml, hown, hts⟩ (c_L_act0 l hfl D Y _ _ x M N t c (nI kk) (nI rt) (hXX.far hG.2.2) hc) (vx_cwSW 4 hts gL_goes_L_act rfl rfl rfl (by decide +kernel) ⟨(Nat.le_of_ble_eq_true rfl), (Nat.le_of_ble_eq_true rfl)⟩) (lh_preS hK hP hD hN hC hX hS hA) rfl rfl hl.1 rfl (lv_room (Nat.le_of_ble_eq_true rfl)) dL_goes_640 ⟨(Nat.le_of_ble_eq_true rfl), (Nat.le_of_ble_eq_true rfl)⟩) (fun E ce q9 H locs hpx hP hD hS hce hcv hcl => False.elim hpx) (fun r9 σ' H locs hw9 hP hD hS => ?_)
                          obtain ⟨-, rfl, rfl⟩ := hw9.resolve_right (fun z => z.elim (fun z => hnv z.1.1) (fun z => z.elim (fun z => hnv z.1.1) (fun z => hnv z.1.1)))
                          refine lv_iload hx hb dL_goes_643 (lv_at hl 2 rfl) ?_
                          refine lw_if_ne (tgt := 653) (a := 0) hx hb dL_goes_645 (by decide) (by omega) (fun c645 => ?_) (fun c645 => ?_)
                          · exfalso; omega
                          · skip
                            refine lv_bipush (v := (-101)) hx hb dL_goes_648 (by decide) ?_
                            refine lv_goto (tgt := 675) hx hb dL_goes_650 (by decide) ?_
                            refine lv_icmp_ne (tgt := 682) hx hb dL_goes_675 (by decide) (fun c675 => ?_) (fun c675 => ?_)
                            · exact absurd rfl c675
                            · skip
                              refine lv_iconst (v := nI 1) hx hb dL_goes_678 (by decide) ?_
                              refine lv_goto (tgt := 683) hx hb dL_goes_679 (by decide) ?_
                              exact sg_iret hx hb hr rfl hlocks hP hD hS (Nat.le_of_ble_eq_true rfl) (Nat.le_of_ble_eq_true rfl) dL_goes_683 (⟨rfl, LI.mk ((hXX.far hG.2.2).mon (Nat.le_succ c)) hG hL⟩)
                        · exfalso; omega
                      · exfalso; omega
                  · exfalso; omega
                · have hvi : vp_in (nI kk) N := vp_in_nI (by omega) (by omega)
                  have ek : tN (nI kk) = kk := nI_clamp (by omega)
                  have e5 : gI G 2 (4 + kk) = sI M 5 kk := hL.at (by omega) (show mP 4 5 by unfold mP; omega)
                  refine lv_iconst (v := nI 1) hx hb dL_goes_567 (by decide) ?_
                  refine lv_goto (tgt := 572) hx hb dL_goes_568 (by decide) ?_
                  refine lv_istore (lv' := [(14, .int (nI 1)), (13, .int (nI kk)), (12, .int (nI fi)), (11, .int (nI rt)), (0, .ref x), (1, .int (nI 3)), (2, .int y), (3, .ref (ad 0)), (4, .ref (ad 1)), (5, .ref (ad 2)), (6, .ref (ad 3)), (7, .ref (ad 4)), (8, .ref (ad 5)), (9, .ref (ad 6)), (10, .ref (ad 7))]) hx hb dL_goes_572 hl (by decide) rfl (fun ls hl => ?_)
                  refine lv_iload hx hb dL_goes_574 (lv_at hl 0 rfl) ?_
                  refine lw_if_eq (tgt := 593) (a := 1) hx hb dL_goes_576 (by decide) (by omega) (fun c576 => ?_) (fun c576 => ?_)
                  · exfalso; omega
                  · skip
                    refine lv_aload hx hb dL_goes_579 (lv_at hl 9 rfl) ?_
                    refine lv_iconst (v := nI 4) hx hb dL_goes_581 (by decide) ?_
                    refine lv_iload hx hb dL_goes_582 (lv_at hl 1 rfl) ?_
                    refine lw_iadd (a := 4) (b := kk) hx hb dL_goes_584 ?_
                    refine lw_iald hx hb hK hP hG.a2 (k := 4 + kk) (by omega) (v := gI G 2 (4 + kk)) (rfl) dL_goes_585 ?_
                    refine lv_if_ne (tgt := 593) hx hb dL_goes_586 (by decide) (fun c586 => ?_) (fun c586 => ?_)
                    · have hns : ¬ sI M 5 (tN (nI kk)) = 0 := by rw [ek, ← e5]; exact c586
                      refine lv_iconst (v := nI 0) hx hb dL_goes_593 (by decide) ?_
                      refine lv_istore (lv' := [(15, .int (nI 0)), (14, .int (nI 1)), (13, .int (nI kk)), (12, .int (nI fi)), (11, .int (nI rt)), (0, .ref x), (1, .int (nI 3)), (2, .int y), (3, .ref (ad 0)), (4, .ref (ad 1)), (5, .ref (ad 2)), (6, .ref (ad 3)), (7, .ref (ad 4)), (8, .ref (ad 5)), (9, .ref (ad 6)), (10, .ref (ad 7))]) hx hb dL_goes_594 hl (by decide) rfl (fun ls hl => ?_)
                      refine lv_iload_n hx hb dL_goes_596 rfl (lv_at hl 6 rfl) ?_
                      refine lv_iconst (v := nI 3) hx hb dL_goes_597 (by decide) ?_
                      refine lw_icmp_ne (tgt := 684) (a := 3) (b := 3) hx hb dL_goes_598 (by decide) (by omega) (by omega) (fun c598 => ?_) (fun c598 => ?_)
                      · exfalso; omega
                      · skip
                        refine lv_iload hx hb dL_goes_601 (lv_at hl 1 rfl) ?_
                        refine lw_if_eq (tgt := 614) (a := 1) hx hb dL_goes_603 (by decide) (by omega) (fun c603 => ?_) (fun c603 => ?_)
                        · exfalso; omega
                        · skip
                          refine lv_aload hx hb dL_goes_606 (lv_at hl 10 rfl) ?_
                          refine lv_iload hx hb dL_goes_608 (lv_at hl 2 rfl) ?_
                          refine lw_iald hx hb hK hP hG.a2 (k := kk) (by omega) (v := gI G 2 kk) (rfl) dL_goes_610 ?_
                          refine lv_goto (tgt := 615) hx hb dL_goes_611 (by decide) ?_
                          refine lv_istore (lv' := [(16, .int (gI G 2 kk)), (15, .int (nI 0)), (14, .int (nI 1)), (13, .int (nI kk)), (12, .int (nI fi)), (11, .int (nI rt)), (0, .ref x), (1, .int (nI 3)), (2, .int y), (3, .ref (ad 0)), (4, .ref (ad 1)), (5, .ref (ad 2)), (6, .ref (ad 3)), (7, .ref (ad 4)), (8, .ref (ad 5)), (9, .ref (ad 6)), (10, .ref (ad 7))]) hx hb dL_goes_615 hl (by decide) rfl (fun ls hl => ?_)
                          refine lv_iload hx hb dL_goes_617 (lv_at hl 1 rfl) ?_
                          refine lw_if_eq (tgt := 634) (a := 0) hx hb dL_goes_619 (by decide) (by omega) (fun c619 => ?_) (fun c619 => ?_)
                          · skip
                            rcases hfi with ⟨hf1, hf2⟩ | ⟨hf1, hf2⟩
                            · skip
                              refine lv_aload_n hx hb dL_goes_634 rfl (lv_at hl 6 rfl) ?_
                              refine lv_iconst (v := nI 0) hx hb dL_goes_635 (by decide) ?_
                              refine lv_iload hx hb dL_goes_636 (lv_at hl 3 rfl) ?_
                              refine lv_iload hx hb dL_goes_638 (lv_at hl 5 rfl) ?_
                              refine sg_xcalli hD hS hA (vx_runSX (As := [.ref x, .int (nI 0), .int (nI kk), .int (nI rt)]) (rest := []) ⟨hx, hb, hml, hown, hts⟩ (c_L_act0 l hfl D Y _ _ x M N t c (nI kk) (nI rt) (hXX.far hG.2.2) hc) (vx_cwSW 4 hts gL_goes_L_act rfl rfl rfl (by decide +kernel) ⟨(Nat.le_of_ble_eq_true rfl), (Nat.le_of_ble_eq_true rfl)⟩) (lh_preS hK hP hD hN hC hX hS hA) rfl rfl hl.1 rfl (lv_room (Nat.le_of_ble_eq_true rfl)) dL_goes_640 ⟨(Nat.le_of_ble_eq_true rfl), (Nat.le_of_ble_eq_true rfl)⟩) (fun E ce q9 H locs hpx hP hD hS hce hcv hcl => False.elim hpx) (fun r9 σ' H locs hw9 hP hD hS => ?_)
                              have hq9 : qIn (nI rt) 1 15 := (qn (a := 1) (b := 15) (by decide) (by decide) (by omega)).mpr ⟨by omega, by omega⟩
                              have hw9 := (hw9.resolve_left (fun z => z.1 hvi)).resolve_left (fun z => z.1.2 hq9)
                              obtain ⟨-, rfl, rfl⟩ := hw9.resolve_right (fun z => hns z.1.2.2)
                              refine lv_iload hx hb dL_goes_643 (lv_at hl 2 rfl) ?_
                              refine lw_if_ne (tgt := 653) (a := 1) hx hb dL_goes_645 (by decide) (by omega) (fun c645 => ?_) (fun c645 => ?_)
                              · skip
                                refine lv_iload hx hb dL_goes_653 (lv_at hl 4 rfl) ?_
                                refine lw_if_ne (tgt := 663) (a := fi) hx hb dL_goes_655 (by decide) (by omega) (fun c655 => ?_) (fun c655 => ?_)
                                · skip
                                  refine lv_iload hx hb dL_goes_663 (lv_at hl 1 rfl) ?_
                                  refine lw_if_eq (tgt := 673) (a := 0) hx hb dL_goes_665 (by decide) (by omega) (fun c665 => ?_) (fun c665 => ?_)
                                  · skip
                                    refine lv_bipush (v := (-103)) hx hb dL_goes_673 (by decide) ?_
                                    refine lv_icmp_ne (tgt := 682) hx hb dL_goes_675 (by decide) (fun c675 => ?_) (fun c675 => ?_)
                                    · exact absurd rfl c675
                                    · skip
                                      refine lv_iconst (v := nI 1) hx hb dL_goes_678 (by decide) ?_
                                      refine lv_goto (tgt := 683) hx hb dL_goes_679 (by decide) ?_
                                      exact sg_iret hx hb hr rfl hlocks hP hD hS (Nat.le_of_ble_eq_true rfl) (Nat.le_of_ble_eq_true rfl) dL_goes_683 (⟨rfl, LI.mk ((hXX.far hG.2.2).mon (Nat.le_succ c)) hG hL⟩)
                                  · exfalso; omega
                                · exfalso; omega
                              · exfalso; omega
                            · skip
                              refine lv_aload_n hx hb dL_goes_634 rfl (lv_at hl 6 rfl) ?_
                              refine lv_iconst (v := nI 0) hx hb dL_goes_635 (by decide) ?_
                              refine lv_iload hx hb dL_goes_636 (lv_at hl 3 rfl) ?_
                              refine lv_iload hx hb dL_goes_638 (lv_at hl 5 rfl) ?_
                              refine sg_xcalli hD hS hA (vx_runSX (As := [.ref x, .int (nI 0), .int (nI kk), .int (nI rt)]) (rest := []) ⟨hx, hb, hml, hown, hts⟩ (c_L_act0 l hfl D Y _ _ x M N t c (nI kk) (nI rt) (hXX.far hG.2.2) hc) (vx_cwSW 4 hts gL_goes_L_act rfl rfl rfl (by decide +kernel) ⟨(Nat.le_of_ble_eq_true rfl), (Nat.le_of_ble_eq_true rfl)⟩) (lh_preS hK hP hD hN hC hX hS hA) rfl rfl hl.1 rfl (lv_room (Nat.le_of_ble_eq_true rfl)) dL_goes_640 ⟨(Nat.le_of_ble_eq_true rfl), (Nat.le_of_ble_eq_true rfl)⟩) (fun E ce q9 H locs hpx hP hD hS hce hcv hcl => False.elim hpx) (fun r9 σ' H locs hw9 hP hD hS => ?_)
                              have hq9 : ¬ qIn (nI rt) 1 15 := fun z => by have := (qn (a := 1) (b := 15) (by decide) (by decide) (by omega)).mp z; omega
                              obtain ⟨-, rfl, rfl⟩ := (hw9.resolve_left (fun z => z.1 hvi)).resolve_right (fun z => z.elim (fun z => hq9 z.1.2.1) (fun z => hq9 z.1.2.1))
                              refine lv_iload hx hb dL_goes_643 (lv_at hl 2 rfl) ?_
                              refine lw_if_ne (tgt := 653) (a := 1) hx hb dL_goes_645 (by decide) (by omega) (fun c645 => ?_) (fun c645 => ?_)
                              · skip
                                refine lv_iload hx hb dL_goes_653 (lv_at hl 4 rfl) ?_
                                refine lw_if_ne (tgt := 663) (a := fi) hx hb dL_goes_655 (by decide) (by omega) (fun c655 => ?_) (fun c655 => ?_)
                                · exfalso; omega
                                · skip
                                  refine lv_bipush (v := (-102)) hx hb dL_goes_658 (by decide) ?_
                                  refine lv_goto (tgt := 675) hx hb dL_goes_660 (by decide) ?_
                                  refine lv_icmp_ne (tgt := 682) hx hb dL_goes_675 (by decide) (fun c675 => ?_) (fun c675 => ?_)
                                  · exact absurd rfl c675
                                  · skip
                                    refine lv_iconst (v := nI 1) hx hb dL_goes_678 (by decide) ?_
                                    refine lv_goto (tgt := 683) hx hb dL_goes_679 (by decide) ?_
                                    exact sg_iret hx hb hr rfl hlocks hP hD hS (Nat.le_of_ble_eq_true rfl) (Nat.le_of_ble_eq_true rfl) dL_goes_683 (⟨rfl, LI.mk ((hXX.far hG.2.2).mon (Nat.le_succ c)) hG hL⟩)
                              · exfalso; omega
                          · exfalso; omega
                    · have hst : sI M 5 (tN (nI kk)) = 0 := by rw [ek, ← e5]; exact c586
                      refine lv_iconst (v := nI 1) hx hb dL_goes_589 (by decide) ?_
                      refine lv_goto (tgt := 594) hx hb dL_goes_590 (by decide) ?_
                      refine lv_istore (lv' := [(15, .int (nI 1)), (14, .int (nI 1)), (13, .int (nI kk)), (12, .int (nI fi)), (11, .int (nI rt)), (0, .ref x), (1, .int (nI 3)), (2, .int y), (3, .ref (ad 0)), (4, .ref (ad 1)), (5, .ref (ad 2)), (6, .ref (ad 3)), (7, .ref (ad 4)), (8, .ref (ad 5)), (9, .ref (ad 6)), (10, .ref (ad 7))]) hx hb dL_goes_594 hl (by decide) rfl (fun ls hl => ?_)
                      refine lv_iload_n hx hb dL_goes_596 rfl (lv_at hl 6 rfl) ?_
                      refine lv_iconst (v := nI 3) hx hb dL_goes_597 (by decide) ?_
                      refine lw_icmp_ne (tgt := 684) (a := 3) (b := 3) hx hb dL_goes_598 (by decide) (by omega) (by omega) (fun c598 => ?_) (fun c598 => ?_)
                      · exfalso; omega
                      · skip
                        refine lv_iload hx hb dL_goes_601 (lv_at hl 1 rfl) ?_
                        refine lw_if_eq (tgt := 614) (a := 1) hx hb dL_goes_603 (by decide) (by omega) (fun c603 => ?_) (fun c603 => ?_)
                        · exfalso; omega
                        · skip
                          refine lv_aload hx hb dL_goes_606 (lv_at hl 10 rfl) ?_
                          refine lv_iload hx hb dL_goes_608 (lv_at hl 2 rfl) ?_
                          refine lw_iald hx hb hK hP hG.a2 (k := kk) (by omega) (v := gI G 2 kk) (rfl) dL_goes_610 ?_
                          refine lv_goto (tgt := 615) hx hb dL_goes_611 (by decide) ?_
                          refine lv_istore (lv' := [(16, .int (gI G 2 kk)), (15, .int (nI 1)), (14, .int (nI 1)), (13, .int (nI kk)), (12, .int (nI fi)), (11, .int (nI rt)), (0, .ref x), (1, .int (nI 3)), (2, .int y), (3, .ref (ad 0)), (4, .ref (ad 1)), (5, .ref (ad 2)), (6, .ref (ad 3)), (7, .ref (ad 4)), (8, .ref (ad 5)), (9, .ref (ad 6)), (10, .ref (ad 7))]) hx hb dL_goes_615 hl (by decide) rfl (fun ls hl => ?_)
                          refine lv_iload hx hb dL_goes_617 (lv_at hl 1 rfl) ?_
                          refine lw_if_eq (tgt := 634) (a := 1) hx hb dL_goes_619 (by decide) (by omega) (fun c619 => ?_) (fun c619 => ?_)
                          · exfalso; omega
                          · skip
                            refine lv_iload hx hb dL_goes_622 (lv_at hl 4 rfl) ?_
                            refine lw_if_eq (tgt := 634) (a := fi) hx hb dL_goes_624 (by decide) (by omega) (fun c624 => ?_) (fun c624 => ?_)
                            · skip
                              refine lv_aload_n hx hb dL_goes_634 rfl (lv_at hl 6 rfl) ?_
                              refine lv_iconst (v := nI 0) hx hb dL_goes_635 (by decide) ?_
                              refine lv_iload hx hb dL_goes_636 (lv_at hl 3 rfl) ?_
                              refine lv_iload hx hb dL_goes_638 (lv_at hl 5 rfl) ?_
                              refine sg_xcalli hD hS hA (vx_runSX (As := [.ref x, .int (nI 0), .int (nI kk), .int (nI rt)]) (rest := []) ⟨hx, hb, hml, hown, hts⟩ (c_L_act0 l hfl D Y _ _ x M N t c (nI kk) (nI rt) (hXX.far hG.2.2) hc) (vx_cwSW 4 hts gL_goes_L_act rfl rfl rfl (by decide +kernel) ⟨(Nat.le_of_ble_eq_true rfl), (Nat.le_of_ble_eq_true rfl)⟩) (lh_preS hK hP hD hN hC hX hS hA) rfl rfl hl.1 rfl (lv_room (Nat.le_of_ble_eq_true rfl)) dL_goes_640 ⟨(Nat.le_of_ble_eq_true rfl), (Nat.le_of_ble_eq_true rfl)⟩) (fun E ce q9 H locs hpx hP hD hS hce hcv hcl => False.elim hpx) (fun r9 σ' H locs hw9 hP hD hS => ?_)
                              have hq9 : ¬ qIn (nI rt) 1 15 := fun z => by have := (qn (a := 1) (b := 15) (by decide) (by decide) (by omega)).mp z; omega
                              obtain ⟨-, rfl, rfl⟩ := (hw9.resolve_left (fun z => z.1 hvi)).resolve_right (fun z => z.elim (fun z => hq9 z.1.2.1) (fun z => hq9 z.1.2.1))
                              refine lv_iload hx hb dL_goes_643 (lv_at hl 2 rfl) ?_
                              refine lw_if_ne (tgt := 653) (a := 1) hx hb dL_goes_645 (by decide) (by omega) (fun c645 => ?_) (fun c645 => ?_)
                              · skip
                                refine lv_iload hx hb dL_goes_653 (lv_at hl 4 rfl) ?_
                                refine lw_if_ne (tgt := 663) (a := fi) hx hb dL_goes_655 (by decide) (by omega) (fun c655 => ?_) (fun c655 => ?_)
                                · exfalso; omega
                                · skip
                                  refine lv_bipush (v := (-102)) hx hb dL_goes_658 (by decide) ?_
                                  refine lv_goto (tgt := 675) hx hb dL_goes_660 (by decide) ?_
                                  refine lv_icmp_ne (tgt := 682) hx hb dL_goes_675 (by decide) (fun c675 => ?_) (fun c675 => ?_)
                                  · exact absurd rfl c675
                                  · skip
                                    refine lv_iconst (v := nI 1) hx hb dL_goes_678 (by decide) ?_
                                    refine lv_goto (tgt := 683) hx hb dL_goes_679 (by decide) ?_
                                    exact sg_iret hx hb hr rfl hlocks hP hD hS (Nat.le_of_ble_eq_true rfl) (Nat.le_of_ble_eq_true rfl) dL_goes_683 (⟨rfl, LI.mk ((hXX.far hG.2.2).mon (Nat.le_succ c)) hG hL⟩)
                              · exfalso; omega
                            · skip
                              refine lv_aload hx hb dL_goes_627 (lv_at hl 11 rfl) ?_
                              refine lv_iload hx hb dL_goes_629 (lv_at hl 3 rfl) ?_
                              refine lv_iload hx hb dL_goes_631 (lv_at hl 5 rfl) ?_
                              refine lw_iast hx hb hK hP hD hS hG.a2 (k := kk) (by omega) dL_goes_633 (fun H locs hP hD hS => ?_)
                              have hG := hG.u2 (k := kk) (v := nI rt)
                              have hL2 := LR.rate (w := kk) (v := nI rt) hL (by omega)
                              refine lv_aload_n hx hb dL_goes_634 rfl (lv_at hl 6 rfl) ?_
                              refine lv_iconst (v := nI 0) hx hb dL_goes_635 (by decide) ?_
                              refine lv_iload hx hb dL_goes_636 (lv_at hl 3 rfl) ?_
                              refine lv_iload hx hb dL_goes_638 (lv_at hl 5 rfl) ?_
                              refine sg_xcalli hD hS hA (vx_runSX (As := [.ref x, .int (nI 0), .int (nI kk), .int (nI rt)]) (rest := []) ⟨hx, hb, hml, hown, hts⟩ (c_L_act0 l hfl D Y _ _ x M N t c (nI kk) (nI rt) (hXX.far hG.2.2) hc) (vx_cwSW 4 hts gL_goes_L_act rfl rfl rfl (by decide +kernel) ⟨(Nat.le_of_ble_eq_true rfl), (Nat.le_of_ble_eq_true rfl)⟩) (lh_preS hK hP hD hN hC hX hS hA) rfl rfl hl.1 rfl (lv_room (Nat.le_of_ble_eq_true rfl)) dL_goes_640 ⟨(Nat.le_of_ble_eq_true rfl), (Nat.le_of_ble_eq_true rfl)⟩) (fun E ce q9 H locs hpx hP hD hS hce hcv hcl => False.elim hpx) (fun r9 σ' H locs hw9 hP hD hS => ?_)
                              have hq9 : qIn (nI rt) 1 15 := (qn (a := 1) (b := 15) (by decide) (by decide) (by omega)).mpr ⟨by omega, by omega⟩
                              have hw9 := (hw9.resolve_left (fun z => z.1 hvi)).resolve_left (fun z => z.1.2 hq9)
                              obtain ⟨-, e9, hX9⟩ := hw9.resolve_left (fun z => z.1.2.2 hst)
                              have hG := hG.by hX9.ho
                              refine lv_iload hx hb dL_goes_643 (lv_at hl 2 rfl) ?_
                              refine lw_if_ne (tgt := 653) (a := 1) hx hb dL_goes_645 (by decide) (by omega) (fun c645 => ?_) (fun c645 => ?_)
                              · skip
                                refine lv_iload hx hb dL_goes_653 (lv_at hl 4 rfl) ?_
                                refine lw_if_ne (tgt := 663) (a := fi) hx hb dL_goes_655 (by decide) (by omega) (fun c655 => ?_) (fun c655 => ?_)
                                · skip
                                  refine lv_iload hx hb dL_goes_663 (lv_at hl 1 rfl) ?_
                                  refine lw_if_eq (tgt := 673) (a := 1) hx hb dL_goes_665 (by decide) (by omega) (fun c665 => ?_) (fun c665 => ?_)
                                  · exfalso; omega
                                  · skip
                                    refine lv_iload hx hb dL_goes_668 (lv_at hl 0 rfl) ?_
                                    refine lv_goto (tgt := 675) hx hb dL_goes_670 (by decide) ?_
                                    refine lv_icmp_ne (tgt := 682) hx hb dL_goes_675 (by decide) (fun c675 => ?_) (fun c675 => ?_)
                                    · exact absurd (e9.trans (show sI M 4 (tN (nI kk)) = gI G 2 kk by rw [ek, ← Nat.zero_add kk, hL.at (by omega) (show mP 0 4 by unfold mP; omega), Nat.zero_add])) c675
                                    · skip
                                      refine lv_iconst (v := nI 1) hx hb dL_goes_678 (by decide) ?_
                                      refine lv_goto (tgt := 683) hx hb dL_goes_679 (by decide) ?_
                                      exact sg_iret hx hb hr rfl hlocks hP hD hS (Nat.le_of_ble_eq_true rfl) (Nat.le_of_ble_eq_true rfl) dL_goes_683 (⟨rfl, LI.mk hX9.self hG hL2⟩)
                                · exfalso; omega
                              · exfalso; omega
              · skip
                refine lv_istore (lv' := [(13, .int (-1)), (12, .int (nI fi)), (11, .int (nI rt)), (0, .ref x), (1, .int (nI 3)), (2, .int y), (3, .ref (ad 0)), (4, .ref (ad 1)), (5, .ref (ad 2)), (6, .ref (ad 3)), (7, .ref (ad 4)), (8, .ref (ad 5)), (9, .ref (ad 6)), (10, .ref (ad 7))]) hx hb dL_goes_552 hl (by decide) rfl (fun ls hl => ?_)
                refine lv_iload hx hb dL_goes_554 (lv_at hl 0 rfl) ?_
                refine lv_if_lt (tgt := 571) hx hb dL_goes_556 (by decide) (fun c556 => ?_) (fun c556 => ?_)
                · have hnv : ¬ vp_in (-1) N := vn1
                  refine lv_iconst (v := nI 0) hx hb dL_goes_571 (by decide) ?_
                  refine lv_istore (lv' := [(14, .int (nI 0)), (13, .int (-1)), (12, .int (nI fi)), (11, .int (nI rt)), (0, .ref x), (1, .int (nI 3)), (2, .int y), (3, .ref (ad 0)), (4, .ref (ad 1)), (5, .ref (ad 2)), (6, .ref (ad 3)), (7, .ref (ad 4)), (8, .ref (ad 5)), (9, .ref (ad 6)), (10, .ref (ad 7))]) hx hb dL_goes_572 hl (by decide) rfl (fun ls hl => ?_)
                  refine lv_iload hx hb dL_goes_574 (lv_at hl 0 rfl) ?_
                  refine lw_if_eq (tgt := 593) (a := 0) hx hb dL_goes_576 (by decide) (by omega) (fun c576 => ?_) (fun c576 => ?_)
                  · skip
                    refine lv_iconst (v := nI 0) hx hb dL_goes_593 (by decide) ?_
                    refine lv_istore (lv' := [(15, .int (nI 0)), (14, .int (nI 0)), (13, .int (-1)), (12, .int (nI fi)), (11, .int (nI rt)), (0, .ref x), (1, .int (nI 3)), (2, .int y), (3, .ref (ad 0)), (4, .ref (ad 1)), (5, .ref (ad 2)), (6, .ref (ad 3)), (7, .ref (ad 4)), (8, .ref (ad 5)), (9, .ref (ad 6)), (10, .ref (ad 7))]) hx hb dL_goes_594 hl (by decide) rfl (fun ls hl => ?_)
                    refine lv_iload_n hx hb dL_goes_596 rfl (lv_at hl 6 rfl) ?_
                    refine lv_iconst (v := nI 3) hx hb dL_goes_597 (by decide) ?_
                    refine lw_icmp_ne (tgt := 684) (a := 3) (b := 3) hx hb dL_goes_598 (by decide) (by omega) (by omega) (fun c598 => ?_) (fun c598 => ?_)
                    · exfalso; omega
                    · skip
                      refine lv_iload hx hb dL_goes_601 (lv_at hl 1 rfl) ?_
                      refine lw_if_eq (tgt := 614) (a := 0) hx hb dL_goes_603 (by decide) (by omega) (fun c603 => ?_) (fun c603 => ?_)
                      · skip
                        refine lv_iconst (v := nI 0) hx hb dL_goes_614 (by decide) ?_
                        refine lv_istore (lv' := [(16, .int (nI 0)), (15, .int (nI 0)), (14, .int (nI 0)), (13, .int (-1)), (12, .int (nI fi)), (11, .int (nI rt)), (0, .ref x), (1, .int (nI 3)), (2, .int y), (3, .ref (ad 0)), (4, .ref (ad 1)), (5, .ref (ad 2)), (6, .ref (ad 3)), (7, .ref (ad 4)), (8, .ref (ad 5)), (9, .ref (ad 6)), (10, .ref (ad 7))]) hx hb dL_goes_615 hl (by decide) rfl (fun ls hl => ?_)
                        refine lv_iload hx hb dL_goes_617 (lv_at hl 1 rfl) ?_
                        refine lw_if_eq (tgt := 634) (a := 0) hx hb dL_goes_619 (by decide) (by omega) (fun c619 => ?_) (fun c619 => ?_)
                        · skip
                          refine lv_aload_n hx hb dL_goes_634 rfl (lv_at hl 6 rfl) ?_
                          refine lv_iconst (v := nI 0) hx hb dL_goes_635 (by decide) ?_
                          refine lv_iload hx hb dL_goes_636 (lv_at hl 3 rfl) ?_
                          refine lv_iload hx hb dL_goes_638 (lv_at hl 5 rfl) ?_
                          refine sg_xcalli hD hS hA (vx_runSX (As := [.ref x, .int (nI 0), .int (-1), .int (nI rt)]) (rest := []) ⟨hx, hb, hml, hown, hts⟩ (c_L_act0 l hfl D Y _ _ x M N t c (-1) (nI rt) (hXX.far hG.2.2) hc) (vx_cwSW 4 hts gL_goes_L_act rfl rfl rfl (by decide +kernel) ⟨(Nat.le_of_ble_eq_true rfl), (Nat.le_of_ble_eq_true rfl)⟩) (lh_preS hK hP hD hN hC hX hS hA) rfl rfl hl.1 rfl (lv_room (Nat.le_of_ble_eq_true rfl)) dL_goes_640 ⟨(Nat.le_of_ble_eq_true rfl), (Nat.le_of_ble_eq_true rfl)⟩) (fun E ce q9 H locs hpx hP hD hS hce hcv hcl => False.elim hpx) (fun r9 σ' H locs hw9 hP hD hS => ?_)
                          obtain ⟨-, rfl, rfl⟩ := hw9.resolve_right (fun z => z.elim (fun z => hnv z.1.1) (fun z => z.elim (fun z => hnv z.1.1) (fun z => hnv z.1.1)))
                          refine lv_iload hx hb dL_goes_643 (lv_at hl 2 rfl) ?_
                          refine lw_if_ne (tgt := 653) (a := 0) hx hb dL_goes_645 (by decide) (by omega) (fun c645 => ?_) (fun c645 => ?_)
                          · exfalso; omega
                          · skip
                            refine lv_bipush (v := (-101)) hx hb dL_goes_648 (by decide) ?_
                            refine lv_goto (tgt := 675) hx hb dL_goes_650 (by decide) ?_
                            refine lv_icmp_ne (tgt := 682) hx hb dL_goes_675 (by decide) (fun c675 => ?_) (fun c675 => ?_)
                            · exact absurd rfl c675
                            · skip
                              refine lv_iconst (v := nI 1) hx hb dL_goes_678 (by decide) ?_
                              refine lv_goto (tgt := 683) hx hb dL_goes_679 (by decide) ?_
                              exact sg_iret hx hb hr rfl hlocks hP hD hS (Nat.le_of_ble_eq_true rfl) (Nat.le_of_ble_eq_true rfl) dL_goes_683 (⟨rfl, LI.mk ((hXX.far hG.2.2).mon (Nat.le_succ c)) hG hL⟩)
                        · exfalso; omega
                      · exfalso; omega
                  · exfalso; omega
                · exact absurd (by decide) c556
            · skip
              refine lv_iload_n hx hb dL_goes_523 rfl (lv_at hl 4 rfl) ?_
              refine lv_iconst (v := nI 4) hx hb dL_goes_524 (by decide) ?_
              refine lv_ishr hx hb dL_goes_525 ?_
              refine lv_topi (fun v525 _ => ?_)
              refine lv_aload_n hx hb dL_goes_526 rfl (lv_at hl 5 rfl) ?_
              refine lv_iconst (v := nI 1) hx hb dL_goes_527 (by decide) ?_
              refine lw_iald hx hb hK hP hG.a0 (k := 1) (by omega) (v := nI N) (e1) dL_goes_528 ?_
              refine lv_iconst (v := nI 1) hx hb dL_goes_529 (by decide) ?_
              refine lw_iadd (a := N) (b := 1) hx hb dL_goes_530 ?_
              refine sg_calli hD hS hA (va_runS (As := [.int v525, .int (nI (N + 1))]) (rest := []) ⟨hx, hb, hml, hown, hts⟩ (c_L_some l D Y _ _ v525 (N + 1) (by omega) (by omega)) (va_cwS 2 hts gL_goes_L_some rfl rfl rfl (by decide +kernel) ⟨(Nat.le_of_ble_eq_true rfl), (Nat.le_of_ble_eq_true rfl)⟩) (sg_preS hK hP hD hN hX hS hA) rfl rfl hl.1 rfl (lv_room (Nat.le_of_ble_eq_true rfl)) dL_goes_531 ⟨(Nat.le_of_ble_eq_true rfl), (Nat.le_of_ble_eq_true rfl)⟩) (fun r9 σ' H locs hw9 hP hD hS => ?_)
              obtain ⟨w531, hw531, rfl, rfl⟩ := hw9
              refine lv_iload_n hx hb dL_goes_534 rfl (lv_at hl 4 rfl) ?_
              refine lv_bipush (v := nI 11) hx hb dL_goes_535 (by decide) ?_
              refine lv_ishr hx hb dL_goes_537 ?_
              refine lv_topi (fun v537 _ => ?_)
              refine lv_bipush (v := nI 19) hx hb dL_goes_538 (by decide) ?_
              refine sg_calli hD hS hA (va_runS (As := [.int v537, .int (nI 19)]) (rest := [.int (nI w531)]) ⟨hx, hb, hml, hown, hts⟩ (c_L_some l D Y _ _ v537 19 (by omega) (by omega)) (va_cwS 2 hts gL_goes_L_some rfl rfl rfl (by decide +kernel) ⟨(Nat.le_of_ble_eq_true rfl), (Nat.le_of_ble_eq_true rfl)⟩) (sg_preS hK hP hD hN hX hS hA) rfl rfl hl.1 rfl (lv_room (Nat.le_of_ble_eq_true rfl)) dL_goes_540 ⟨(Nat.le_of_ble_eq_true rfl), (Nat.le_of_ble_eq_true rfl)⟩) (fun r9 σ' H locs hw9 hP hD hS => ?_)
              obtain ⟨w540, hw540, rfl, rfl⟩ := hw9
              refine lw_if_ne (tgt := 550) (a := w540) hx hb dL_goes_543 (by decide) (by omega) (fun c543 => ?_) (fun c543 => ?_)
              · skip
                refine lv_iconst (v := nI 0) hx hb dL_goes_550 (by decide) ?_
                refine lv_isub hx hb dL_goes_551 ?_
                exact k552 _ _ _ _ (⟨k_dec hw531 (by omega) (Or.inl rfl), rfl⟩) hP hD hS
              · skip
                refine lv_iconst (v := nI 1) hx hb dL_goes_546 (by decide) ?_
                refine lv_goto (tgt := 551) hx hb dL_goes_547 (by decide) ?_
                refine lv_isub hx hb dL_goes_551 ?_
                exact k552 _ _ _ _ (⟨k_dec hw531 (by omega) (Or.inr rfl), rfl⟩) hP hD hS
          · exfalso; omega
        · skip
          refine lv_iload hx hb dL_goes_403 (lv_at hl 0 rfl) ?_
          refine lw_if_le (tgt := 419) (a := rt) hx hb dL_goes_405 (by decide) (by omega) (fun c405 => ?_) (fun c405 => ?_)
          · skip
            refine lv_iconst (v := nI 0) hx hb dL_goes_419 (by decide) ?_
            exact k420 _ _ _ _ (⟨0, by omega, rfl, rfl⟩) hP hD hS
          · skip
            refine lv_iload hx hb dL_goes_408 (lv_at hl 0 rfl) ?_
            refine lv_bipush (v := nI 16) hx hb dL_goes_410 (by decide) ?_
            refine lw_icmp_ge (tgt := 419) (a := rt) (b := 16) hx hb dL_goes_412 (by decide) (by omega) (by omega) (fun c412 => ?_) (fun c412 => ?_)
            · skip
              refine lv_iconst (v := nI 0) hx hb dL_goes_419 (by decide) ?_
              exact k420 _ _ _ _ (⟨0, by omega, rfl, rfl⟩) hP hD hS
            · skip
              refine lv_iconst (v := nI 1) hx hb dL_goes_415 (by decide) ?_
              refine lv_goto (tgt := 420) hx hb dL_goes_416 (by decide) ?_
              exact k420 _ _ _ _ (⟨1, by omega, rfl, rfl⟩) hP hD hS
      · skip
        refine lv_iload_n hx hb dL_goes_371 rfl (lv_at hl 2 rfl) ?_
        refine lv_bipush (v := nI 30) hx hb dL_goes_372 (by decide) ?_
        refine sg_calli hD hS hA (va_runS (As := [.int y, .int (nI 30)]) (rest := []) ⟨hx, hb, hml, hown, hts⟩ (c_L_some l D Y _ _ y 30 (by omega) (by omega)) (va_cwS 2 hts gL_goes_L_some rfl rfl rfl (by decide +kernel) ⟨(Nat.le_of_ble_eq_true rfl), (Nat.le_of_ble_eq_true rfl)⟩) (sg_preS hK hP hD hN hX hS hA) rfl rfl hl.1 rfl (lv_room (Nat.le_of_ble_eq_true rfl)) dL_goes_374 ⟨(Nat.le_of_ble_eq_true rfl), (Nat.le_of_ble_eq_true rfl)⟩) (fun r9 σ' H locs hw9 hP hD hS => ?_)
        obtain ⟨w374, hw374, rfl, rfl⟩ := hw9
        refine lw_if_ne (tgt := 393) (a := w374) hx hb dL_goes_377 (by decide) (by omega) (fun c377 => ?_) (fun c377 => ?_)
        · skip
          refine lv_iconst (v := nI 1) hx hb dL_goes_393 (by decide) ?_
          refine lv_iload_n hx hb dL_goes_394 rfl (lv_at hl 2 rfl) ?_
          refine lv_bipush (v := nI 15) hx hb dL_goes_395 (by decide) ?_
          refine sg_calli hD hS hA (va_runS (As := [.int y, .int (nI 15)]) (rest := [.int (nI 1)]) ⟨hx, hb, hml, hown, hts⟩ (c_L_some l D Y _ _ y 15 (by omega) (by omega)) (va_cwS 2 hts gL_goes_L_some rfl rfl rfl (by decide +kernel) ⟨(Nat.le_of_ble_eq_true rfl), (Nat.le_of_ble_eq_true rfl)⟩) (sg_preS hK hP hD hN hX hS hA) rfl rfl hl.1 rfl (lv_room (Nat.le_of_ble_eq_true rfl)) dL_goes_397 ⟨(Nat.le_of_ble_eq_true rfl), (Nat.le_of_ble_eq_true rfl)⟩) (fun r9 σ' H locs hw9 hP hD hS => ?_)
          obtain ⟨w397, hw397, rfl, rfl⟩ := hw9
          refine lw_iadd (a := 1) (b := w397) hx hb dL_goes_400 ?_
          exact k401 _ _ _ _ (⟨1 + w397, by omega, rfl, rfl⟩) hP hD hS
        · skip
          refine lv_bipush (v := nI 16) hx hb dL_goes_380 (by decide) ?_
          refine lv_iload_n hx hb dL_goes_382 rfl (lv_at hl 2 rfl) ?_
          refine lv_iconst (v := nI 3) hx hb dL_goes_383 (by decide) ?_
          refine lv_ishr hx hb dL_goes_384 ?_
          refine lv_topi (fun v384 _ => ?_)
          refine lv_iconst (v := nI 2) hx hb dL_goes_385 (by decide) ?_
          refine sg_calli hD hS hA (va_runS (As := [.int v384, .int (nI 2)]) (rest := [.int (nI 16)]) ⟨hx, hb, hml, hown, hts⟩ (c_L_some l D Y _ _ v384 2 (by omega) (by omega)) (va_cwS 2 hts gL_goes_L_some rfl rfl rfl (by decide +kernel) ⟨(Nat.le_of_ble_eq_true rfl), (Nat.le_of_ble_eq_true rfl)⟩) (sg_preS hK hP hD hN hX hS hA) rfl rfl hl.1 rfl (lv_room (Nat.le_of_ble_eq_true rfl)) dL_goes_386 ⟨(Nat.le_of_ble_eq_true rfl), (Nat.le_of_ble_eq_true rfl)⟩) (fun r9 σ' H locs hw9 hP hD hS => ?_)
          obtain ⟨w386, hw386, rfl, rfl⟩ := hw9
          refine lw_imul (a := 16) (b := w386) hx hb dL_goes_389 ?_
          refine lv_goto (tgt := 401) hx hb dL_goes_390 (by decide) ?_
          exact k401 _ _ _ _ (⟨16 * w386, by omega, rfl, rfl⟩) hP hD hS
    · exfalso; omega
  · exfalso; omega

set_option maxHeartbeats 4000000 in
set_option maxRecDepth 100000 in
theorem c_L_goes4 (l : Launch) (hfl : l.stackTraces = false) (D : va_G) (Y : Nat → ClassId) (σ : sg_W) (sz : Nat) (ad : Nat → Nat) (x : Nat) (G : ZG) (M : MS) (N t c : Nat) (y : Int32) (hXX : CX Y x σ M N t c σ) (hG : ZF Y ad σ G σ) (hL : LR G M N t) (hc : c < 512) : Met l yL_goes wsL_goes ({ frames := 9, cells := 6, slots := 50, locals := 160 } : Room) (va_Pc [.ref x, .int (nI 4), .int y, .ref (ad 0), .ref (ad 1), .ref (ad 2), .ref (ad 3), .ref (ad 4), .ref (ad 5), .ref (ad 6), .ref (ad 7)] (lh_U D Y σ sz)) (va_Qi (fun r σ' => r = nI 1 ∧ LI Y x ad (c + 1) σ') (sg_B D σ sz) (sg_A σ sz)) 6 50 (sg_A σ sz) := by
  refine lh_metP (cc := cL_goes) (maxL := 19) (ret := (some .boolean)) (by decide) rfl (Nat.le_of_ble_eq_true rfl) ?_
  intro p e s m below meth cd9 ls hx hb hml hr hown hts hlocks hnm hP hK hD hN hC hX hA hS hsz hl
  have hl : lv_has ls 19 [(0, .ref x), (1, .int (nI 4)), (2, .int y), (3, .ref (ad 0)), (4, .ref (ad 1)), (5, .ref (ad 2)), (6, .ref (ad 3)), (7, .ref (ad 4)), (8, .ref (ad 5)), (9, .ref (ad 6)), (10, .ref (ad 7))] := hl
  have hIV := hXX.iv
  have hN4 := hL.1.1
  have ht6 := hIV.1.2.1
  have hNt := hIV.1.2.2.1
  obtain ⟨⟨-, e0, e1, e2⟩, eP, -, eQ, -, hfr⟩ := id hL
  refine lv_iload_n hx hb dL_goes_0 rfl (lv_at hl 1 rfl) ?_
  refine lw_if_ne (tgt := 277) (a := 4) hx hb dL_goes_1 (by decide) (by omega) (fun c1 => ?_) (fun c1 => ?_)
  · skip
    refine lv_iload_n hx hb dL_goes_277 rfl (lv_at hl 1 rfl) ?_
    refine lv_iconst (v := nI 1) hx hb dL_goes_278 (by decide) ?_
    refine lw_icmp_ne (tgt := 371) (a := 4) (b := 1) hx hb dL_goes_279 (by decide) (by omega) (by omega) (fun c279 => ?_) (fun c279 => ?_)
    · skip
      refine sg_cutwi (D := D) hS (j := 401) (ls := ls) (rest := []) (0) (0) (fun x9 σ' => ∃ v9 : Nat, v9 ≤ 16 ∧ x9 = nI v9 ∧ σ = σ') (fun x9 σ' H locs hj9 hP hD hS => ?_) (fun k401 => ?_)
      · obtain ⟨rt, hrt, rfl, rfl⟩ := hj9
        refine lv_istore (lv' := [(11, .int (nI rt)), (0, .ref x), (1, .int (nI 4)), (2, .int y), (3, .ref (ad 0)), (4, .ref (ad 1)), (5, .ref (ad 2)), (6, .ref (ad 3)), (7, .ref (ad 4)), (8, .ref (ad 5)), (9, .ref (ad 6)), (10, .ref (ad 7))]) hx hb dL_goes_401 hl (by decide) rfl (fun ls hl => ?_)
        refine sg_cutwi (D := D) hS (j := 420) (ls := ls) (rest := []) (0) (0) (fun x9 σ' => ∃ v9 : Nat, ((v9 = 1 ∧ (0 < rt ∧ rt < 16)) ∨ (v9 = 0 ∧ ¬ (0 < rt ∧ rt < 16))) ∧ x9 = nI v9 ∧ σ = σ') (fun x9 σ' H locs hj9 hP hD hS => ?_) (fun k420 => ?_)
        · obtain ⟨fi, hfi, rfl, rfl⟩ := hj9
          refine lv_istore (lv' := [(12, .int (nI fi)), (11, .int (nI rt)), (0, .ref x), (1, .int (nI 4)), (2, .int y), (3, .ref (ad 0)), (4, .ref (ad 1)), (5, .ref (ad 2)), (6, .ref (ad 3)), (7, .ref (ad 4)), (8, .ref (ad 5)), (9, .ref (ad 6)), (10, .ref (ad 7))]) hx hb dL_goes_420 hl (by decide) rfl (fun ls hl => ?_)
          refine lv_iload_n hx hb dL_goes_422 rfl (lv_at hl 3 rfl) ?_
          refine lv_iconst (v := nI 2) hx hb dL_goes_423 (by decide) ?_
          refine lw_icmp_ne (tgt := 523) (a := 4) (b := 2) hx hb dL_goes_424 (by decide) (by omega) (by omega) (fun c424 => ?_) (fun c424 => ?_)
          · skip
            refine sg_cutwi (D := D) hS (j := 552) (ls := ls) (rest := []) (0) (0) (fun x9 σ' => ((∃ v9 : Nat, v9 < N + 1 ∧ x9 = nI v9) ∨ x9 = -1) ∧ σ = σ') (fun x9 σ' H locs hj9 hP hD hS => ?_) (fun k552 => ?_)
            · obtain ⟨hk9, rfl⟩ := hj9
              rcases hk9 with ⟨kk, hkk, rfl⟩ | rfl
              · skip
                refine lv_istore (lv' := [(13, .int (nI kk)), (12, .int (nI fi)), (11, .int (nI rt)), (0, .ref x), (1, .int (nI 4)), (2, .int y), (3, .ref (ad 0)), (4, .ref (ad 1)), (5, .ref (ad 2)), (6, .ref (ad 3)), (7, .ref (ad 4)), (8, .ref (ad 5)), (9, .ref (ad 6)), (10, .ref (ad 7))]) hx hb dL_goes_552 hl (by decide) rfl (fun ls hl => ?_)
                refine lv_iload hx hb dL_goes_554 (lv_at hl 0 rfl) ?_
                refine lw_if_lt (tgt := 571) (a := kk) hx hb dL_goes_556 (by decide) (by omega) ?_
                refine lv_iload hx hb dL_goes_559 (lv_at hl 0 rfl) ?_
                refine lv_aload_n hx hb dL_goes_561 rfl (lv_at hl 6 rfl) ?_
                refine lv_iconst (v := nI 1) hx hb dL_goes_562 (by decide) ?_
                refine lw_iald hx hb hK hP hG.a0 (k := 1) (by omega) (v := nI N) (e1) dL_goes_563 ?_
                refine lw_icmp_ge (tgt := 571) (a := kk) (b := N) hx hb dL_goes_564 (by decide) (by omega) (by omega) (fun c564 => ?_) (fun c564 => ?_)
                · have hnv : ¬ vp_in (nI kk) N := fun z => absurd ((vn (by omega) (by omega)).mp z) (by omega)
                  refine lv_iconst (v := nI 0) hx hb dL_goes_571 (by decide) ?_
                  refine lv_istore (lv' := [(14, .int (nI 0)), (13, .int (nI kk)), (12, .int (nI fi)), (11, .int (nI rt)), (0, .ref x), (1, .int (nI 4)), (2, .int y), (3, .ref (ad 0)), (4, .ref (ad 1)), (5, .ref (ad 2)), (6, .ref (ad 3)), (7, .ref (ad 4)), (8, .ref (ad 5)), (9, .ref (ad 6)), (10, .ref (ad 7))]) hx hb dL_goes_572 hl (by decide) rfl (fun ls hl => ?_)
                  refine lv_iload hx hb dL_goes_574 (lv_at hl 0 rfl) ?_
                  refine lw_if_eq (tgt := 593) (a := 0) hx hb dL_goes_576 (by decide) (by omega) (fun c576 => ?_) (fun c576 => ?_)
                  · skip
                    refine lv_iconst (v := nI 0) hx hb dL_goes_593 (by decide) ?_
                    refine lv_istore (lv' := [(15, .int (nI 0)), (14, .int (nI 0)), (13, .int (nI kk)), (12, .int (nI fi)), (11, .int (nI rt)), (0, .ref x), (1, .int (nI 4)), (2, .int y), (3, .ref (ad 0)), (4, .ref (ad 1)), (5, .ref (ad 2)), (6, .ref (ad 3)), (7, .ref (ad 4)), (8, .ref (ad 5)), (9, .ref (ad 6)), (10, .ref (ad 7))]) hx hb dL_goes_594 hl (by decide) rfl (fun ls hl => ?_)
                    refine lv_iload_n hx hb dL_goes_596 rfl (lv_at hl 6 rfl) ?_
                    refine lv_iconst (v := nI 3) hx hb dL_goes_597 (by decide) ?_
                    refine lw_icmp_ne (tgt := 684) (a := 4) (b := 3) hx hb dL_goes_598 (by decide) (by omega) (by omega) (fun c598 => ?_) (fun c598 => ?_)
                    · skip
                      refine lv_iload_n hx hb dL_goes_684 rfl (lv_at hl 6 rfl) ?_
                      refine lv_iconst (v := nI 4) hx hb dL_goes_685 (by decide) ?_
                      refine lw_icmp_ne (tgt := 777) (a := 4) (b := 4) hx hb dL_goes_686 (by decide) (by omega) (by omega) (fun c686 => ?_) (fun c686 => ?_)
                      · exfalso; omega
                      · skip
                        refine lv_iload hx hb dL_goes_689 (lv_at hl 1 rfl) ?_
                        refine lw_if_eq (tgt := 705) (a := 0) hx hb dL_goes_691 (by decide) (by omega) (fun c691 => ?_) (fun c691 => ?_)
                        · skip
                          refine lv_iconst (v := nI 0) hx hb dL_goes_705 (by decide) ?_
                          refine lv_istore (lv' := [(16, .int (nI 0)), (15, .int (nI 0)), (14, .int (nI 0)), (13, .int (nI kk)), (12, .int (nI fi)), (11, .int (nI rt)), (0, .ref x), (1, .int (nI 4)), (2, .int y), (3, .ref (ad 0)), (4, .ref (ad 1)), (5, .ref (ad 2)), (6, .ref (ad 3)), (7, .ref (ad 4)), (8, .ref (ad 5)), (9, .ref (ad 6)), (10, .ref (ad 7))]) hx hb dL_goes_706 hl (by decide) rfl (fun ls hl => ?_)
                          refine lv_iload hx hb dL_goes_708 (lv_at hl 1 rfl) ?_
                          refine lw_if_eq (tgt := 740) (a := 0) hx hb dL_goes_710 (by decide) (by omega) (fun c710 => ?_) (fun c710 => ?_)
                          · skip
                            refine lv_aload_n hx hb dL_goes_740 rfl (lv_at hl 6 rfl) ?_
                            refine lv_iload hx hb dL_goes_741 (lv_at hl 3 rfl) ?_
                            refine sg_xcalli hD hS hA (vx_runSX (As := [.ref x, .int (nI kk)]) (rest := []) ⟨hx, hb, hml, hown, hts⟩ (c_L_leaves l hfl D Y _ _ x M N t c (nI kk) (hXX.far hG.2.2) hc) (vx_cwSW 2 hts gL_goes_L_leaves rfl rfl rfl (by decide +kernel) ⟨(Nat.le_of_ble_eq_true rfl), (Nat.le_of_ble_eq_true rfl)⟩) (lh_preS hK hP hD hN hC hX hS hA) rfl rfl hl.1 rfl (lv_room (Nat.le_of_ble_eq_true rfl)) dL_goes_743 ⟨(Nat.le_of_ble_eq_true rfl), (Nat.le_of_ble_eq_true rfl)⟩) (fun E ce q9 H locs hpx hP hD hS hce hcv hcl => False.elim hpx) (fun r9 σ' H locs hw9 hP hD hS => ?_)
                            obtain ⟨-, rfl, rfl⟩ := hw9.resolve_right (fun z => z.elim (fun z => hnv z.1.1) (fun z => hnv z.1.1))
                            refine lv_iload hx hb dL_goes_746 (lv_at hl 2 rfl) ?_
                            refine lw_if_ne (tgt := 756) (a := 0) hx hb dL_goes_748 (by decide) (by omega) (fun c748 => ?_) (fun c748 => ?_)
                            · exfalso; omega
                            · skip
                              refine lv_bipush (v := (-101)) hx hb dL_goes_751 (by decide) ?_
                              refine lv_goto (tgt := 768) hx hb dL_goes_753 (by decide) ?_
                              refine lv_icmp_ne (tgt := 775) hx hb dL_goes_768 (by decide) (fun c768 => ?_) (fun c768 => ?_)
                              · exact absurd rfl c768
                              · skip
                                refine lv_iconst (v := nI 1) hx hb dL_goes_771 (by decide) ?_
                                refine lv_goto (tgt := 776) hx hb dL_goes_772 (by decide) ?_
                                exact sg_iret hx hb hr rfl hlocks hP hD hS (Nat.le_of_ble_eq_true rfl) (Nat.le_of_ble_eq_true rfl) dL_goes_776 (⟨rfl, LI.mk ((hXX.far hG.2.2).mon (Nat.le_succ c)) hG hL⟩)
                          · exfalso; omega
                        · exfalso; omega
                    · exfalso; omega
                  · exfalso; omega
                · have hvi : vp_in (nI kk) N := vp_in_nI (by omega) (by omega)
                  have ek : tN (nI kk) = kk := nI_clamp (by omega)
                  have e5 : gI G 2 (4 + kk) = sI M 5 kk := hL.at (by omega) (show mP 4 5 by unfold mP; omega)
                  refine lv_iconst (v := nI 1) hx hb dL_goes_567 (by decide) ?_
                  refine lv_goto (tgt := 572) hx hb dL_goes_568 (by decide) ?_
                  refine lv_istore (lv' := [(14, .int (nI 1)), (13, .int (nI kk)), (12, .int (nI fi)), (11, .int (nI rt)), (0, .ref x), (1, .int (nI 4)), (2, .int y), (3, .ref (ad 0)), (4, .ref (ad 1)), (5, .ref (ad 2)), (6, .ref (ad 3)), (7, .ref (ad 4)), (8, .ref (ad 5)), (9, .ref (ad 6)), (10, .ref (ad 7))]) hx hb dL_goes_572 hl (by decide) rfl (fun ls hl => ?_)
                  refine lv_iload hx hb dL_goes_574 (lv_at hl 0 rfl) ?_
                  refine lw_if_eq (tgt := 593) (a := 1) hx hb dL_goes_576 (by decide) (by omega) (fun c576 => ?_) (fun c576 => ?_)
                  · exfalso; omega
                  · skip
                    refine lv_aload hx hb dL_goes_579 (lv_at hl 9 rfl) ?_
                    refine lv_iconst (v := nI 4) hx hb dL_goes_581 (by decide) ?_
                    refine lv_iload hx hb dL_goes_582 (lv_at hl 1 rfl) ?_
                    refine lw_iadd (a := 4) (b := kk) hx hb dL_goes_584 ?_
                    refine lw_iald hx hb hK hP hG.a2 (k := 4 + kk) (by omega) (v := gI G 2 (4 + kk)) (rfl) dL_goes_585 ?_
                    refine lv_if_ne (tgt := 593) hx hb dL_goes_586 (by decide) (fun c586 => ?_) (fun c586 => ?_)
                    · have hns : ¬ sI M 5 (tN (nI kk)) = 0 := by rw [ek, ← e5]; exact c586
                      refine lv_iconst (v := nI 0) hx hb dL_goes_593 (by decide) ?_
                      refine lv_istore (lv' := [(15, .int (nI 0)), (14, .int (nI 1)), (13, .int (nI kk)), (12, .int (nI fi)), (11, .int (nI rt)), (0, .ref x), (1, .int (nI 4)), (2, .int y), (3, .ref (ad 0)), (4, .ref (ad 1)), (5, .ref (ad 2)), (6, .ref (ad 3)), (7, .ref (ad 4)), (8, .ref (ad 5)), (9, .ref (ad 6)), (10, .ref (ad 7))]) hx hb dL_goes_594 hl (by decide) rfl (fun ls hl => ?_)
                      refine lv_iload_n hx hb dL_goes_596 rfl (lv_at hl 6 rfl) ?_
                      refine lv_iconst (v := nI 3) hx hb dL_goes_597 (by decide) ?_
                      refine lw_icmp_ne (tgt := 684) (a := 4) (b := 3) hx hb dL_goes_598 (by decide) (by omega) (by omega) (fun c598 => ?_) (fun c598 => ?_)
                      · skip
                        refine lv_iload_n hx hb dL_goes_684 rfl (lv_at hl 6 rfl) ?_
                        refine lv_iconst (v := nI 4) hx hb dL_goes_685 (by decide) ?_
                        refine lw_icmp_ne (tgt := 777) (a := 4) (b := 4) hx hb dL_goes_686 (by decide) (by omega) (by omega) (fun c686 => ?_) (fun c686 => ?_)
                        · exfalso; omega
                        · skip
                          refine lv_iload hx hb dL_goes_689 (lv_at hl 1 rfl) ?_
                          refine lw_if_eq (tgt := 705) (a := 1) hx hb dL_goes_691 (by decide) (by omega) (fun c691 => ?_) (fun c691 => ?_)
                          · exfalso; omega
                          · skip
                            refine lv_aload hx hb dL_goes_694 (lv_at hl 10 rfl) ?_
                            refine lv_bipush (v := nI 8) hx hb dL_goes_696 (by decide) ?_
                            refine lv_iload hx hb dL_goes_698 (lv_at hl 2 rfl) ?_
                            refine lw_iadd (a := 8) (b := kk) hx hb dL_goes_700 ?_
                            refine lw_iald hx hb hK hP hG.a2 (k := 8 + kk) (by omega) (v := gI G 2 (8 + kk)) (rfl) dL_goes_701 ?_
                            refine lv_goto (tgt := 706) hx hb dL_goes_702 (by decide) ?_
                            refine lv_istore (lv' := [(16, .int (gI G 2 (8 + kk))), (15, .int (nI 0)), (14, .int (nI 1)), (13, .int (nI kk)), (12, .int (nI fi)), (11, .int (nI rt)), (0, .ref x), (1, .int (nI 4)), (2, .int y), (3, .ref (ad 0)), (4, .ref (ad 1)), (5, .ref (ad 2)), (6, .ref (ad 3)), (7, .ref (ad 4)), (8, .ref (ad 5)), (9, .ref (ad 6)), (10, .ref (ad 7))]) hx hb dL_goes_706 hl (by decide) rfl (fun ls hl => ?_)
                            refine lv_iload hx hb dL_goes_708 (lv_at hl 1 rfl) ?_
                            refine lw_if_eq (tgt := 740) (a := 0) hx hb dL_goes_710 (by decide) (by omega) (fun c710 => ?_) (fun c710 => ?_)
                            · skip
                              refine lv_aload_n hx hb dL_goes_740 rfl (lv_at hl 6 rfl) ?_
                              refine lv_iload hx hb dL_goes_741 (lv_at hl 3 rfl) ?_
                              refine sg_xcalli hD hS hA (vx_runSX (As := [.ref x, .int (nI kk)]) (rest := []) ⟨hx, hb, hml, hown, hts⟩ (c_L_leaves l hfl D Y _ _ x M N t c (nI kk) (hXX.far hG.2.2) hc) (vx_cwSW 2 hts gL_goes_L_leaves rfl rfl rfl (by decide +kernel) ⟨(Nat.le_of_ble_eq_true rfl), (Nat.le_of_ble_eq_true rfl)⟩) (lh_preS hK hP hD hN hC hX hS hA) rfl rfl hl.1 rfl (lv_room (Nat.le_of_ble_eq_true rfl)) dL_goes_743 ⟨(Nat.le_of_ble_eq_true rfl), (Nat.le_of_ble_eq_true rfl)⟩) (fun E ce q9 H locs hpx hP hD hS hce hcv hcl => False.elim hpx) (fun r9 σ' H locs hw9 hP hD hS => ?_)
                              obtain ⟨-, rfl, rfl⟩ := (hw9.resolve_left (fun z => z.1 hvi)).resolve_right (fun z => hns z.1.2)
                              refine lv_iload hx hb dL_goes_746 (lv_at hl 2 rfl) ?_
                              refine lw_if_ne (tgt := 756) (a := 1) hx hb dL_goes_748 (by decide) (by omega) (fun c748 => ?_) (fun c748 => ?_)
                              · skip
                                refine lv_iload hx hb dL_goes_756 (lv_at hl 1 rfl) ?_
                                refine lw_if_eq (tgt := 766) (a := 0) hx hb dL_goes_758 (by decide) (by omega) (fun c758 => ?_) (fun c758 => ?_)
                                · skip
                                  refine lv_bipush (v := (-102)) hx hb dL_goes_766 (by decide) ?_
                                  refine lv_icmp_ne (tgt := 775) hx hb dL_goes_768 (by decide) (fun c768 => ?_) (fun c768 => ?_)
                                  · exact absurd rfl c768
                                  · skip
                                    refine lv_iconst (v := nI 1) hx hb dL_goes_771 (by decide) ?_
                                    refine lv_goto (tgt := 776) hx hb dL_goes_772 (by decide) ?_
                                    exact sg_iret hx hb hr rfl hlocks hP hD hS (Nat.le_of_ble_eq_true rfl) (Nat.le_of_ble_eq_true rfl) dL_goes_776 (⟨rfl, LI.mk ((hXX.far hG.2.2).mon (Nat.le_succ c)) hG hL⟩)
                                · exfalso; omega
                              · exfalso; omega
                            · exfalso; omega
                      · exfalso; omega
                    · have hst : sI M 5 (tN (nI kk)) = 0 := by rw [ek, ← e5]; exact c586
                      refine lv_iconst (v := nI 1) hx hb dL_goes_589 (by decide) ?_
                      refine lv_goto (tgt := 594) hx hb dL_goes_590 (by decide) ?_
                      refine lv_istore (lv' := [(15, .int (nI 1)), (14, .int (nI 1)), (13, .int (nI kk)), (12, .int (nI fi)), (11, .int (nI rt)), (0, .ref x), (1, .int (nI 4)), (2, .int y), (3, .ref (ad 0)), (4, .ref (ad 1)), (5, .ref (ad 2)), (6, .ref (ad 3)), (7, .ref (ad 4)), (8, .ref (ad 5)), (9, .ref (ad 6)), (10, .ref (ad 7))]) hx hb dL_goes_594 hl (by decide) rfl (fun ls hl => ?_)
                      refine lv_iload_n hx hb dL_goes_596 rfl (lv_at hl 6 rfl) ?_
                      refine lv_iconst (v := nI 3) hx hb dL_goes_597 (by decide) ?_
                      refine lw_icmp_ne (tgt := 684) (a := 4) (b := 3) hx hb dL_goes_598 (by decide) (by omega) (by omega) (fun c598 => ?_) (fun c598 => ?_)
                      · skip
                        refine lv_iload_n hx hb dL_goes_684 rfl (lv_at hl 6 rfl) ?_
                        refine lv_iconst (v := nI 4) hx hb dL_goes_685 (by decide) ?_
                        refine lw_icmp_ne (tgt := 777) (a := 4) (b := 4) hx hb dL_goes_686 (by decide) (by omega) (by omega) (fun c686 => ?_) (fun c686 => ?_)
                        · exfalso; omega
                        · skip
                          refine lv_iload hx hb dL_goes_689 (lv_at hl 1 rfl) ?_
                          refine lw_if_eq (tgt := 705) (a := 1) hx hb dL_goes_691 (by decide) (by omega) (fun c691 => ?_) (fun c691 => ?_)
                          · exfalso; omega
                          · skip
                            refine lv_aload hx hb dL_goes_694 (lv_at hl 10 rfl) ?_
                            refine lv_bipush (v := nI 8) hx hb dL_goes_696 (by decide) ?_
                            refine lv_iload hx hb dL_goes_698 (lv_at hl 2 rfl) ?_
                            refine lw_iadd (a := 8) (b := kk) hx hb dL_goes_700 ?_
                            refine lw_iald hx hb hK hP hG.a2 (k := 8 + kk) (by omega) (v := gI G 2 (8 + kk)) (rfl) dL_goes_701 ?_
                            refine lv_goto (tgt := 706) hx hb dL_goes_702 (by decide) ?_
                            refine lv_istore (lv' := [(16, .int (gI G 2 (8 + kk))), (15, .int (nI 1)), (14, .int (nI 1)), (13, .int (nI kk)), (12, .int (nI fi)), (11, .int (nI rt)), (0, .ref x), (1, .int (nI 4)), (2, .int y), (3, .ref (ad 0)), (4, .ref (ad 1)), (5, .ref (ad 2)), (6, .ref (ad 3)), (7, .ref (ad 4)), (8, .ref (ad 5)), (9, .ref (ad 6)), (10, .ref (ad 7))]) hx hb dL_goes_706 hl (by decide) rfl (fun ls hl => ?_)
                            refine lv_iload hx hb dL_goes_708 (lv_at hl 1 rfl) ?_
                            refine lw_if_eq (tgt := 740) (a := 1) hx hb dL_goes_710 (by decide) (by omega) (fun c710 => ?_) (fun c710 => ?_)
                            · exfalso; omega
                            · skip
                              refine lv_aload hx hb dL_goes_713 (lv_at hl 11 rfl) ?_
                              refine lv_iconst (v := nI 4) hx hb dL_goes_715 (by decide) ?_
                              refine lv_iload hx hb dL_goes_716 (lv_at hl 3 rfl) ?_
                              refine lw_iadd (a := 4) (b := kk) hx hb dL_goes_718 ?_
                              refine lv_iconst (v := nI 1) hx hb dL_goes_719 (by decide) ?_
                              refine lw_iast hx hb hK hP hD hS hG.a2 (k := 4 + kk) (by omega) dL_goes_720 (fun H locs hP hD hS => ?_)
                              have hG := hG.u2 (k := 4 + kk) (v := nI 1)
                              refine lv_aload hx hb dL_goes_721 (lv_at hl 11 rfl) ?_
                              refine lv_bipush (v := nI 24) hx hb dL_goes_723 (by decide) ?_
                              refine lv_iload hx hb dL_goes_725 (lv_at hl 3 rfl) ?_
                              refine lw_iadd (a := 24) (b := kk) hx hb dL_goes_727 ?_
                              refine lv_iload hx hb dL_goes_728 (lv_at hl 0 rfl) ?_
                              refine lw_iast hx hb hK hP hD hS hG.a2 (k := 24 + kk) (by omega) dL_goes_730 (fun H locs hP hD hS => ?_)
                              have hG := hG.u2 (k := 24 + kk) (v := gI G 2 (8 + kk))
                              refine lv_aload hx hb dL_goes_731 (lv_at hl 11 rfl) ?_
                              refine lv_bipush (v := nI 8) hx hb dL_goes_733 (by decide) ?_
                              refine lv_iload hx hb dL_goes_735 (lv_at hl 3 rfl) ?_
                              refine lw_iadd (a := 8) (b := kk) hx hb dL_goes_737 ?_
                              refine lv_iconst (v := nI 0) hx hb dL_goes_738 (by decide) ?_
                              refine lw_iast hx hb hK hP hD hS hG.a2 (k := 8 + kk) (by omega) dL_goes_739 (fun H locs hP hD hS => ?_)
                              have hG := hG.u2 (k := 8 + kk) (v := nI 0)
                              have hL2 := LR.leave (w := kk) (v := gI G 2 (8 + kk)) hL (by omega) (hL.at (by omega) (show mP 8 6 by unfold mP; omega))
                              refine lv_aload_n hx hb dL_goes_740 rfl (lv_at hl 6 rfl) ?_
                              refine lv_iload hx hb dL_goes_741 (lv_at hl 3 rfl) ?_
                              refine sg_xcalli hD hS hA (vx_runSX (As := [.ref x, .int (nI kk)]) (rest := []) ⟨hx, hb, hml, hown, hts⟩ (c_L_leaves l hfl D Y _ _ x M N t c (nI kk) (hXX.far hG.2.2) hc) (vx_cwSW 2 hts gL_goes_L_leaves rfl rfl rfl (by decide +kernel) ⟨(Nat.le_of_ble_eq_true rfl), (Nat.le_of_ble_eq_true rfl)⟩) (lh_preS hK hP hD hN hC hX hS hA) rfl rfl hl.1 rfl (lv_room (Nat.le_of_ble_eq_true rfl)) dL_goes_743 ⟨(Nat.le_of_ble_eq_true rfl), (Nat.le_of_ble_eq_true rfl)⟩) (fun E ce q9 H locs hpx hP hD hS hce hcv hcl => False.elim hpx) (fun r9 σ' H locs hw9 hP hD hS => ?_)
                              obtain ⟨-, e9, hX9⟩ := (hw9.resolve_left (fun z => z.1 hvi)).resolve_left (fun z => z.1.2 hst)
                              have hG := hG.by hX9.ho
                              refine lv_iload hx hb dL_goes_746 (lv_at hl 2 rfl) ?_
                              refine lw_if_ne (tgt := 756) (a := 1) hx hb dL_goes_748 (by decide) (by omega) (fun c748 => ?_) (fun c748 => ?_)
                              · skip
                                refine lv_iload hx hb dL_goes_756 (lv_at hl 1 rfl) ?_
                                refine lw_if_eq (tgt := 766) (a := 1) hx hb dL_goes_758 (by decide) (by omega) (fun c758 => ?_) (fun c758 => ?_)
                                · exfalso; omega
                                · skip
                                  refine lv_iload hx hb dL_goes_761 (lv_at hl 0 rfl) ?_
                                  refine lv_goto (tgt := 768) hx hb dL_goes_763 (by decide) ?_
                                  refine lv_icmp_ne (tgt := 775) hx hb dL_goes_768 (by decide) (fun c768 => ?_) (fun c768 => ?_)
                                  · exact absurd (e9.trans (show sI M 6 (tN (nI kk)) = gI G 2 (8 + kk) by rw [ek, hL.at (by omega) (show mP 8 6 by unfold mP; omega)])) c768
                                  · skip
                                    refine lv_iconst (v := nI 1) hx hb dL_goes_771 (by decide) ?_
                                    refine lv_goto (tgt := 776) hx hb dL_goes_772 (by decide) ?_
                                    exact sg_iret hx hb hr rfl hlocks hP hD hS (Nat.le_of_ble_eq_true rfl) (Nat.le_of_ble_eq_true rfl) dL_goes_776 (⟨rfl, LI.mk hX9.self hG hL2⟩)
                              · exfalso; omega
                      · exfalso; omega
              · skip
                refine lv_istore (lv' := [(13, .int (-1)), (12, .int (nI fi)), (11, .int (nI rt)), (0, .ref x), (1, .int (nI 4)), (2, .int y), (3, .ref (ad 0)), (4, .ref (ad 1)), (5, .ref (ad 2)), (6, .ref (ad 3)), (7, .ref (ad 4)), (8, .ref (ad 5)), (9, .ref (ad 6)), (10, .ref (ad 7))]) hx hb dL_goes_552 hl (by decide) rfl (fun ls hl => ?_)
                refine lv_iload hx hb dL_goes_554 (lv_at hl 0 rfl) ?_
                refine lv_if_lt (tgt := 571) hx hb dL_goes_556 (by decide) (fun c556 => ?_) (fun c556 => ?_)
                · have hnv : ¬ vp_in (-1) N := vn1
                  refine lv_iconst (v := nI 0) hx hb dL_goes_571 (by decide) ?_
                  refine lv_istore (lv' := [(14, .int (nI 0)), (13, .int (-1)), (12, .int (nI fi)), (11, .int (nI rt)), (0, .ref x), (1, .int (nI 4)), (2, .int y), (3, .ref (ad 0)), (4, .ref (ad 1)), (5, .ref (ad 2)), (6, .ref (ad 3)), (7, .ref (ad 4)), (8, .ref (ad 5)), (9, .ref (ad 6)), (10, .ref (ad 7))]) hx hb dL_goes_572 hl (by decide) rfl (fun ls hl => ?_)
                  refine lv_iload hx hb dL_goes_574 (lv_at hl 0 rfl) ?_
                  refine lw_if_eq (tgt := 593) (a := 0) hx hb dL_goes_576 (by decide) (by omega) (fun c576 => ?_) (fun c576 => ?_)
                  · skip
                    refine lv_iconst (v := nI 0) hx hb dL_goes_593 (by decide) ?_
                    refine lv_istore (lv' := [(15, .int (nI 0)), (14, .int (nI 0)), (13, .int (-1)), (12, .int (nI fi)), (11, .int (nI rt)), (0, .ref x), (1, .int (nI 4)), (2, .int y), (3, .ref (ad 0)), (4, .ref (ad 1)), (5, .ref (ad 2)), (6, .ref (ad 3)), (7, .ref (ad 4)), (8, .ref (ad 5)), (9, .ref (ad 6)), (10, .ref (ad 7))]) hx hb dL_goes_594 hl (by decide) rfl (fun ls hl => ?_)
                    refine lv_iload_n hx hb dL_goes_596 rfl (lv_at hl 6 rfl) ?_
                    refine lv_iconst (v := nI 3) hx hb dL_goes_597 (by decide) ?_
                    refine lw_icmp_ne (tgt := 684) (a := 4) (b := 3) hx hb dL_goes_598 (by decide) (by omega) (by omega) (fun c598 => ?_) (fun c598 => ?_)
                    · skip
                      refine lv_iload_n hx hb dL_goes_684 rfl (lv_at hl 6 rfl) ?_
                      refine lv_iconst (v := nI 4) hx hb dL_goes_685 (by decide) ?_
                      refine lw_icmp_ne (tgt := 777) (a := 4) (b := 4) hx hb dL_goes_686 (by decide) (by omega) (by omega) (fun c686 => ?_) (fun c686 => ?_)
                      · exfalso; omega
                      · skip
                        refine lv_iload hx hb dL_goes_689 (lv_at hl 1 rfl) ?_
                        refine lw_if_eq (tgt := 705) (a := 0) hx hb dL_goes_691 (by decide) (by omega) (fun c691 => ?_) (fun c691 => ?_)
                        · skip
                          refine lv_iconst (v := nI 0) hx hb dL_goes_705 (by decide) ?_
                          refine lv_istore (lv' := [(16, .int (nI 0)), (15, .int (nI 0)), (14, .int (nI 0)), (13, .int (-1)), (12, .int (nI fi)), (11, .int (nI rt)), (0, .ref x), (1, .int (nI 4)), (2, .int y), (3, .ref (ad 0)), (4, .ref (ad 1)), (5, .ref (ad 2)), (6, .ref (ad 3)), (7, .ref (ad 4)), (8, .ref (ad 5)), (9, .ref (ad 6)), (10, .ref (ad 7))]) hx hb dL_goes_706 hl (by decide) rfl (fun ls hl => ?_)
                          refine lv_iload hx hb dL_goes_708 (lv_at hl 1 rfl) ?_
                          refine lw_if_eq (tgt := 740) (a := 0) hx hb dL_goes_710 (by decide) (by omega) (fun c710 => ?_) (fun c710 => ?_)
                          · skip
                            refine lv_aload_n hx hb dL_goes_740 rfl (lv_at hl 6 rfl) ?_
                            refine lv_iload hx hb dL_goes_741 (lv_at hl 3 rfl) ?_
                            refine sg_xcalli hD hS hA (vx_runSX (As := [.ref x, .int (-1)]) (rest := []) ⟨hx, hb, hml, hown, hts⟩ (c_L_leaves l hfl D Y _ _ x M N t c (-1) (hXX.far hG.2.2) hc) (vx_cwSW 2 hts gL_goes_L_leaves rfl rfl rfl (by decide +kernel) ⟨(Nat.le_of_ble_eq_true rfl), (Nat.le_of_ble_eq_true rfl)⟩) (lh_preS hK hP hD hN hC hX hS hA) rfl rfl hl.1 rfl (lv_room (Nat.le_of_ble_eq_true rfl)) dL_goes_743 ⟨(Nat.le_of_ble_eq_true rfl), (Nat.le_of_ble_eq_true rfl)⟩) (fun E ce q9 H locs hpx hP hD hS hce hcv hcl => False.elim hpx) (fun r9 σ' H locs hw9 hP hD hS => ?_)
                            obtain ⟨-, rfl, rfl⟩ := hw9.resolve_right (fun z => z.elim (fun z => hnv z.1.1) (fun z => hnv z.1.1))
                            refine lv_iload hx hb dL_goes_746 (lv_at hl 2 rfl) ?_
                            refine lw_if_ne (tgt := 756) (a := 0) hx hb dL_goes_748 (by decide) (by omega) (fun c748 => ?_) (fun c748 => ?_)
                            · exfalso; omega
                            · skip
                              refine lv_bipush (v := (-101)) hx hb dL_goes_751 (by decide) ?_
                              refine lv_goto (tgt := 768) hx hb dL_goes_753 (by decide) ?_
                              refine lv_icmp_ne (tgt := 775) hx hb dL_goes_768 (by decide) (fun c768 => ?_) (fun c768 => ?_)
                              · exact absurd rfl c768
                              · skip
                                refine lv_iconst (v := nI 1) hx hb dL_goes_771 (by decide) ?_
                                refine lv_goto (tgt := 776) hx hb dL_goes_772 (by decide) ?_
                                exact sg_iret hx hb hr rfl hlocks hP hD hS (Nat.le_of_ble_eq_true rfl) (Nat.le_of_ble_eq_true rfl) dL_goes_776 (⟨rfl, LI.mk ((hXX.far hG.2.2).mon (Nat.le_succ c)) hG hL⟩)
                          · exfalso; omega
                        · exfalso; omega
                    · exfalso; omega
                  · exfalso; omega
                · exact absurd (by decide) c556
            · skip
              refine lv_iload_n hx hb dL_goes_523 rfl (lv_at hl 4 rfl) ?_
              refine lv_iconst (v := nI 4) hx hb dL_goes_524 (by decide) ?_
              refine lv_ishr hx hb dL_goes_525 ?_
              refine lv_topi (fun v525 _ => ?_)
              refine lv_aload_n hx hb dL_goes_526 rfl (lv_at hl 5 rfl) ?_
              refine lv_iconst (v := nI 1) hx hb dL_goes_527 (by decide) ?_
              refine lw_iald hx hb hK hP hG.a0 (k := 1) (by omega) (v := nI N) (e1) dL_goes_528 ?_
              refine lv_iconst (v := nI 1) hx hb dL_goes_529 (by decide) ?_
              refine lw_iadd (a := N) (b := 1) hx hb dL_goes_530 ?_
              refine sg_calli hD hS hA (va_runS (As := [.int v525, .int (nI (N + 1))]) (rest := []) ⟨hx, hb, hml, hown, hts⟩ (c_L_some l D Y _ _ v525 (N + 1) (by omega) (by omega)) (va_cwS 2 hts gL_goes_L_some rfl rfl rfl (by decide +kernel) ⟨(Nat.le_of_ble_eq_true rfl), (Nat.le_of_ble_eq_true rfl)⟩) (sg_preS hK hP hD hN hX hS hA) rfl rfl hl.1 rfl (lv_room (Nat.le_of_ble_eq_true rfl)) dL_goes_531 ⟨(Nat.le_of_ble_eq_true rfl), (Nat.le_of_ble_eq_true rfl)⟩) (fun r9 σ' H locs hw9 hP hD hS => ?_)
              obtain ⟨w531, hw531, rfl, rfl⟩ := hw9
              refine lv_iload_n hx hb dL_goes_534 rfl (lv_at hl 4 rfl) ?_
              refine lv_bipush (v := nI 11) hx hb dL_goes_535 (by decide) ?_
              refine lv_ishr hx hb dL_goes_537 ?_
              refine lv_topi (fun v537 _ => ?_)
              refine lv_bipush (v := nI 19) hx hb dL_goes_538 (by decide) ?_
              refine sg_calli hD hS hA (va_runS (As := [.int v537, .int (nI 19)]) (rest := [.int (nI w531)]) ⟨hx, hb, hml, hown, hts⟩ (c_L_some l D Y _ _ v537 19 (by omega) (by omega)) (va_cwS 2 hts gL_goes_L_some rfl rfl rfl (by decide +kernel) ⟨(Nat.le_of_ble_eq_true rfl), (Nat.le_of_ble_eq_true rfl)⟩) (sg_preS hK hP hD hN hX hS hA) rfl rfl hl.1 rfl (lv_room (Nat.le_of_ble_eq_true rfl)) dL_goes_540 ⟨(Nat.le_of_ble_eq_true rfl), (Nat.le_of_ble_eq_true rfl)⟩) (fun r9 σ' H locs hw9 hP hD hS => ?_)
              obtain ⟨w540, hw540, rfl, rfl⟩ := hw9
              refine lw_if_ne (tgt := 550) (a := w540) hx hb dL_goes_543 (by decide) (by omega) (fun c543 => ?_) (fun c543 => ?_)
              · skip
                refine lv_iconst (v := nI 0) hx hb dL_goes_550 (by decide) ?_
                refine lv_isub hx hb dL_goes_551 ?_
                exact k552 _ _ _ _ (⟨k_dec hw531 (by omega) (Or.inl rfl), rfl⟩) hP hD hS
              · skip
                refine lv_iconst (v := nI 1) hx hb dL_goes_546 (by decide) ?_
                refine lv_goto (tgt := 551) hx hb dL_goes_547 (by decide) ?_
                refine lv_isub hx hb dL_goes_551 ?_
                exact k552 _ _ _ _ (⟨k_dec hw531 (by omega) (Or.inr rfl), rfl⟩) hP hD hS
          · exfalso; omega
        · skip
          refine lv_iload hx hb dL_goes_403 (lv_at hl 0 rfl) ?_
          refine lw_if_le (tgt := 419) (a := rt) hx hb dL_goes_405 (by decide) (by omega) (fun c405 => ?_) (fun c405 => ?_)
          · skip
            refine lv_iconst (v := nI 0) hx hb dL_goes_419 (by decide) ?_
            exact k420 _ _ _ _ (⟨0, by omega, rfl, rfl⟩) hP hD hS
          · skip
            refine lv_iload hx hb dL_goes_408 (lv_at hl 0 rfl) ?_
            refine lv_bipush (v := nI 16) hx hb dL_goes_410 (by decide) ?_
            refine lw_icmp_ge (tgt := 419) (a := rt) (b := 16) hx hb dL_goes_412 (by decide) (by omega) (by omega) (fun c412 => ?_) (fun c412 => ?_)
            · skip
              refine lv_iconst (v := nI 0) hx hb dL_goes_419 (by decide) ?_
              exact k420 _ _ _ _ (⟨0, by omega, rfl, rfl⟩) hP hD hS
            · skip
              refine lv_iconst (v := nI 1) hx hb dL_goes_415 (by decide) ?_
              refine lv_goto (tgt := 420) hx hb dL_goes_416 (by decide) ?_
              exact k420 _ _ _ _ (⟨1, by omega, rfl, rfl⟩) hP hD hS
      · skip
        refine lv_iload_n hx hb dL_goes_371 rfl (lv_at hl 2 rfl) ?_
        refine lv_bipush (v := nI 30) hx hb dL_goes_372 (by decide) ?_
        refine sg_calli hD hS hA (va_runS (As := [.int y, .int (nI 30)]) (rest := []) ⟨hx, hb, hml, hown, hts⟩ (c_L_some l D Y _ _ y 30 (by omega) (by omega)) (va_cwS 2 hts gL_goes_L_some rfl rfl rfl (by decide +kernel) ⟨(Nat.le_of_ble_eq_true rfl), (Nat.le_of_ble_eq_true rfl)⟩) (sg_preS hK hP hD hN hX hS hA) rfl rfl hl.1 rfl (lv_room (Nat.le_of_ble_eq_true rfl)) dL_goes_374 ⟨(Nat.le_of_ble_eq_true rfl), (Nat.le_of_ble_eq_true rfl)⟩) (fun r9 σ' H locs hw9 hP hD hS => ?_)
        obtain ⟨w374, hw374, rfl, rfl⟩ := hw9
        refine lw_if_ne (tgt := 393) (a := w374) hx hb dL_goes_377 (by decide) (by omega) (fun c377 => ?_) (fun c377 => ?_)
        · skip
          refine lv_iconst (v := nI 1) hx hb dL_goes_393 (by decide) ?_
          refine lv_iload_n hx hb dL_goes_394 rfl (lv_at hl 2 rfl) ?_
          refine lv_bipush (v := nI 15) hx hb dL_goes_395 (by decide) ?_
          refine sg_calli hD hS hA (va_runS (As := [.int y, .int (nI 15)]) (rest := [.int (nI 1)]) ⟨hx, hb, hml, hown, hts⟩ (c_L_some l D Y _ _ y 15 (by omega) (by omega)) (va_cwS 2 hts gL_goes_L_some rfl rfl rfl (by decide +kernel) ⟨(Nat.le_of_ble_eq_true rfl), (Nat.le_of_ble_eq_true rfl)⟩) (sg_preS hK hP hD hN hX hS hA) rfl rfl hl.1 rfl (lv_room (Nat.le_of_ble_eq_true rfl)) dL_goes_397 ⟨(Nat.le_of_ble_eq_true rfl), (Nat.le_of_ble_eq_true rfl)⟩) (fun r9 σ' H locs hw9 hP hD hS => ?_)
          obtain ⟨w397, hw397, rfl, rfl⟩ := hw9
          refine lw_iadd (a := 1) (b := w397) hx hb dL_goes_400 ?_
          exact k401 _ _ _ _ (⟨1 + w397, by omega, rfl, rfl⟩) hP hD hS
        · skip
          refine lv_bipush (v := nI 16) hx hb dL_goes_380 (by decide) ?_
          refine lv_iload_n hx hb dL_goes_382 rfl (lv_at hl 2 rfl) ?_
          refine lv_iconst (v := nI 3) hx hb dL_goes_383 (by decide) ?_
          refine lv_ishr hx hb dL_goes_384 ?_
          refine lv_topi (fun v384 _ => ?_)
          refine lv_iconst (v := nI 2) hx hb dL_goes_385 (by decide) ?_
          refine sg_calli hD hS hA (va_runS (As := [.int v384, .int (nI 2)]) (rest := [.int (nI 16)]) ⟨hx, hb, hml, hown, hts⟩ (c_L_some l D Y _ _ v384 2 (by omega) (by omega)) (va_cwS 2 hts gL_goes_L_some rfl rfl rfl (by decide +kernel) ⟨(Nat.le_of_ble_eq_true rfl), (Nat.le_of_ble_eq_true rfl)⟩) (sg_preS hK hP hD hN hX hS hA) rfl rfl hl.1 rfl (lv_room (Nat.le_of_ble_eq_true rfl)) dL_goes_386 ⟨(Nat.le_of_ble_eq_true rfl), (Nat.le_of_ble_eq_true rfl)⟩) (fun r9 σ' H locs hw9 hP hD hS => ?_)
          obtain ⟨w386, hw386, rfl, rfl⟩ := hw9
          refine lw_imul (a := 16) (b := w386) hx hb dL_goes_389 ?_
          refine lv_goto (tgt := 401) hx hb dL_goes_390 (by decide) ?_
          exact k401 _ _ _ _ (⟨16 * w386, by omega, rfl, rfl⟩) hP hD hS
    · exfalso; omega
  · exfalso; omega
