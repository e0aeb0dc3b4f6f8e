set_option maxHeartbeats 4000000 in
set_option maxRecDepth 100000 in
theorem c_L_goes5 (l : Launch) (hfl : l.stackTraces = false) (D : va_G) (Y : Nat → ClassId) (σ : sg_W) (sz : Nat) (ad : Nat → Nat) (x : Nat) (G : ZG) (M : MS) (N t c : Nat) (y : Int32) (hXX : CX Y x σ M N t c σ) (hG : ZF Y ad σ G σ) (hL : LR G M N t) (hc : c < 512) : Met l yL_goes wsL_goes ({ frames := 9, cells := 6, slots := 50, locals := 160 } : Room) (va_Pc [.ref x, .int (nI 5), .int y, .ref (ad 0), .ref (ad 1), .ref (ad 2), .ref (ad 3), .ref (ad 4), .ref (ad 5), .ref (ad 6), .ref (ad 7)] (lh_U D Y σ sz)) (va_Qi (fun r σ' => r = nI 1 ∧ LI Y x ad (c + 1) σ') (sg_B D σ sz) (sg_A σ sz)) 6 50 (sg_A σ sz) := by
  refine lh_metP (cc := cL_goes) (maxL := 19) (ret := (some .boolean)) (by decide) rfl (Nat.le_of_ble_eq_true rfl) ?_
  intro p e s m below meth cd9 ls hx hb hml hr hown hts hlocks hnm hP hK hD hN hC hX hA hS hsz hl
  have hl : lv_has ls 19 [(0, .ref x), (1, .int (nI 5)), (2, .int y), (3, .ref (ad 0)), (4, .ref (ad 1)), (5, .ref (ad 2)), (6, .ref (ad 3)), (7, .ref (ad 4)), (8, .ref (ad 5)), (9, .ref (ad 6)), (10, .ref (ad 7))] := hl
  have hIV := hXX.iv
  have hN4 := hL.1.1
  have ht6 := hIV.1.2.1
  have hNt := hIV.1.2.2.1
  obtain ⟨⟨-, e0, e1, e2⟩, eP, -, eQ, -, hfr⟩ := id hL
  refine lv_iload_n hx hb dL_goes_0 rfl (lv_at hl 1 rfl) ?_
  refine lw_if_ne (tgt := 277) (a := 5) hx hb dL_goes_1 (by decide) (by omega) (fun c1 => ?_) (fun c1 => ?_)
  · skip
    refine lv_iload_n hx hb dL_goes_277 rfl (lv_at hl 1 rfl) ?_
    refine lv_iconst (v := nI 1) hx hb dL_goes_278 (by decide) ?_
    refine lw_icmp_ne (tgt := 371) (a := 5) (b := 1) hx hb dL_goes_279 (by decide) (by omega) (by omega) (fun c279 => ?_) (fun c279 => ?_)
    · skip
      refine sg_cutwi (D := D) hS (j := 401) (ls := ls) (rest := []) (0) (0) (fun x9 σ' => ∃ v9 : Nat, v9 ≤ 16 ∧ x9 = nI v9 ∧ σ = σ') (fun x9 σ' H locs hj9 hP hD hS => ?_) (fun k401 => ?_)
      · obtain ⟨rt, hrt, rfl, rfl⟩ := hj9
        refine lv_istore (lv' := [(11, .int (nI rt)), (0, .ref x), (1, .int (nI 5)), (2, .int y), (3, .ref (ad 0)), (4, .ref (ad 1)), (5, .ref (ad 2)), (6, .ref (ad 3)), (7, .ref (ad 4)), (8, .ref (ad 5)), (9, .ref (ad 6)), (10, .ref (ad 7))]) hx hb dL_goes_401 hl (by decide) rfl (fun ls hl => ?_)
        refine sg_cutwi (D := D) hS (j := 420) (ls := ls) (rest := []) (0) (0) (fun x9 σ' => ∃ v9 : Nat, ((v9 = 1 ∧ (0 < rt ∧ rt < 16)) ∨ (v9 = 0 ∧ ¬ (0 < rt ∧ rt < 16))) ∧ x9 = nI v9 ∧ σ = σ') (fun x9 σ' H locs hj9 hP hD hS => ?_) (fun k420 => ?_)
        · obtain ⟨fi, hfi, rfl, rfl⟩ := hj9
          refine lv_istore (lv' := [(12, .int (nI fi)), (11, .int (nI rt)), (0, .ref x), (1, .int (nI 5)), (2, .int y), (3, .ref (ad 0)), (4, .ref (ad 1)), (5, .ref (ad 2)), (6, .ref (ad 3)), (7, .ref (ad 4)), (8, .ref (ad 5)), (9, .ref (ad 6)), (10, .ref (ad 7))]) hx hb dL_goes_420 hl (by decide) rfl (fun ls hl => ?_)
          refine lv_iload_n hx hb dL_goes_422 rfl (lv_at hl 3 rfl) ?_
          refine lv_iconst (v := nI 2) hx hb dL_goes_423 (by decide) ?_
          refine lw_icmp_ne (tgt := 523) (a := 5) (b := 2) hx hb dL_goes_424 (by decide) (by omega) (by omega) (fun c424 => ?_) (fun c424 => ?_)
          · skip
            refine sg_cutwi (D := D) hS (j := 552) (ls := ls) (rest := []) (0) (0) (fun x9 σ' => ((∃ v9 : Nat, v9 < N + 1 ∧ x9 = nI v9) ∨ x9 = -1) ∧ σ = σ') (fun x9 σ' H locs hj9 hP hD hS => ?_) (fun k552 => ?_)
            · obtain ⟨hk9, rfl⟩ := hj9
              rcases hk9 with ⟨kk, hkk, rfl⟩ | rfl
              · skip
                refine lv_istore (lv' := [(13, .int (nI kk)), (12, .int (nI fi)), (11, .int (nI rt)), (0, .ref x), (1, .int (nI 5)), (2, .int y), (3, .ref (ad 0)), (4, .ref (ad 1)), (5, .ref (ad 2)), (6, .ref (ad 3)), (7, .ref (ad 4)), (8, .ref (ad 5)), (9, .ref (ad 6)), (10, .ref (ad 7))]) hx hb dL_goes_552 hl (by decide) rfl (fun ls hl => ?_)
                refine lv_iload hx hb dL_goes_554 (lv_at hl 0 rfl) ?_
                refine lw_if_lt (tgt := 571) (a := kk) hx hb dL_goes_556 (by decide) (by omega) ?_
                refine lv_iload hx hb dL_goes_559 (lv_at hl 0 rfl) ?_
                refine lv_aload_n hx hb dL_goes_561 rfl (lv_at hl 6 rfl) ?_
                refine lv_iconst (v := nI 1) hx hb dL_goes_562 (by decide) ?_
                refine lw_iald hx hb hK hP hG.a0 (k := 1) (by omega) (v := nI N) (e1) dL_goes_563 ?_
                refine lw_icmp_ge (tgt := 571) (a := kk) (b := N) hx hb dL_goes_564 (by decide) (by omega) (by omega) (fun c564 => ?_) (fun c564 => ?_)
                · have hnv : ¬ vp_in (nI kk) N := fun z => absurd ((vn (by omega) (by omega)).mp z) (by omega)
                  refine lv_iconst (v := nI 0) hx hb dL_goes_571 (by decide) ?_
                  refine lv_istore (lv' := [(14, .int (nI 0)), (13, .int (nI kk)), (12, .int (nI fi)), (11, .int (nI rt)), (0, .ref x), (1, .int (nI 5)), (2, .int y), (3, .ref (ad 0)), (4, .ref (ad 1)), (5, .ref (ad 2)), (6, .ref (ad 3)), (7, .ref (ad 4)), (8, .ref (ad 5)), (9, .ref (ad 6)), (10, .ref (ad 7))]) hx hb dL_goes_572 hl (by decide) rfl (fun ls hl => ?_)
                  refine lv_iload hx hb dL_goes_574 (lv_at hl 0 rfl) ?_
                  refine lw_if_eq (tgt := 593) (a := 0) hx hb dL_goes_576 (by decide) (by omega) (fun c576 => ?_) (fun c576 => ?_)
                  · skip
                    refine lv_iconst (v := nI 0) hx hb dL_goes_593 (by decide) ?_
                    refine lv_istore (lv' := [(15, .int (nI 0)), (14, .int (nI 0)), (13, .int (nI kk)), (12, .int (nI fi)), (11, .int (nI rt)), (0, .ref x), (1, .int (nI 5)), (2, .int y), (3, .ref (ad 0)), (4, .ref (ad 1)), (5, .ref (ad 2)), (6, .ref (ad 3)), (7, .ref (ad 4)), (8, .ref (ad 5)), (9, .ref (ad 6)), (10, .ref (ad 7))]) hx hb dL_goes_594 hl (by decide) rfl (fun ls hl => ?_)
                    refine lv_iload_n hx hb dL_goes_596 rfl (lv_at hl 6 rfl) ?_
                    refine lv_iconst (v := nI 3) hx hb dL_goes_597 (by decide) ?_
                    refine lw_icmp_ne (tgt := 684) (a := 5) (b := 3) hx hb dL_goes_598 (by decide) (by omega) (by omega) (fun c598 => ?_) (fun c598 => ?_)
                    · skip
                      refine lv_iload_n hx hb dL_goes_684 rfl (lv_at hl 6 rfl) ?_
                      refine lv_iconst (v := nI 4) hx hb dL_goes_685 (by decide) ?_
                      refine lw_icmp_ne (tgt := 777) (a := 5) (b := 4) hx hb dL_goes_686 (by decide) (by omega) (by omega) (fun c686 => ?_) (fun c686 => ?_)
                      · skip
                        refine sg_cutwi (D := D) hS (j := 799) (ls := ls) (rest := []) (0) (0) (fun x9 σ' => ∃ v9 : Nat, v9 ≤ 5000001 ∧ x9 = nI v9 ∧ σ = σ') (fun x9 σ' H locs hj9 hP hD hS => ?_) (fun k799 => ?_)
                        · obtain ⟨gr, hgr, rfl, rfl⟩ := hj9
                          refine lv_istore (lv' := [(16, .int (nI gr)), (15, .int (nI 0)), (14, .int (nI 0)), (13, .int (nI kk)), (12, .int (nI fi)), (11, .int (nI rt)), (0, .ref x), (1, .int (nI 5)), (2, .int y), (3, .ref (ad 0)), (4, .ref (ad 1)), (5, .ref (ad 2)), (6, .ref (ad 3)), (7, .ref (ad 4)), (8, .ref (ad 5)), (9, .ref (ad 6)), (10, .ref (ad 7))]) hx hb dL_goes_799 hl (by decide) rfl (fun ls hl => ?_)
                          refine sg_cutwi (D := D) hS (j := 813) (ls := ls) (rest := []) (0) (0) (fun x9 σ' => ∃ v9 : Nat, ((v9 = 1 ∧ (gr < 5000001)) ∨ (v9 = 0 ∧ ¬ (gr < 5000001))) ∧ x9 = nI v9 ∧ σ = σ') (fun x9 σ' H locs hj9 hP hD hS => ?_) (fun k813 => ?_)
                          · obtain ⟨go, hgo, rfl, rfl⟩ := hj9
                            refine lv_istore (lv' := [(17, .int (nI go)), (16, .int (nI gr)), (15, .int (nI 0)), (14, .int (nI 0)), (13, .int (nI kk)), (12, .int (nI fi)), (11, .int (nI rt)), (0, .ref x), (1, .int (nI 5)), (2, .int y), (3, .ref (ad 0)), (4, .ref (ad 1)), (5, .ref (ad 2)), (6, .ref (ad 3)), (7, .ref (ad 4)), (8, .ref (ad 5)), (9, .ref (ad 6)), (10, .ref (ad 7))]) hx hb dL_goes_813 hl (by decide) rfl (fun ls hl => ?_)
                            refine lv_iload hx hb dL_goes_815 (lv_at hl 2 rfl) ?_
                            refine lw_if_eq (tgt := 860) (a := 0) hx hb dL_goes_817 (by decide) (by omega) (fun c817 => ?_) (fun c817 => ?_)
                            · skip
                              refine lv_iconst (v := nI 0) hx hb dL_goes_860 (by decide) ?_
                              refine lw_nat (a := 0) (rfl) ?_
                              refine lv_istore (lv' := [(18, .int (nI 0)), (17, .int (nI go)), (16, .int (nI gr)), (15, .int (nI 0)), (14, .int (nI 0)), (13, .int (nI kk)), (12, .int (nI fi)), (11, .int (nI rt)), (0, .ref x), (1, .int (nI 5)), (2, .int y), (3, .ref (ad 0)), (4, .ref (ad 1)), (5, .ref (ad 2)), (6, .ref (ad 3)), (7, .ref (ad 4)), (8, .ref (ad 5)), (9, .ref (ad 6)), (10, .ref (ad 7))]) hx hb dL_goes_861 hl (by decide) rfl (fun ls hl => ?_)
                              refine lv_iload hx hb dL_goes_863 (lv_at hl 3 rfl) ?_
                              refine lw_if_eq (tgt := 897) (a := 0) hx hb dL_goes_865 (by decide) (by omega) (fun c865 => ?_) (fun c865 => ?_)
                              · skip
                                refine lv_aload_n hx hb dL_goes_897 rfl (lv_at hl 8 rfl) ?_
                                refine lv_iconst (v := nI 1) hx hb dL_goes_898 (by decide) ?_
                                refine lv_iload hx hb dL_goes_899 (lv_at hl 5 rfl) ?_
                                refine lv_iload hx hb dL_goes_901 (lv_at hl 2 rfl) ?_
                                refine sg_xcalli hD hS hA (vx_runSX (As := [.ref x, .int (nI 1), .int (nI kk), .int (nI gr)]) (rest := []) ⟨hx, hb, hml, hown, hts⟩ (c_L_act1 l hfl D Y _ _ x M N t c (nI kk) (nI gr) (hXX.far hG.2.2) hc) (vx_cwSW 4 hts gL_goes_L_act rfl rfl rfl (by decide +kernel) ⟨(Nat.le_of_ble_eq_true rfl), (Nat.le_of_ble_eq_true rfl)⟩) (lh_preS hK hP hD hN hC hX hS hA) rfl rfl hl.1 rfl (lv_room (Nat.le_of_ble_eq_true rfl)) dL_goes_903 ⟨(Nat.le_of_ble_eq_true rfl), (Nat.le_of_ble_eq_true rfl)⟩) (fun E ce q9 H locs hpx hP hD hS hce hcv hcl => False.elim hpx) (fun r9 σ' H locs hw9 hP hD hS => ?_)
                                obtain ⟨-, rfl, rfl⟩ := hw9.resolve_right (fun z => z.elim (fun z => hnv z.1.1) (fun z => z.elim (fun z => hnv z.1.1) (fun z => hnv z.1.1)))
                                refine lv_iload hx hb dL_goes_906 (lv_at hl 4 rfl) ?_
                                refine lw_if_ne (tgt := 916) (a := 0) hx hb dL_goes_908 (by decide) (by omega) (fun c908 => ?_) (fun c908 => ?_)
                                · exfalso; omega
                                · skip
                                  refine lv_bipush (v := (-101)) hx hb dL_goes_911 (by decide) ?_
                                  refine lv_goto (tgt := 938) hx hb dL_goes_913 (by decide) ?_
                                  refine lv_icmp_ne (tgt := 945) hx hb dL_goes_938 (by decide) (fun c938 => ?_) (fun c938 => ?_)
                                  · exact absurd rfl c938
                                  · skip
                                    refine lv_iconst (v := nI 1) hx hb dL_goes_941 (by decide) ?_
                                    refine lv_goto (tgt := 946) hx hb dL_goes_942 (by decide) ?_
                                    exact sg_iret hx hb hr rfl hlocks hP hD hS (Nat.le_of_ble_eq_true rfl) (Nat.le_of_ble_eq_true rfl) dL_goes_946 (⟨rfl, LI.mk ((hXX.far hG.2.2).mon (Nat.le_succ c)) hG hL⟩)
                              · exfalso; omega
                            · exfalso; omega
                          · skip
                            refine lv_iload hx hb dL_goes_801 (lv_at hl 0 rfl) ?_
                            refine lv_ldc (v := 5000001) hx hb hown (hts (.constant RL 120 5000001) (by decide +kernel)) dL_goes_803 ?_
                            refine lw_nat (a := 5000001) rfl ?_
                            refine lw_icmp_ge (tgt := 812) (a := gr) (b := 5000001) hx hb dL_goes_805 (by decide) (by omega) (by omega) (fun c805 => ?_) (fun c805 => ?_)
                            · skip
                              refine lv_iconst (v := nI 0) hx hb dL_goes_812 (by decide) ?_
                              exact k813 _ _ _ _ (⟨0, by omega, rfl, rfl⟩) hP hD hS
                            · skip
                              refine lv_iconst (v := nI 1) hx hb dL_goes_808 (by decide) ?_
                              refine lv_goto (tgt := 813) hx hb dL_goes_809 (by decide) ?_
                              exact k813 _ _ _ _ (⟨1, by omega, rfl, rfl⟩) hP hD hS
                        · skip
                          refine lv_iload_n hx hb dL_goes_777 rfl (lv_at hl 7 rfl) ?_
                          refine lv_bipush (v := nI 30) hx hb dL_goes_778 (by decide) ?_
                          refine sg_calli hD hS hA (va_runS (As := [.int y, .int (nI 30)]) (rest := []) ⟨hx, hb, hml, hown, hts⟩ (c_L_some l D Y _ _ y 30 (by omega) (by omega)) (va_cwS 2 hts gL_goes_L_some rfl rfl rfl (by decide +kernel) ⟨(Nat.le_of_ble_eq_true rfl), (Nat.le_of_ble_eq_true rfl)⟩) (sg_preS hK hP hD hN hX hS hA) rfl rfl hl.1 rfl (lv_room (Nat.le_of_ble_eq_true rfl)) dL_goes_780 ⟨(Nat.le_of_ble_eq_true rfl), (Nat.le_of_ble_eq_true rfl)⟩) (fun r9 σ' H locs hw9 hP hD hS => ?_)
                          obtain ⟨w780, hw780, rfl, rfl⟩ := hw9
                          refine lw_if_ne (tgt := 791) (a := w780) hx hb dL_goes_783 (by decide) (by omega) (fun c783 => ?_) (fun c783 => ?_)
                          · skip
                            refine lv_iload_n hx hb dL_goes_791 rfl (lv_at hl 7 rfl) ?_
                            refine lv_iconst (v := nI 2) hx hb dL_goes_792 (by decide) ?_
                            refine lv_ishr hx hb dL_goes_793 ?_
                            refine lv_topi (fun v793 _ => ?_)
                            refine lv_ldc (v := 400000) hx hb hown (hts (.constant RL 121 400000) (by decide +kernel)) dL_goes_794 ?_
                            refine lw_nat (a := 400000) rfl ?_
                            refine sg_calli hD hS hA (va_runS (As := [.int v793, .int (nI 400000)]) (rest := []) ⟨hx, hb, hml, hown, hts⟩ (c_L_some l D Y _ _ v793 400000 (by omega) (by omega)) (va_cwS 2 hts gL_goes_L_some rfl rfl rfl (by decide +kernel) ⟨(Nat.le_of_ble_eq_true rfl), (Nat.le_of_ble_eq_true rfl)⟩) (sg_preS hK hP hD hN hX hS hA) rfl rfl hl.1 rfl (lv_room (Nat.le_of_ble_eq_true rfl)) dL_goes_796 ⟨(Nat.le_of_ble_eq_true rfl), (Nat.le_of_ble_eq_true rfl)⟩) (fun r9 σ' H locs hw9 hP hD hS => ?_)
                            obtain ⟨w796, hw796, rfl, rfl⟩ := hw9
                            exact k799 _ _ _ _ (⟨w796, by omega, rfl, rfl⟩) hP hD hS
                          · skip
                            refine lv_ldc (v := 5000001) hx hb hown (hts (.constant RL 120 5000001) (by decide +kernel)) dL_goes_786 ?_
                            refine lw_nat (a := 5000001) rfl ?_
                            refine lv_goto (tgt := 799) hx hb dL_goes_788 (by decide) ?_
                            exact k799 _ _ _ _ (⟨5000001, by omega, rfl, rfl⟩) hP hD hS
                      · exfalso; omega
                    · exfalso; omega
                  · exfalso; omega
                · have hvi : vp_in (nI kk) N := vp_in_nI (by omega) (by omega)
                  have ek : tN (nI kk) = kk := nI_clamp (by omega)
                  have e5 : gI G 2 (4 + kk) = sI M 5 kk := hL.at (by omega) (show mP 4 5 by unfold mP; omega)
                  refine lv_iconst (v := nI 1) hx hb dL_goes_567 (by decide) ?_
                  refine lv_goto (tgt := 572) hx hb dL_goes_568 (by decide) ?_
                  refine lv_istore (lv' := [(14, .int (nI 1)), (13, .int (nI kk)), (12, .int (nI fi)), (11, .int (nI rt)), (0, .ref x), (1, .int (nI 5)), (2, .int y), (3, .ref (ad 0)), (4, .ref (ad 1)), (5, .ref (ad 2)), (6, .ref (ad 3)), (7, .ref (ad 4)), (8, .ref (ad 5)), (9, .ref (ad 6)), (10, .ref (ad 7))]) hx hb dL_goes_572 hl (by decide) rfl (fun ls hl => ?_)
                  refine lv_iload hx hb dL_goes_574 (lv_at hl 0 rfl) ?_
                  refine lw_if_eq (tgt := 593) (a := 1) hx hb dL_goes_576 (by decide) (by omega) (fun c576 => ?_) (fun c576 => ?_)
                  · exfalso; omega
                  · skip
                    refine lv_aload hx hb dL_goes_579 (lv_at hl 9 rfl) ?_
                    refine lv_iconst (v := nI 4) hx hb dL_goes_581 (by decide) ?_
                    refine lv_iload hx hb dL_goes_582 (lv_at hl 1 rfl) ?_
                    refine lw_iadd (a := 4) (b := kk) hx hb dL_goes_584 ?_
                    refine lw_iald hx hb hK hP hG.a2 (k := 4 + kk) (by omega) (v := gI G 2 (4 + kk)) (rfl) dL_goes_585 ?_
                    refine lv_if_ne (tgt := 593) hx hb dL_goes_586 (by decide) (fun c586 => ?_) (fun c586 => ?_)
                    · have hns : ¬ sI M 5 (tN (nI kk)) = 0 := by rw [ek, ← e5]; exact c586
                      refine lv_iconst (v := nI 0) hx hb dL_goes_593 (by decide) ?_
                      refine lv_istore (lv' := [(15, .int (nI 0)), (14, .int (nI 1)), (13, .int (nI kk)), (12, .int (nI fi)), (11, .int (nI rt)), (0, .ref x), (1, .int (nI 5)), (2, .int y), (3, .ref (ad 0)), (4, .ref (ad 1)), (5, .ref (ad 2)), (6, .ref (ad 3)), (7, .ref (ad 4)), (8, .ref (ad 5)), (9, .ref (ad 6)), (10, .ref (ad 7))]) hx hb dL_goes_594 hl (by decide) rfl (fun ls hl => ?_)
                      refine lv_iload_n hx hb dL_goes_596 rfl (lv_at hl 6 rfl) ?_
                      refine lv_iconst (v := nI 3) hx hb dL_goes_597 (by decide) ?_
                      refine lw_icmp_ne (tgt := 684) (a := 5) (b := 3) hx hb dL_goes_598 (by decide) (by omega) (by omega) (fun c598 => ?_) (fun c598 => ?_)
                      · skip
                        refine lv_iload_n hx hb dL_goes_684 rfl (lv_at hl 6 rfl) ?_
                        refine lv_iconst (v := nI 4) hx hb dL_goes_685 (by decide) ?_
                        refine lw_icmp_ne (tgt := 777) (a := 5) (b := 4) hx hb dL_goes_686 (by decide) (by omega) (by omega) (fun c686 => ?_) (fun c686 => ?_)
                        · skip
                          refine sg_cutwi (D := D) hS (j := 799) (ls := ls) (rest := []) (0) (0) (fun x9 σ' => ∃ v9 : Nat, v9 ≤ 5000001 ∧ x9 = nI v9 ∧ σ = σ') (fun x9 σ' H locs hj9 hP hD hS => ?_) (fun k799 => ?_)
                          · obtain ⟨gr, hgr, rfl, rfl⟩ := hj9
                            refine lv_istore (lv' := [(16, .int (nI gr)), (15, .int (nI 0)), (14, .int (nI 1)), (13, .int (nI kk)), (12, .int (nI fi)), (11, .int (nI rt)), (0, .ref x), (1, .int (nI 5)), (2, .int y), (3, .ref (ad 0)), (4, .ref (ad 1)), (5, .ref (ad 2)), (6, .ref (ad 3)), (7, .ref (ad 4)), (8, .ref (ad 5)), (9, .ref (ad 6)), (10, .ref (ad 7))]) hx hb dL_goes_799 hl (by decide) rfl (fun ls hl => ?_)
                            refine sg_cutwi (D := D) hS (j := 813) (ls := ls) (rest := []) (0) (0) (fun x9 σ' => ∃ v9 : Nat, ((v9 = 1 ∧ (gr < 5000001)) ∨ (v9 = 0 ∧ ¬ (gr < 5000001))) ∧ x9 = nI v9 ∧ σ = σ') (fun x9 σ' H locs hj9 hP hD hS => ?_) (fun k813 => ?_)
                            · obtain ⟨go, hgo, rfl, rfl⟩ := hj9
                              refine lv_istore (lv' := [(17, .int (nI go)), (16, .int (nI gr)), (15, .int (nI 0)), (14, .int (nI 1)), (13, .int (nI kk)), (12, .int (nI fi)), (11, .int (nI rt)), (0, .ref x), (1, .int (nI 5)), (2, .int y), (3, .ref (ad 0)), (4, .ref (ad 1)), (5, .ref (ad 2)), (6, .ref (ad 3)), (7, .ref (ad 4)), (8, .ref (ad 5)), (9, .ref (ad 6)), (10, .ref (ad 7))]) hx hb dL_goes_813 hl (by decide) rfl (fun ls hl => ?_)
                              refine lv_iload hx hb dL_goes_815 (lv_at hl 2 rfl) ?_
                              refine lw_if_eq (tgt := 860) (a := 0) hx hb dL_goes_817 (by decide) (by omega) (fun c817 => ?_) (fun c817 => ?_)
                              · skip
                                refine lv_iconst (v := nI 0) hx hb dL_goes_860 (by decide) ?_
                                refine lw_nat (a := 0) (rfl) ?_
                                refine lv_istore (lv' := [(18, .int (nI 0)), (17, .int (nI go)), (16, .int (nI gr)), (15, .int (nI 0)), (14, .int (nI 1)), (13, .int (nI kk)), (12, .int (nI fi)), (11, .int (nI rt)), (0, .ref x), (1, .int (nI 5)), (2, .int y), (3, .ref (ad 0)), (4, .ref (ad 1)), (5, .ref (ad 2)), (6, .ref (ad 3)), (7, .ref (ad 4)), (8, .ref (ad 5)), (9, .ref (ad 6)), (10, .ref (ad 7))]) hx hb dL_goes_861 hl (by decide) rfl (fun ls hl => ?_)
                                refine lv_iload hx hb dL_goes_863 (lv_at hl 3 rfl) ?_
                                refine lw_if_eq (tgt := 897) (a := 0) hx hb dL_goes_865 (by decide) (by omega) (fun c865 => ?_) (fun c865 => ?_)
                                · skip
                                  rcases hgo with ⟨hf1, hf2⟩ | ⟨hf1, hf2⟩
                                  · skip
                                    refine lv_aload_n hx hb dL_goes_897 rfl (lv_at hl 8 rfl) ?_
                                    refine lv_iconst (v := nI 1) hx hb dL_goes_898 (by decide) ?_
                                    refine lv_iload hx hb dL_goes_899 (lv_at hl 5 rfl) ?_
                                    refine lv_iload hx hb dL_goes_901 (lv_at hl 2 rfl) ?_
                                    refine sg_xcalli hD hS hA (vx_runSX (As := [.ref x, .int (nI 1), .int (nI kk), .int (nI gr)]) (rest := []) ⟨hx, hb, hml, hown, hts⟩ (c_L_act1 l hfl D Y _ _ x M N t c (nI kk) (nI gr) (hXX.far hG.2.2) hc) (vx_cwSW 4 hts gL_goes_L_act rfl rfl rfl (by decide +kernel) ⟨(Nat.le_of_ble_eq_true rfl), (Nat.le_of_ble_eq_true rfl)⟩) (lh_preS hK hP hD hN hC hX hS hA) rfl rfl hl.1 rfl (lv_room (Nat.le_of_ble_eq_true rfl)) dL_goes_903 ⟨(Nat.le_of_ble_eq_true rfl), (Nat.le_of_ble_eq_true rfl)⟩) (fun E ce q9 H locs hpx hP hD hS hce hcv hcl => False.elim hpx) (fun r9 σ' H locs hw9 hP hD hS => ?_)
                                    have hq9 : qIn (nI gr) 0 5000000 := (qn (a := 0) (b := 5000000) (by decide) (by decide) (by omega)).mpr ⟨by omega, by omega⟩
                                    have hw9 := (hw9.resolve_left (fun z => z.1 hvi)).resolve_left (fun z => z.1.2 hq9)
                                    obtain ⟨-, rfl, rfl⟩ := hw9.resolve_right (fun z => hns z.1.2.2)
                                    refine lv_iload hx hb dL_goes_906 (lv_at hl 4 rfl) ?_
                                    refine lw_if_ne (tgt := 916) (a := 1) hx hb dL_goes_908 (by decide) (by omega) (fun c908 => ?_) (fun c908 => ?_)
                                    · skip
                                      refine lv_iload hx hb dL_goes_916 (lv_at hl 1 rfl) ?_
                                      refine lw_if_ne (tgt := 926) (a := go) hx hb dL_goes_918 (by decide) (by omega) (fun c918 => ?_) (fun c918 => ?_)
                                      · skip
                                        refine lv_iload hx hb dL_goes_926 (lv_at hl 3 rfl) ?_
                                        refine lw_if_eq (tgt := 936) (a := 0) hx hb dL_goes_928 (by decide) (by omega) (fun c928 => ?_) (fun c928 => ?_)
                                        · skip
                                          refine lv_bipush (v := (-103)) hx hb dL_goes_936 (by decide) ?_
                                          refine lv_icmp_ne (tgt := 945) hx hb dL_goes_938 (by decide) (fun c938 => ?_) (fun c938 => ?_)
                                          · exact absurd rfl c938
                                          · skip
                                            refine lv_iconst (v := nI 1) hx hb dL_goes_941 (by decide) ?_
                                            refine lv_goto (tgt := 946) hx hb dL_goes_942 (by decide) ?_
                                            exact sg_iret hx hb hr rfl hlocks hP hD hS (Nat.le_of_ble_eq_true rfl) (Nat.le_of_ble_eq_true rfl) dL_goes_946 (⟨rfl, LI.mk ((hXX.far hG.2.2).mon (Nat.le_succ c)) hG hL⟩)
                                        · exfalso; omega
                                      · exfalso; omega
                                    · exfalso; omega
                                  · skip
                                    refine lv_aload_n hx hb dL_goes_897 rfl (lv_at hl 8 rfl) ?_
                                    refine lv_iconst (v := nI 1) hx hb dL_goes_898 (by decide) ?_
                                    refine lv_iload hx hb dL_goes_899 (lv_at hl 5 rfl) ?_
                                    refine lv_iload hx hb dL_goes_901 (lv_at hl 2 rfl) ?_
                                    refine sg_xcalli hD hS hA (vx_runSX (As := [.ref x, .int (nI 1), .int (nI kk), .int (nI gr)]) (rest := []) ⟨hx, hb, hml, hown, hts⟩ (c_L_act1 l hfl D Y _ _ x M N t c (nI kk) (nI gr) (hXX.far hG.2.2) hc) (vx_cwSW 4 hts gL_goes_L_act rfl rfl rfl (by decide +kernel) ⟨(Nat.le_of_ble_eq_true rfl), (Nat.le_of_ble_eq_true rfl)⟩) (lh_preS hK hP hD hN hC hX hS hA) rfl rfl hl.1 rfl (lv_room (Nat.le_of_ble_eq_true rfl)) dL_goes_903 ⟨(Nat.le_of_ble_eq_true rfl), (Nat.le_of_ble_eq_true rfl)⟩) (fun E ce q9 H locs hpx hP hD hS hce hcv hcl => False.elim hpx) (fun r9 σ' H locs hw9 hP hD hS => ?_)
                                    have hq9 : ¬ qIn (nI gr) 0 5000000 := fun z => by have := (qn (a := 0) (b := 5000000) (by decide) (by decide) (by omega)).mp z; omega
                                    obtain ⟨-, rfl, rfl⟩ := (hw9.resolve_left (fun z => z.1 hvi)).resolve_right (fun z => z.elim (fun z => hq9 z.1.2.1) (fun z => hq9 z.1.2.1))
                                    refine lv_iload hx hb dL_goes_906 (lv_at hl 4 rfl) ?_
                                    refine lw_if_ne (tgt := 916) (a := 1) hx hb dL_goes_908 (by decide) (by omega) (fun c908 => ?_) (fun c908 => ?_)
                                    · skip
                                      refine lv_iload hx hb dL_goes_916 (lv_at hl 1 rfl) ?_
                                      refine lw_if_ne (tgt := 926) (a := go) hx hb dL_goes_918 (by decide) (by omega) (fun c918 => ?_) (fun c918 => ?_)
                                      · exfalso; omega
                                      · skip
                                        refine lv_bipush (v := (-102)) hx hb dL_goes_921 (by decide) ?_
                                        refine lv_goto (tgt := 938) hx hb dL_goes_923 (by decide) ?_
                                        refine lv_icmp_ne (tgt := 945) hx hb dL_goes_938 (by decide) (fun c938 => ?_) (fun c938 => ?_)
                                        · exact absurd rfl c938
                                        · skip
                                          refine lv_iconst (v := nI 1) hx hb dL_goes_941 (by decide) ?_
                                          refine lv_goto (tgt := 946) hx hb dL_goes_942 (by decide) ?_
                                          exact sg_iret hx hb hr rfl hlocks hP hD hS (Nat.le_of_ble_eq_true rfl) (Nat.le_of_ble_eq_true rfl) dL_goes_946 (⟨rfl, LI.mk ((hXX.far hG.2.2).mon (Nat.le_succ c)) hG hL⟩)
                                    · exfalso; omega
                                · exfalso; omega
                              · exfalso; omega
                            · skip
                              refine lv_iload hx hb dL_goes_801 (lv_at hl 0 rfl) ?_
                              refine lv_ldc (v := 5000001) hx hb hown (hts (.constant RL 120 5000001) (by decide +kernel)) dL_goes_803 ?_
                              refine lw_nat (a := 5000001) rfl ?_
                              refine lw_icmp_ge (tgt := 812) (a := gr) (b := 5000001) hx hb dL_goes_805 (by decide) (by omega) (by omega) (fun c805 => ?_) (fun c805 => ?_)
                              · skip
                                refine lv_iconst (v := nI 0) hx hb dL_goes_812 (by decide) ?_
                                exact k813 _ _ _ _ (⟨0, by omega, rfl, rfl⟩) hP hD hS
                              · skip
                                refine lv_iconst (v := nI 1) hx hb dL_goes_808 (by decide) ?_
                                refine lv_goto (tgt := 813) hx hb dL_goes_809 (by decide) ?_
                                exact k813 _ _ _ _ (⟨1, by omega, rfl, rfl⟩) hP hD hS
                          · skip
                            refine lv_iload_n hx hb dL_goes_777 rfl (lv_at hl 7 rfl) ?_
                            refine lv_bipush (v := nI 30) hx hb dL_goes_778 (by decide) ?_
                            refine sg_calli hD hS hA (va_runS (As := [.int y, .int (nI 30)]) (rest := []) ⟨hx, hb, hml, hown, hts⟩ (c_L_some l D Y _ _ y 30 (by omega) (by omega)) (va_cwS 2 hts gL_goes_L_some rfl rfl rfl (by decide +kernel) ⟨(Nat.le_of_ble_eq_true rfl), (Nat.le_of_ble_eq_true rfl)⟩) (sg_preS hK hP hD hN hX hS hA) rfl rfl hl.1 rfl (lv_room (Nat.le_of_ble_eq_true rfl)) dL_goes_780 ⟨(Nat.le_of_ble_eq_true rfl), (Nat.le_of_ble_eq_true rfl)⟩) (fun r9 σ' H locs hw9 hP hD hS => ?_)
                            obtain ⟨w780, hw780, rfl, rfl⟩ := hw9
                            refine lw_if_ne (tgt := 791) (a := w780) hx hb dL_goes_783 (by decide) (by omega) (fun c783 => ?_) (fun c783 => ?_)
                            · skip
                              refine lv_iload_n hx hb dL_goes_791 rfl (lv_at hl 7 rfl) ?_
                              refine lv_iconst (v := nI 2) hx hb dL_goes_792 (by decide) ?_
                              refine lv_ishr hx hb dL_goes_793 ?_
                              refine lv_topi (fun v793 _ => ?_)
                              refine lv_ldc (v := 400000) hx hb hown (hts (.constant RL 121 400000) (by decide +kernel)) dL_goes_794 ?_
                              refine lw_nat (a := 400000) rfl ?_
                              refine sg_calli hD hS hA (va_runS (As := [.int v793, .int (nI 400000)]) (rest := []) ⟨hx, hb, hml, hown, hts⟩ (c_L_some l D Y _ _ v793 400000 (by omega) (by omega)) (va_cwS 2 hts gL_goes_L_some rfl rfl rfl (by decide +kernel) ⟨(Nat.le_of_ble_eq_true rfl), (Nat.le_of_ble_eq_true rfl)⟩) (sg_preS hK hP hD hN hX hS hA) rfl rfl hl.1 rfl (lv_room (Nat.le_of_ble_eq_true rfl)) dL_goes_796 ⟨(Nat.le_of_ble_eq_true rfl), (Nat.le_of_ble_eq_true rfl)⟩) (fun r9 σ' H locs hw9 hP hD hS => ?_)
                              obtain ⟨w796, hw796, rfl, rfl⟩ := hw9
                              exact k799 _ _ _ _ (⟨w796, by omega, rfl, rfl⟩) hP hD hS
                            · skip
                              refine lv_ldc (v := 5000001) hx hb hown (hts (.constant RL 120 5000001) (by decide +kernel)) dL_goes_786 ?_
                              refine lw_nat (a := 5000001) rfl ?_
                              refine lv_goto (tgt := 799) hx hb dL_goes_788 (by decide) ?_
                              exact k799 _ _ _ _ (⟨5000001, by omega, rfl, rfl⟩) hP hD hS
                        · exfalso; omega
                      · exfalso; omega
                    · have hst : sI M 5 (tN (nI kk)) = 0 := by rw [ek, ← e5]; exact c586
                      refine lv_iconst (v := nI 1) hx hb dL_goes_589 (by decide) ?_
                      refine lv_goto (tgt := 594) hx hb dL_goes_590 (by decide) ?_
                      refine lv_istore (lv' := [(15, .int (nI 1)), (14, .int (nI 1)), (13, .int (nI kk)), (12, .int (nI fi)), (11, .int (nI rt)), (0, .ref x), (1, .int (nI 5)), (2, .int y), (3, .ref (ad 0)), (4, .ref (ad 1)), (5, .ref (ad 2)), (6, .ref (ad 3)), (7, .ref (ad 4)), (8, .ref (ad 5)), (9, .ref (ad 6)), (10, .ref (ad 7))]) hx hb dL_goes_594 hl (by decide) rfl (fun ls hl => ?_)
                      refine lv_iload_n hx hb dL_goes_596 rfl (lv_at hl 6 rfl) ?_
                      refine lv_iconst (v := nI 3) hx hb dL_goes_597 (by decide) ?_
                      refine lw_icmp_ne (tgt := 684) (a := 5) (b := 3) hx hb dL_goes_598 (by decide) (by omega) (by omega) (fun c598 => ?_) (fun c598 => ?_)
                      · skip
                        refine lv_iload_n hx hb dL_goes_684 rfl (lv_at hl 6 rfl) ?_
                        refine lv_iconst (v := nI 4) hx hb dL_goes_685 (by decide) ?_
                        refine lw_icmp_ne (tgt := 777) (a := 5) (b := 4) hx hb dL_goes_686 (by decide) (by omega) (by omega) (fun c686 => ?_) (fun c686 => ?_)
                        · skip
                          refine sg_cutwi (D := D) hS (j := 799) (ls := ls) (rest := []) (0) (0) (fun x9 σ' => ∃ v9 : Nat, v9 ≤ 5000001 ∧ x9 = nI v9 ∧ σ = σ') (fun x9 σ' H locs hj9 hP hD hS => ?_) (fun k799 => ?_)
                          · obtain ⟨gr, hgr, rfl, rfl⟩ := hj9
                            refine lv_istore (lv' := [(16, .int (nI gr)), (15, .int (nI 1)), (14, .int (nI 1)), (13, .int (nI kk)), (12, .int (nI fi)), (11, .int (nI rt)), (0, .ref x), (1, .int (nI 5)), (2, .int y), (3, .ref (ad 0)), (4, .ref (ad 1)), (5, .ref (ad 2)), (6, .ref (ad 3)), (7, .ref (ad 4)), (8, .ref (ad 5)), (9, .ref (ad 6)), (10, .ref (ad 7))]) hx hb dL_goes_799 hl (by decide) rfl (fun ls hl => ?_)
                            refine sg_cutwi (D := D) hS (j := 813) (ls := ls) (rest := []) (0) (0) (fun x9 σ' => ∃ v9 : Nat, ((v9 = 1 ∧ (gr < 5000001)) ∨ (v9 = 0 ∧ ¬ (gr < 5000001))) ∧ x9 = nI v9 ∧ σ = σ') (fun x9 σ' H locs hj9 hP hD hS => ?_) (fun k813 => ?_)
                            · obtain ⟨go, hgo, rfl, rfl⟩ := hj9
                              refine lv_istore (lv' := [(17, .int (nI go)), (16, .int (nI gr)), (15, .int (nI 1)), (14, .int (nI 1)), (13, .int (nI kk)), (12, .int (nI fi)), (11, .int (nI rt)), (0, .ref x), (1, .int (nI 5)), (2, .int y), (3, .ref (ad 0)), (4, .ref (ad 1)), (5, .ref (ad 2)), (6, .ref (ad 3)), (7, .ref (ad 4)), (8, .ref (ad 5)), (9, .ref (ad 6)), (10, .ref (ad 7))]) hx hb dL_goes_813 hl (by decide) rfl (fun ls hl => ?_)
                              refine lv_iload hx hb dL_goes_815 (lv_at hl 2 rfl) ?_
                              refine lw_if_eq (tgt := 860) (a := 1) hx hb dL_goes_817 (by decide) (by omega) (fun c817 => ?_) (fun c817 => ?_)
                              · exfalso; omega
                              · skip
                                refine lv_iload hx hb dL_goes_820 (lv_at hl 0 rfl) ?_
                                refine lw_if_eq (tgt := 860) (a := go) hx hb dL_goes_822 (by decide) (by omega) (fun c822 => ?_) (fun c822 => ?_)
                                · skip
                                  refine lv_iconst (v := nI 0) hx hb dL_goes_860 (by decide) ?_
                                  refine lw_nat (a := 0) (rfl) ?_
                                  refine lv_istore (lv' := [(18, .int (nI 0)), (17, .int (nI go)), (16, .int (nI gr)), (15, .int (nI 1)), (14, .int (nI 1)), (13, .int (nI kk)), (12, .int (nI fi)), (11, .int (nI rt)), (0, .ref x), (1, .int (nI 5)), (2, .int y), (3, .ref (ad 0)), (4, .ref (ad 1)), (5, .ref (ad 2)), (6, .ref (ad 3)), (7, .ref (ad 4)), (8, .ref (ad 5)), (9, .ref (ad 6)), (10, .ref (ad 7))]) hx hb dL_goes_861 hl (by decide) rfl (fun ls hl => ?_)
                                  refine lv_iload hx hb dL_goes_863 (lv_at hl 3 rfl) ?_
                                  refine lw_if_eq (tgt := 897) (a := 1) hx hb dL_goes_865 (by decide) (by omega) (fun c865 => ?_) (fun c865 => ?_)
                                  · exfalso; omega
                                  · skip
                                    refine lv_iload hx hb dL_goes_868 (lv_at hl 1 rfl) ?_
                                    refine lw_if_eq (tgt := 897) (a := go) hx hb dL_goes_870 (by decide) (by omega) (fun c870 => ?_) (fun c870 => ?_)
                                    · skip
                                      refine lv_aload_n hx hb dL_goes_897 rfl (lv_at hl 8 rfl) ?_
                                      refine lv_iconst (v := nI 1) hx hb dL_goes_898 (by decide) ?_
                                      refine lv_iload hx hb dL_goes_899 (lv_at hl 5 rfl) ?_
                                      refine lv_iload hx hb dL_goes_901 (lv_at hl 2 rfl) ?_
                                      refine sg_xcalli hD hS hA (vx_runSX (As := [.ref x, .int (nI 1), .int (nI kk), .int (nI gr)]) (rest := []) ⟨hx, hb, hml, hown, hts⟩ (c_L_act1 l hfl D Y _ _ x M N t c (nI kk) (nI gr) (hXX.far hG.2.2) hc) (vx_cwSW 4 hts gL_goes_L_act rfl rfl rfl (by decide +kernel) ⟨(Nat.le_of_ble_eq_true rfl), (Nat.le_of_ble_eq_true rfl)⟩) (lh_preS hK hP hD hN hC hX hS hA) rfl rfl hl.1 rfl (lv_room (Nat.le_of_ble_eq_true rfl)) dL_goes_903 ⟨(Nat.le_of_ble_eq_true rfl), (Nat.le_of_ble_eq_true rfl)⟩) (fun E ce q9 H locs hpx hP hD hS hce hcv hcl => False.elim hpx) (fun r9 σ' H locs hw9 hP hD hS => ?_)
                                      have hq9 : ¬ qIn (nI gr) 0 5000000 := fun z => by have := (qn (a := 0) (b := 5000000) (by decide) (by decide) (by omega)).mp z; omega
                                      obtain ⟨-, rfl, rfl⟩ := (hw9.resolve_left (fun z => z.1 hvi)).resolve_right (fun z => z.elim (fun z => hq9 z.1.2.1) (fun z => hq9 z.1.2.1))
                                      refine lv_iload hx hb dL_goes_906 (lv_at hl 4 rfl) ?_
                                      refine lw_if_ne (tgt := 916) (a := 1) hx hb dL_goes_908 (by decide) (by omega) (fun c908 => ?_) (fun c908 => ?_)
                                      · skip
                                        refine lv_iload hx hb dL_goes_916 (lv_at hl 1 rfl) ?_
                                        refine lw_if_ne (tgt := 926) (a := go) hx hb dL_goes_918 (by decide) (by omega) (fun c918 => ?_) (fun c918 => ?_)
                                        · exfalso; omega
                                        · skip
                                          refine lv_bipush (v := (-102)) hx hb dL_goes_921 (by decide) ?_
                                          refine lv_goto (tgt := 938) hx hb dL_goes_923 (by decide) ?_
                                          refine lv_icmp_ne (tgt := 945) hx hb dL_goes_938 (by decide) (fun c938 => ?_) (fun c938 => ?_)
                                          · exact absurd rfl c938
                                          · skip
                                            refine lv_iconst (v := nI 1) hx hb dL_goes_941 (by decide) ?_
                                            refine lv_goto (tgt := 946) hx hb dL_goes_942 (by decide) ?_
                                            exact sg_iret hx hb hr rfl hlocks hP hD hS (Nat.le_of_ble_eq_true rfl) (Nat.le_of_ble_eq_true rfl) dL_goes_946 (⟨rfl, LI.mk ((hXX.far hG.2.2).mon (Nat.le_succ c)) hG hL⟩)
                                      · exfalso; omega
                                    · exfalso; omega
                                · skip
                                  obtain ⟨-, -, -, ⟨ra, hra, era4⟩, -⟩ := hIV.2.2.1 kk (by omega)
                                  have era : gI G 2 kk = nI ra := by rw [← Nat.zero_add kk, hL.at (by omega) (show mP 0 4 by unfold mP; omega)]; exact era4
                                  have hb9 : gr % 100 * ra ≤ 99 * 15 := Nat.mul_le_mul (by omega) hra
                                  have hpt : nI (gr * ra / 100) = rSlip M (nI kk) (nI gr) := slip_nat (by omega) (by omega) hra era4
                                  refine lv_iload hx hb dL_goes_825 (lv_at hl 1 rfl) ?_
                                  refine lv_iload hx hb dL_goes_827 (lv_at hl 1 rfl) ?_
                                  refine lv_bipush (v := nI 100) hx hb dL_goes_829 (by decide) ?_
                                  refine lw_irem (a := gr) (b := 100) hx hb dL_goes_831 (by omega) (by decide) (by decide) ?_
                                  refine lw_isub (a := gr) (b := gr % 100) hx hb dL_goes_832 (by omega) ?_
                                  refine lv_bipush (v := nI 100) hx hb dL_goes_833 (by decide) ?_
                                  refine lw_idiv (a := gr - (gr % 100)) (b := 100) hx hb dL_goes_835 (by omega) (by decide) (by decide) ?_
                                  refine lv_aload hx hb dL_goes_836 (lv_at hl 12 rfl) ?_
                                  refine lv_iload hx hb dL_goes_838 (lv_at hl 4 rfl) ?_
                                  refine lw_iald hx hb hK hP hG.a2 (k := kk) (by omega) (v := nI ra) (era) dL_goes_840 ?_
                                  refine lw_imul (a := (gr - (gr % 100)) / 100) (b := ra) hx hb dL_goes_841 ?_
                                  refine lv_iload hx hb dL_goes_842 (lv_at hl 1 rfl) ?_
                                  refine lv_bipush (v := nI 100) hx hb dL_goes_844 (by decide) ?_
                                  refine lw_irem (a := gr) (b := 100) hx hb dL_goes_846 (by omega) (by decide) (by decide) ?_
                                  refine lv_aload hx hb dL_goes_847 (lv_at hl 12 rfl) ?_
                                  refine lv_iload hx hb dL_goes_849 (lv_at hl 4 rfl) ?_
                                  refine lw_iald hx hb hK hP hG.a2 (k := kk) (by omega) (v := nI ra) (era) dL_goes_851 ?_
                                  refine lw_imul (a := gr % 100) (b := ra) hx hb dL_goes_852 ?_
                                  refine lv_bipush (v := nI 100) hx hb dL_goes_853 (by decide) ?_
                                  refine lw_idiv (a := (gr % 100) * ra) (b := 100) hx hb dL_goes_855 (by omega) (by decide) (by decide) ?_
                                  refine lw_iadd (a := ((gr - (gr % 100)) / 100) * ra) (b := ((gr % 100) * ra) / 100) hx hb dL_goes_856 ?_
                                  refine lv_goto (tgt := 861) hx hb dL_goes_857 (by decide) ?_
                                  refine lw_nat (a := gr * ra / 100) (congrArg nI (part_eq gr ra)) ?_
                                  refine lv_istore (lv' := [(18, .int (nI (gr * ra / 100))), (17, .int (nI go)), (16, .int (nI gr)), (15, .int (nI 1)), (14, .int (nI 1)), (13, .int (nI kk)), (12, .int (nI fi)), (11, .int (nI rt)), (0, .ref x), (1, .int (nI 5)), (2, .int y), (3, .ref (ad 0)), (4, .ref (ad 1)), (5, .ref (ad 2)), (6, .ref (ad 3)), (7, .ref (ad 4)), (8, .ref (ad 5)), (9, .ref (ad 6)), (10, .ref (ad 7))]) hx hb dL_goes_861 hl (by decide) rfl (fun ls hl => ?_)
                                  refine lv_iload hx hb dL_goes_863 (lv_at hl 3 rfl) ?_
                                  refine lw_if_eq (tgt := 897) (a := 1) hx hb dL_goes_865 (by decide) (by omega) (fun c865 => ?_) (fun c865 => ?_)
                                  · exfalso; omega
                                  · skip
                                    refine lv_iload hx hb dL_goes_868 (lv_at hl 1 rfl) ?_
                                    refine lw_if_eq (tgt := 897) (a := go) hx hb dL_goes_870 (by decide) (by omega) (fun c870 => ?_) (fun c870 => ?_)
                                    · exfalso; omega
                                    · skip
                                      refine lv_aload hx hb dL_goes_873 (lv_at hl 13 rfl) ?_
                                      refine lv_bipush (v := nI 8) hx hb dL_goes_875 (by decide) ?_
                                      refine lv_iload hx hb dL_goes_877 (lv_at hl 5 rfl) ?_
                                      refine lw_iadd (a := 8) (b := kk) hx hb dL_goes_879 ?_
                                      refine lv_dup2_11 hx hb dL_goes_880 rfl rfl ?_
                                      refine lw_iald hx hb hK hP hG.a2 (k := 8 + kk) (by omega) (v := gI G 2 (8 + kk)) (rfl) dL_goes_881 ?_
                                      refine lv_iload hx hb dL_goes_882 (lv_at hl 0 rfl) ?_
                                      refine lv_iadd hx hb dL_goes_884 ?_
                                      refine lw_iast hx hb hK hP hD hS hG.a2 (k := 8 + kk) (by omega) dL_goes_885 (fun H locs hP hD hS => ?_)
                                      have hG := hG.u2 (k := 8 + kk) (v := (gI G 2 (8 + kk)) + (nI (gr * ra / 100)))
                                      refine lv_aload hx hb dL_goes_886 (lv_at hl 18 rfl) ?_
                                      refine lv_iload hx hb dL_goes_888 (lv_at hl 5 rfl) ?_
                                      refine lv_dup2_11 hx hb dL_goes_890 rfl rfl ?_
                                      refine lw_lald hx hb hK hP hG.a7 (k := kk) (by omega) (v := gX G kk) (by rw [gX_vI]) dL_goes_891 ?_
                                      refine lv_iload hx hb dL_goes_892 (lv_at hl 0 rfl) ?_
                                      refine lv_i2l hx hb dL_goes_894 rfl ?_
                                      refine lv_ladd hx hb dL_goes_895 ?_
                                      refine lw_last hx hb hK hP hD hS hG.a7 (k := kk) (by omega) dL_goes_896 (fun H locs hP hD hS => ?_)
                                      have hG := hG.u7 (k := kk) (w := (gX G kk) + ((nI (gr * ra / 100)).toInt64))
                                      have hL2 := LR.slip (w := kk) (y := nI gr) (pt := nI (gr * ra / 100)) hL (by omega) hpt rfl rfl
                                      refine lv_aload_n hx hb dL_goes_897 rfl (lv_at hl 8 rfl) ?_
                                      refine lv_iconst (v := nI 1) hx hb dL_goes_898 (by decide) ?_
                                      refine lv_iload hx hb dL_goes_899 (lv_at hl 5 rfl) ?_
                                      refine lv_iload hx hb dL_goes_901 (lv_at hl 2 rfl) ?_
                                      refine sg_xcalli hD hS hA (vx_runSX (As := [.ref x, .int (nI 1), .int (nI kk), .int (nI gr)]) (rest := []) ⟨hx, hb, hml, hown, hts⟩ (c_L_act1 l hfl D Y _ _ x M N t c (nI kk) (nI gr) (hXX.far hG.2.2) hc) (vx_cwSW 4 hts gL_goes_L_act rfl rfl rfl (by decide +kernel) ⟨(Nat.le_of_ble_eq_true rfl), (Nat.le_of_ble_eq_true rfl)⟩) (lh_preS hK hP hD hN hC hX hS hA) rfl rfl hl.1 rfl (lv_room (Nat.le_of_ble_eq_true rfl)) dL_goes_903 ⟨(Nat.le_of_ble_eq_true rfl), (Nat.le_of_ble_eq_true rfl)⟩) (fun E ce q9 H locs hpx hP hD hS hce hcv hcl => False.elim hpx) (fun r9 σ' H locs hw9 hP hD hS => ?_)
                                      have hq9 : qIn (nI gr) 0 5000000 := (qn (a := 0) (b := 5000000) (by decide) (by decide) (by omega)).mpr ⟨by omega, by omega⟩
                                      have hw9 := (hw9.resolve_left (fun z => z.1 hvi)).resolve_left (fun z => z.1.2 hq9)
                                      obtain ⟨-, e9, hX9⟩ := hw9.resolve_left (fun z => z.1.2.2 hst)
                                      have hG := hG.by hX9.ho
                                      refine lv_iload hx hb dL_goes_906 (lv_at hl 4 rfl) ?_
                                      refine lw_if_ne (tgt := 916) (a := 1) hx hb dL_goes_908 (by decide) (by omega) (fun c908 => ?_) (fun c908 => ?_)
                                      · skip
                                        refine lv_iload hx hb dL_goes_916 (lv_at hl 1 rfl) ?_
                                        refine lw_if_ne (tgt := 926) (a := go) hx hb dL_goes_918 (by decide) (by omega) (fun c918 => ?_) (fun c918 => ?_)
                                        · skip
                                          refine lv_iload hx hb dL_goes_926 (lv_at hl 3 rfl) ?_
                                          refine lw_if_eq (tgt := 936) (a := 1) hx hb dL_goes_928 (by decide) (by omega) (fun c928 => ?_) (fun c928 => ?_)
                                          · exfalso; omega
                                          · skip
                                            refine lv_iload hx hb dL_goes_931 (lv_at hl 0 rfl) ?_
                                            refine lv_goto (tgt := 938) hx hb dL_goes_933 (by decide) ?_
                                            refine lv_icmp_ne (tgt := 945) hx hb dL_goes_938 (by decide) (fun c938 => ?_) (fun c938 => ?_)
                                            · exact absurd (e9.trans hpt.symm) c938
                                            · skip
                                              refine lv_iconst (v := nI 1) hx hb dL_goes_941 (by decide) ?_
                                              refine lv_goto (tgt := 946) hx hb dL_goes_942 (by decide) ?_
                                              exact sg_iret hx hb hr rfl hlocks hP hD hS (Nat.le_of_ble_eq_true rfl) (Nat.le_of_ble_eq_true rfl) dL_goes_946 (⟨rfl, LI.mk hX9.self hG hL2⟩)
                                        · exfalso; omega
                                      · exfalso; omega
                            · skip
                              refine lv_iload hx hb dL_goes_801 (lv_at hl 0 rfl) ?_
                              refine lv_ldc (v := 5000001) hx hb hown (hts (.constant RL 120 5000001) (by decide +kernel)) dL_goes_803 ?_
                              refine lw_nat (a := 5000001) rfl ?_
                              refine lw_icmp_ge (tgt := 812) (a := gr) (b := 5000001) hx hb dL_goes_805 (by decide) (by omega) (by omega) (fun c805 => ?_) (fun c805 => ?_)
                              · skip
                                refine lv_iconst (v := nI 0) hx hb dL_goes_812 (by decide) ?_
                                exact k813 _ _ _ _ (⟨0, by omega, rfl, rfl⟩) hP hD hS
                              · skip
                                refine lv_iconst (v := nI 1) hx hb dL_goes_808 (by decide) ?_
                                refine lv_goto (tgt := 813) hx hb dL_goes_809 (by decide) ?_
                                exact k813 _ _ _ _ (⟨1, by omega, rfl, rfl⟩) hP hD hS
                          · skip
                            refine lv_iload_n hx hb dL_goes_777 rfl (lv_at hl 7 rfl) ?_
                            refine lv_bipush (v := nI 30) hx hb dL_goes_778 (by decide) ?_
                            refine sg_calli hD hS hA (va_runS (As := [.int y, .int (nI 30)]) (rest := []) ⟨hx, hb, hml, hown, hts⟩ (c_L_some l D Y _ _ y 30 (by omega) (by omega)) (va_cwS 2 hts gL_goes_L_some rfl rfl rfl (by decide +kernel) ⟨(Nat.le_of_ble_eq_true rfl), (Nat.le_of_ble_eq_true rfl)⟩) (sg_preS hK hP hD hN hX hS hA) rfl rfl hl.1 rfl (lv_room (Nat.le_of_ble_eq_true rfl)) dL_goes_780 ⟨(Nat.le_of_ble_eq_true rfl), (Nat.le_of_ble_eq_true rfl)⟩) (fun r9 σ' H locs hw9 hP hD hS => ?_)
                            obtain ⟨w780, hw780, rfl, rfl⟩ := hw9
                            refine lw_if_ne (tgt := 791) (a := w780) hx hb dL_goes_783 (by decide) (by omega) (fun c783 => ?_) (fun c783 => ?_)
                            · skip
                              refine lv_iload_n hx hb dL_goes_791 rfl (lv_at hl 7 rfl) ?_
                              refine lv_iconst (v := nI 2) hx hb dL_goes_792 (by decide) ?_
                              refine lv_ishr hx hb dL_goes_793 ?_
                              refine lv_topi (fun v793 _ => ?_)
                              refine lv_ldc (v := 400000) hx hb hown (hts (.constant RL 121 400000) (by decide +kernel)) dL_goes_794 ?_
                              refine lw_nat (a := 400000) rfl ?_
                              refine sg_calli hD hS hA (va_runS (As := [.int v793, .int (nI 400000)]) (rest := []) ⟨hx, hb, hml, hown, hts⟩ (c_L_some l D Y _ _ v793 400000 (by omega) (by omega)) (va_cwS 2 hts gL_goes_L_some rfl rfl rfl (by decide +kernel) ⟨(Nat.le_of_ble_eq_true rfl), (Nat.le_of_ble_eq_true rfl)⟩) (sg_preS hK hP hD hN hX hS hA) rfl rfl hl.1 rfl (lv_room (Nat.le_of_ble_eq_true rfl)) dL_goes_796 ⟨(Nat.le_of_ble_eq_true rfl), (Nat.le_of_ble_eq_true rfl)⟩) (fun r9 σ' H locs hw9 hP hD hS => ?_)
                              obtain ⟨w796, hw796, rfl, rfl⟩ := hw9
                              exact k799 _ _ _ _ (⟨w796, by omega, rfl, rfl⟩) hP hD hS
                            · skip
                              refine lv_ldc (v := 5000001) hx hb hown (hts (.constant RL 120 5000001) (by decide +kernel)) dL_goes_786 ?_
                              refine lw_nat (a := 5000001) rfl ?_
                              refine lv_goto (tgt := 799) hx hb dL_goes_788 (by decide) ?_
                              exact k799 _ _ _ _ (⟨5000001, by omega, rfl, rfl⟩) hP hD hS
                        · exfalso; omega
                      · exfalso; omega
              · skip
                refine lv_istore (lv' := [(13, .int (-1)), (12, .int (nI fi)), (11, .int (nI rt)), (0, .ref x), (1, .int (nI 5)), (2, .int y), (3, .ref (ad 0)), (4, .ref (ad 1)), (5, .ref (ad 2)), (6, .ref (ad 3)), (7, .ref (ad 4)), (8, .ref (ad 5)), (9, .ref (ad 6)), (10, .ref (ad 7))]) hx hb dL_goes_552 hl (by decide) rfl (fun ls hl => ?_)
                refine lv_iload hx hb dL_goes_554 (lv_at hl 0 rfl) ?_
                refine lv_if_lt (tgt := 571) hx hb dL_goes_556 (by decide) (fun c556 => ?_) (fun c556 => ?_)
                · have hnv : ¬ vp_in (-1) N := vn1
                  refine lv_iconst (v := nI 0) hx hb dL_goes_571 (by decide) ?_
                  refine lv_istore (lv' := [(14, .int (nI 0)), (13, .int (-1)), (12, .int (nI fi)), (11, .int (nI rt)), (0, .ref x), (1, .int (nI 5)), (2, .int y), (3, .ref (ad 0)), (4, .ref (ad 1)), (5, .ref (ad 2)), (6, .ref (ad 3)), (7, .ref (ad 4)), (8, .ref (ad 5)), (9, .ref (ad 6)), (10, .ref (ad 7))]) hx hb dL_goes_572 hl (by decide) rfl (fun ls hl => ?_)
                  refine lv_iload hx hb dL_goes_574 (lv_at hl 0 rfl) ?_
                  refine lw_if_eq (tgt := 593) (a := 0) hx hb dL_goes_576 (by decide) (by omega) (fun c576 => ?_) (fun c576 => ?_)
                  · skip
                    refine lv_iconst (v := nI 0) hx hb dL_goes_593 (by decide) ?_
                    refine lv_istore (lv' := [(15, .int (nI 0)), (14, .int (nI 0)), (13, .int (-1)), (12, .int (nI fi)), (11, .int (nI rt)), (0, .ref x), (1, .int (nI 5)), (2, .int y), (3, .ref (ad 0)), (4, .ref (ad 1)), (5, .ref (ad 2)), (6, .ref (ad 3)), (7, .ref (ad 4)), (8, .ref (ad 5)), (9, .ref (ad 6)), (10, .ref (ad 7))]) hx hb dL_goes_594 hl (by decide) rfl (fun ls hl => ?_)
                    refine lv_iload_n hx hb dL_goes_596 rfl (lv_at hl 6 rfl) ?_
                    refine lv_iconst (v := nI 3) hx hb dL_goes_597 (by decide) ?_
                    refine lw_icmp_ne (tgt := 684) (a := 5) (b := 3) hx hb dL_goes_598 (by decide) (by omega) (by omega) (fun c598 => ?_) (fun c598 => ?_)
                    · skip
                      refine lv_iload_n hx hb dL_goes_684 rfl (lv_at hl 6 rfl) ?_
                      refine lv_iconst (v := nI 4) hx hb dL_goes_685 (by decide) ?_
                      refine lw_icmp_ne (tgt := 777) (a := 5) (b := 4) hx hb dL_goes_686 (by decide) (by omega) (by omega) (fun c686 => ?_) (fun c686 => ?_)
                      · skip
                        refine sg_cutwi (D := D) hS (j := 799) (ls := ls) (rest := []) (0) (0) (fun x9 σ' => ∃ v9 : Nat, v9 ≤ 5000001 ∧ x9 = nI v9 ∧ σ = σ') (fun x9 σ' H locs hj9 hP hD hS => ?_) (fun k799 => ?_)
                        · obtain ⟨gr, hgr, rfl, rfl⟩ := hj9
                          refine lv_istore (lv' := [(16, .int (nI gr)), (15, .int (nI 0)), (14, .int (nI 0)), (13, .int (-1)), (12, .int (nI fi)), (11, .int (nI rt)), (0, .ref x), (1, .int (nI 5)), (2, .int y), (3, .ref (ad 0)), (4, .ref (ad 1)), (5, .ref (ad 2)), (6, .ref (ad 3)), (7, .ref (ad 4)), (8, .ref (ad 5)), (9, .ref (ad 6)), (10, .ref (ad 7))]) hx hb dL_goes_799 hl (by decide) rfl (fun ls hl => ?_)
                          refine sg_cutwi (D := D) hS (j := 813) (ls := ls) (rest := []) (0) (0) (fun x9 σ' => ∃ v9 : Nat, ((v9 = 1 ∧ (gr < 5000001)) ∨ (v9 = 0 ∧ ¬ (gr < 5000001))) ∧ x9 = nI v9 ∧ σ = σ') (fun x9 σ' H locs hj9 hP hD hS => ?_) (fun k813 => ?_)
                          · obtain ⟨go, hgo, rfl, rfl⟩ := hj9
                            refine lv_istore (lv' := [(17, .int (nI go)), (16, .int (nI gr)), (15, .int (nI 0)), (14, .int (nI 0)), (13, .int (-1)), (12, .int (nI fi)), (11, .int (nI rt)), (0, .ref x), (1, .int (nI 5)), (2, .int y), (3, .ref (ad 0)), (4, .ref (ad 1)), (5, .ref (ad 2)), (6, .ref (ad 3)), (7, .ref (ad 4)), (8, .ref (ad 5)), (9, .ref (ad 6)), (10, .ref (ad 7))]) hx hb dL_goes_813 hl (by decide) rfl (fun ls hl => ?_)
                            refine lv_iload hx hb dL_goes_815 (lv_at hl 2 rfl) ?_
                            refine lw_if_eq (tgt := 860) (a := 0) hx hb dL_goes_817 (by decide) (by omega) (fun c817 => ?_) (fun c817 => ?_)
                            · skip
                              refine lv_iconst (v := nI 0) hx hb dL_goes_860 (by decide) ?_
                              refine lw_nat (a := 0) (rfl) ?_
                              refine lv_istore (lv' := [(18, .int (nI 0)), (17, .int (nI go)), (16, .int (nI gr)), (15, .int (nI 0)), (14, .int (nI 0)), (13, .int (-1)), (12, .int (nI fi)), (11, .int (nI rt)), (0, .ref x), (1, .int (nI 5)), (2, .int y), (3, .ref (ad 0)), (4, .ref (ad 1)), (5, .ref (ad 2)), (6, .ref (ad 3)), (7, .ref (ad 4)), (8, .ref (ad 5)), (9, .ref (ad 6)), (10, .ref (ad 7))]) hx hb dL_goes_861 hl (by decide) rfl (fun ls hl => ?_)
                              refine lv_iload hx hb dL_goes_863 (lv_at hl 3 rfl) ?_
                              refine lw_if_eq (tgt := 897) (a := 0) hx hb dL_goes_865 (by decide) (by omega) (fun c865 => ?_) (fun c865 => ?_)
                              · skip
                                refine lv_aload_n hx hb dL_goes_897 rfl (lv_at hl 8 rfl) ?_
                                refine lv_iconst (v := nI 1) hx hb dL_goes_898 (by decide) ?_
                                refine lv_iload hx hb dL_goes_899 (lv_at hl 5 rfl) ?_
                                refine lv_iload hx hb dL_goes_901 (lv_at hl 2 rfl) ?_
                                refine sg_xcalli hD hS hA (vx_runSX (As := [.ref x, .int (nI 1), .int (-1), .int (nI gr)]) (rest := []) ⟨hx, hb, hml, hown, hts⟩ (c_L_act1 l hfl D Y _ _ x M N t c (-1) (nI gr) (hXX.far hG.2.2) hc) (vx_cwSW 4 hts gL_goes_L_act rfl rfl rfl (by decide +kernel) ⟨(Nat.le_of_ble_eq_true rfl), (Nat.le_of_ble_eq_true rfl)⟩) (lh_preS hK hP hD hN hC hX hS hA) rfl rfl hl.1 rfl (lv_room (Nat.le_of_ble_eq_true rfl)) dL_goes_903 ⟨(Nat.le_of_ble_eq_true rfl), (Nat.le_of_ble_eq_true rfl)⟩) (fun E ce q9 H locs hpx hP hD hS hce hcv hcl => False.elim hpx) (fun r9 σ' H locs hw9 hP hD hS => ?_)
                                obtain ⟨-, rfl, rfl⟩ := hw9.resolve_right (fun z => z.elim (fun z => hnv z.1.1) (fun z => z.elim (fun z => hnv z.1.1) (fun z => hnv z.1.1)))
                                refine lv_iload hx hb dL_goes_906 (lv_at hl 4 rfl) ?_
                                refine lw_if_ne (tgt := 916) (a := 0) hx hb dL_goes_908 (by decide) (by omega) (fun c908 => ?_) (fun c908 => ?_)
                                · exfalso; omega
                                · skip
                                  refine lv_bipush (v := (-101)) hx hb dL_goes_911 (by decide) ?_
                                  refine lv_goto (tgt := 938) hx hb dL_goes_913 (by decide) ?_
                                  refine lv_icmp_ne (tgt := 945) hx hb dL_goes_938 (by decide) (fun c938 => ?_) (fun c938 => ?_)
                                  · exact absurd rfl c938
                                  · skip
                                    refine lv_iconst (v := nI 1) hx hb dL_goes_941 (by decide) ?_
                                    refine lv_goto (tgt := 946) hx hb dL_goes_942 (by decide) ?_
                                    exact sg_iret hx hb hr rfl hlocks hP hD hS (Nat.le_of_ble_eq_true rfl) (Nat.le_of_ble_eq_true rfl) dL_goes_946 (⟨rfl, LI.mk ((hXX.far hG.2.2).mon (Nat.le_succ c)) hG hL⟩)
                              · exfalso; omega
                            · exfalso; omega
                          · skip
                            refine lv_iload hx hb dL_goes_801 (lv_at hl 0 rfl) ?_
                            refine lv_ldc (v := 5000001) hx hb hown (hts (.constant RL 120 5000001) (by decide +kernel)) dL_goes_803 ?_
                            refine lw_nat (a := 5000001) rfl ?_
                            refine lw_icmp_ge (tgt := 812) (a := gr) (b := 5000001) hx hb dL_goes_805 (by decide) (by omega) (by omega) (fun c805 => ?_) (fun c805 => ?_)
                            · skip
                              refine lv_iconst (v := nI 0) hx hb dL_goes_812 (by decide) ?_
                              exact k813 _ _ _ _ (⟨0, by omega, rfl, rfl⟩) hP hD hS
                            · skip
                              refine lv_iconst (v := nI 1) hx hb dL_goes_808 (by decide) ?_
                              refine lv_goto (tgt := 813) hx hb dL_goes_809 (by decide) ?_
                              exact k813 _ _ _ _ (⟨1, by omega, rfl, rfl⟩) hP hD hS
                        · skip
                          refine lv_iload_n hx hb dL_goes_777 rfl (lv_at hl 7 rfl) ?_
                          refine lv_bipush (v := nI 30) hx hb dL_goes_778 (by decide) ?_
                          refine sg_calli hD hS hA (va_runS (As := [.int y, .int (nI 30)]) (rest := []) ⟨hx, hb, hml, hown, hts⟩ (c_L_some l D Y _ _ y 30 (by omega) (by omega)) (va_cwS 2 hts gL_goes_L_some rfl rfl rfl (by decide +kernel) ⟨(Nat.le_of_ble_eq_true rfl), (Nat.le_of_ble_eq_true rfl)⟩) (sg_preS hK hP hD hN hX hS hA) rfl rfl hl.1 rfl (lv_room (Nat.le_of_ble_eq_true rfl)) dL_goes_780 ⟨(Nat.le_of_ble_eq_true rfl), (Nat.le_of_ble_eq_true rfl)⟩) (fun r9 σ' H locs hw9 hP hD hS => ?_)
                          obtain ⟨w780, hw780, rfl, rfl⟩ := hw9
                          refine lw_if_ne (tgt := 791) (a := w780) hx hb dL_goes_783 (by decide) (by omega) (fun c783 => ?_) (fun c783 => ?_)
                          · skip
                            refine lv_iload_n hx hb dL_goes_791 rfl (lv_at hl 7 rfl) ?_
                            refine lv_iconst (v := nI 2) hx hb dL_goes_792 (by decide) ?_
                            refine lv_ishr hx hb dL_goes_793 ?_
                            refine lv_topi (fun v793 _ => ?_)
                            refine lv_ldc (v := 400000) hx hb hown (hts (.constant RL 121 400000) (by decide +kernel)) dL_goes_794 ?_
                            refine lw_nat (a := 400000) rfl ?_
                            refine sg_calli hD hS hA (va_runS (As := [.int v793, .int (nI 400000)]) (rest := []) ⟨hx, hb, hml, hown, hts⟩ (c_L_some l D Y _ _ v793 400000 (by omega) (by omega)) (va_cwS 2 hts gL_goes_L_some rfl rfl rfl (by decide +kernel) ⟨(Nat.le_of_ble_eq_true rfl), (Nat.le_of_ble_eq_true rfl)⟩) (sg_preS hK hP hD hN hX hS hA) rfl rfl hl.1 rfl (lv_room (Nat.le_of_ble_eq_true rfl)) dL_goes_796 ⟨(Nat.le_of_ble_eq_true rfl), (Nat.le_of_ble_eq_true rfl)⟩) (fun r9 σ' H locs hw9 hP hD hS => ?_)
                            obtain ⟨w796, hw796, rfl, rfl⟩ := hw9
                            exact k799 _ _ _ _ (⟨w796, by omega, rfl, rfl⟩) hP hD hS
                          · skip
                            refine lv_ldc (v := 5000001) hx hb hown (hts (.constant RL 120 5000001) (by decide +kernel)) dL_goes_786 ?_
                            refine lw_nat (a := 5000001) rfl ?_
                            refine lv_goto (tgt := 799) hx hb dL_goes_788 (by decide) ?_
                            exact k799 _ _ _ _ (⟨5000001, by omega, rfl, rfl⟩) hP hD hS
                      · exfalso; omega
                    · exfalso; omega
                  · exfalso; omega
                · exact absurd (by decide) c556
            · skip
              refine lv_iload_n hx hb dL_goes_523 rfl (lv_at hl 4 rfl) ?_
              refine lv_iconst (v := nI 4) hx hb dL_goes_524 (by decide) ?_
              refine lv_ishr hx hb dL_goes_525 ?_
              refine lv_topi (fun v525 _ => ?_)
              refine lv_aload_n hx hb dL_goes_526 rfl (lv_at hl 5 rfl) ?_
              refine lv_iconst (v := nI 1) hx hb dL_goes_527 (by decide) ?_
              refine lw_iald hx hb hK hP hG.a0 (k := 1) (by omega) (v := nI N) (e1) dL_goes_528 ?_
              refine lv_iconst (v := nI 1) hx hb dL_goes_529 (by decide) ?_
              refine lw_iadd (a := N) (b := 1) hx hb dL_goes_530 ?_
              refine sg_calli hD hS hA (va_runS (As := [.int v525, .int (nI (N + 1))]) (rest := []) ⟨hx, hb, hml, hown, hts⟩ (c_L_some l D Y _ _ v525 (N + 1) (by omega) (by omega)) (va_cwS 2 hts gL_goes_L_some rfl rfl rfl (by decide +kernel) ⟨(Nat.le_of_ble_eq_true rfl), (Nat.le_of_ble_eq_true rfl)⟩) (sg_preS hK hP hD hN hX hS hA) rfl rfl hl.1 rfl (lv_room (Nat.le_of_ble_eq_true rfl)) dL_goes_531 ⟨(Nat.le_of_ble_eq_true rfl), (Nat.le_of_ble_eq_true rfl)⟩) (fun r9 σ' H locs hw9 hP hD hS => ?_)
              obtain ⟨w531, hw531, rfl, rfl⟩ := hw9
              refine lv_iload_n hx hb dL_goes_534 rfl (lv_at hl 4 rfl) ?_
              refine lv_bipush (v := nI 11) hx hb dL_goes_535 (by decide) ?_
              refine lv_ishr hx hb dL_goes_537 ?_
              refine lv_topi (fun v537 _ => ?_)
              refine lv_bipush (v := nI 19) hx hb dL_goes_538 (by decide) ?_
              refine sg_calli hD hS hA (va_runS (As := [.int v537, .int (nI 19)]) (rest := [.int (nI w531)]) ⟨hx, hb, hml, hown, hts⟩ (c_L_some l D Y _ _ v537 19 (by omega) (by omega)) (va_cwS 2 hts gL_goes_L_some rfl rfl rfl (by decide +kernel) ⟨(Nat.le_of_ble_eq_true rfl), (Nat.le_of_ble_eq_true rfl)⟩) (sg_preS hK hP hD hN hX hS hA) rfl rfl hl.1 rfl (lv_room (Nat.le_of_ble_eq_true rfl)) dL_goes_540 ⟨(Nat.le_of_ble_eq_true rfl), (Nat.le_of_ble_eq_true rfl)⟩) (fun r9 σ' H locs hw9 hP hD hS => ?_)
              obtain ⟨w540, hw540, rfl, rfl⟩ := hw9
              refine lw_if_ne (tgt := 550) (a := w540) hx hb dL_goes_543 (by decide) (by omega) (fun c543 => ?_) (fun c543 => ?_)
              · skip
                refine lv_iconst (v := nI 0) hx hb dL_goes_550 (by decide) ?_
                refine lv_isub hx hb dL_goes_551 ?_
                exact k552 _ _ _ _ (⟨k_dec hw531 (by omega) (Or.inl rfl), rfl⟩) hP hD hS
              · skip
                refine lv_iconst (v := nI 1) hx hb dL_goes_546 (by decide) ?_
                refine lv_goto (tgt := 551) hx hb dL_goes_547 (by decide) ?_
                refine lv_isub hx hb dL_goes_551 ?_
                exact k552 _ _ _ _ (⟨k_dec hw531 (by omega) (Or.inr rfl), rfl⟩) hP hD hS
          · exfalso; omega
        · skip
          refine lv_iload hx hb dL_goes_403 (lv_at hl 0 rfl) ?_
          refine lw_if_le (tgt := 419) (a := rt) hx hb dL_goes_405 (by decide) (by omega) (fun c405 => ?_) (fun c405 => ?_)
          · skip
            refine lv_iconst (v := nI 0) hx hb dL_goes_419 (by decide) ?_
            exact k420 _ _ _ _ (⟨0, by omega, rfl, rfl⟩) hP hD hS
          · skip
            refine lv_iload hx hb dL_goes_408 (lv_at hl 0 rfl) ?_
            refine lv_bipush (v := nI 16) hx hb dL_goes_410 (by decide) ?_
            refine lw_icmp_ge (tgt := 419) (a := rt) (b := 16) hx hb dL_goes_412 (by decide) (by omega) (by omega) (fun c412 => ?_) (fun c412 => ?_)
            · skip
              refine lv_iconst (v := nI 0) hx hb dL_goes_419 (by decide) ?_
              exact k420 _ _ _ _ (⟨0, by omega, rfl, rfl⟩) hP hD hS
            · skip
              refine lv_iconst (v := nI 1) hx hb dL_goes_415 (by decide) ?_
              refine lv_goto (tgt := 420) hx hb dL_goes_416 (by decide) ?_
              exact k420 _ _ _ _ (⟨1, by omega, rfl, rfl⟩) hP hD hS
      · skip
        refine lv_iload_n hx hb dL_goes_371 rfl (lv_at hl 2 rfl) ?_
        refine lv_bipush (v := nI 30) hx hb dL_goes_372 (by decide) ?_
        refine sg_calli hD hS hA (va_runS (As := [.int y, .int (nI 30)]) (rest := []) ⟨hx, hb, hml, hown, hts⟩ (c_L_some l D Y _ _ y 30 (by omega) (by omega)) (va_cwS 2 hts gL_goes_L_some rfl rfl rfl (by decide +kernel) ⟨(Nat.le_of_ble_eq_true rfl), (Nat.le_of_ble_eq_true rfl)⟩) (sg_preS hK hP hD hN hX hS hA) rfl rfl hl.1 rfl (lv_room (Nat.le_of_ble_eq_true rfl)) dL_goes_374 ⟨(Nat.le_of_ble_eq_true rfl), (Nat.le_of_ble_eq_true rfl)⟩) (fun r9 σ' H locs hw9 hP hD hS => ?_)
        obtain ⟨w374, hw374, rfl, rfl⟩ := hw9
        refine lw_if_ne (tgt := 393) (a := w374) hx hb dL_goes_377 (by decide) (by omega) (fun c377 => ?_) (fun c377 => ?_)
        · skip
          refine lv_iconst (v := nI 1) hx hb dL_goes_393 (by decide) ?_
          refine lv_iload_n hx hb dL_goes_394 rfl (lv_at hl 2 rfl) ?_
          refine lv_bipush (v := nI 15) hx hb dL_goes_395 (by decide) ?_
          refine sg_calli hD hS hA (va_runS (As := [.int y, .int (nI 15)]) (rest := [.int (nI 1)]) ⟨hx, hb, hml, hown, hts⟩ (c_L_some l D Y _ _ y 15 (by omega) (by omega)) (va_cwS 2 hts gL_goes_L_some rfl rfl rfl (by decide +kernel) ⟨(Nat.le_of_ble_eq_true rfl), (Nat.le_of_ble_eq_true rfl)⟩) (sg_preS hK hP hD hN hX hS hA) rfl rfl hl.1 rfl (lv_room (Nat.le_of_ble_eq_true rfl)) dL_goes_397 ⟨(Nat.le_of_ble_eq_true rfl), (Nat.le_of_ble_eq_true rfl)⟩) (fun r9 σ' H locs hw9 hP hD hS => ?_)
          obtain ⟨w397, hw397, rfl, rfl⟩ := hw9
          refine lw_iadd (a := 1) (b := w397) hx hb dL_goes_400 ?_
          exact k401 _ _ _ _ (⟨1 + w397, by omega, rfl, rfl⟩) hP hD hS
        · skip
          refine lv_bipush (v := nI 16) hx hb dL_goes_380 (by decide) ?_
          refine lv_iload_n hx hb dL_goes_382 rfl (lv_at hl 2 rfl) ?_
          refine lv_iconst (v := nI 3) hx hb dL_goes_383 (by decide) ?_
          refine lv_ishr hx hb dL_goes_384 ?_
          refine lv_topi (fun v384 _ => ?_)
          refine lv_iconst (v := nI 2) hx hb dL_goes_385 (by decide) ?_
          refine sg_calli hD hS hA (va_runS (As := [.int v384, .int (nI 2)]) (rest := [.int (nI 16)]) ⟨hx, hb, hml, hown, hts⟩ (c_L_some l D Y _ _ v384 2 (by omega) (by omega)) (va_cwS 2 hts gL_goes_L_some rfl rfl rfl (by decide +kernel) ⟨(Nat.le_of_ble_eq_true rfl), (Nat.le_of_ble_eq_true rfl)⟩) (sg_preS hK hP hD hN hX hS hA) rfl rfl hl.1 rfl (lv_room (Nat.le_of_ble_eq_true rfl)) dL_goes_386 ⟨(Nat.le_of_ble_eq_true rfl), (Nat.le_of_ble_eq_true rfl)⟩) (fun r9 σ' H locs hw9 hP hD hS => ?_)
          obtain ⟨w386, hw386, rfl, rfl⟩ := hw9
          refine lw_imul (a := 16) (b := w386) hx hb dL_goes_389 ?_
          refine lv_goto (tgt := 401) hx hb dL_goes_390 (by decide) ?_
          exact k401 _ _ _ _ (⟨16 * w386, by omega, rfl, rfl⟩) hP hD hS
    · exfalso; omega
  · exfalso; omega
