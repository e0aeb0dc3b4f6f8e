theorem irem_no {M : MS} {N t c s : Nat} (h : IV M N t c s) (hn : ¬ (t % 6 = 0 ∧ 0 < t)) : ¬ irem (sS M 0) 6 = 5 := by
  have h6 := h.1.2.1
  rcases Nat.eq_zero_or_pos t with hz | hz
  · rw [h.1.2.2.2.2, hz]
    decide
  · rw [h.now hz, show (6 : Int32) = nI 6 from rfl]
    intro q
    have q2 : nI ((t - 1) % 6) = nI 5 := (pk_rem (by omega) (by decide) (by decide)).symm.trans q
    have := (nI_eq (by omega) (by decide)).mp q2
    omega
set_option maxHeartbeats 4000000 in
set_option maxRecDepth 100000 in
theorem c_L_goes0 (l : Launch) (hfl : l.stackTraces = false) (D : va_G) (Y : Nat → ClassId) (σ : sg_W) (sz : Nat) (ad : Nat → Nat) (x : Nat) (G : ZG) (M : MS) (N t c : Nat) (y : Int32) (hXX : CX Y x σ M N t c σ) (hG : ZF Y ad σ G σ) (hL : LR G M N t) (hc : c < 512) : Met l yL_goes wsL_goes ({ frames := 9, cells := 6, slots := 50, locals := 160 } : Room) (va_Pc [.ref x, .int (nI 0), .int y, .ref (ad 0), .ref (ad 1), .ref (ad 2), .ref (ad 3), .ref (ad 4), .ref (ad 5), .ref (ad 6), .ref (ad 7)] (lh_U D Y σ sz)) (va_Qi (fun r σ' => r = nI 1 ∧ LI Y x ad (c + 1) σ') (sg_B D σ sz) (sg_A σ sz)) 6 50 (sg_A σ sz) := by
  refine lh_metP (cc := cL_goes) (maxL := 19) (ret := (some .boolean)) (by decide) rfl (Nat.le_of_ble_eq_true rfl) ?_
  intro p e s m below meth cd9 ls hx hb hml hr hown hts hlocks hnm hP hK hD hN hC hX hA hS hsz hl
  have hl : lv_has ls 19 [(0, .ref x), (1, .int (nI 0)), (2, .int y), (3, .ref (ad 0)), (4, .ref (ad 1)), (5, .ref (ad 2)), (6, .ref (ad 3)), (7, .ref (ad 4)), (8, .ref (ad 5)), (9, .ref (ad 6)), (10, .ref (ad 7))] := hl
  have hIV := hXX.iv
  have hN4 := hL.1.1
  have ht6 := hIV.1.2.1
  have hNt := hIV.1.2.2.1
  obtain ⟨⟨-, e0, e1, e2⟩, eP, -, eQ, -, hfr⟩ := id hL
  refine lv_iload_n hx hb dL_goes_0 rfl (lv_at hl 1 rfl) ?_
  refine lw_if_ne (tgt := 277) (a := 0) hx hb dL_goes_1 (by decide) (by omega) (fun c1 => ?_) (fun c1 => ?_)
  · exfalso; omega
  · skip
    refine sg_cutwi (D := D) hS (j := 24) (ls := ls) (rest := []) (0) (0) (fun x9 σ' => ∃ v9 : Nat, v9 ≤ 100000 ∧ x9 = nI v9 ∧ σ = σ') (fun x9 σ' H locs hj9 hP hD hS => ?_) (fun k24 => ?_)
    · obtain ⟨wl, hwl, rfl, rfl⟩ := hj9
      refine lv_istore (lv' := [(11, .int (nI wl)), (0, .ref x), (1, .int (nI 0)), (2, .int y), (3, .ref (ad 0)), (4, .ref (ad 1)), (5, .ref (ad 2)), (6, .ref (ad 3)), (7, .ref (ad 4)), (8, .ref (ad 5)), (9, .ref (ad 6)), (10, .ref (ad 7))]) hx hb dL_goes_24 hl (by decide) rfl (fun ls hl => ?_)
      refine sg_cutwi (D := D) hS (j := 91) (ls := ls) (rest := []) (0) (0) (fun x9 σ' => ∃ v9 : Nat, v9 ≤ 200000 ∧ x9 = nI v9 ∧ σ = σ') (fun x9 σ' H locs hj9 hP hD hS => ?_) (fun k91 => ?_)
      · obtain ⟨p0, hp0, rfl, rfl⟩ := hj9
        refine lv_istore (lv' := [(12, .int (nI p0)), (11, .int (nI wl)), (0, .ref x), (1, .int (nI 0)), (2, .int y), (3, .ref (ad 0)), (4, .ref (ad 1)), (5, .ref (ad 2)), (6, .ref (ad 3)), (7, .ref (ad 4)), (8, .ref (ad 5)), (9, .ref (ad 6)), (10, .ref (ad 7))]) hx hb dL_goes_91 hl (by decide) rfl (fun ls hl => ?_)
        refine sg_cutwi (D := D) hS (j := 114) (ls := ls) (rest := []) (0) (0) (fun x9 σ' => ∃ v9 : Nat, v9 ≤ 100001 ∧ x9 = nI v9 ∧ σ = σ') (fun x9 σ' H locs hj9 hP hD hS => ?_) (fun k114 => ?_)
        · obtain ⟨pr, hpr, rfl, rfl⟩ := hj9
          refine lv_istore (lv' := [(12, .int (nI pr)), (11, .int (nI wl)), (0, .ref x), (1, .int (nI 0)), (2, .int y), (3, .ref (ad 0)), (4, .ref (ad 1)), (5, .ref (ad 2)), (6, .ref (ad 3)), (7, .ref (ad 4)), (8, .ref (ad 5)), (9, .ref (ad 6)), (10, .ref (ad 7))]) hx hb dL_goes_114 hl (by decide) rfl (fun ls hl => ?_)
          refine sg_cutwi (D := D) hS (j := 133) (ls := ls) (rest := []) (0) (0) (fun x9 σ' => ∃ v9 : Nat, ((v9 = 1 ∧ (0 < pr ∧ pr < 100001)) ∨ (v9 = 0 ∧ ¬ (0 < pr ∧ pr < 100001))) ∧ x9 = nI v9 ∧ σ = σ') (fun x9 σ' H locs hj9 hP hD hS => ?_) (fun k133 => ?_)
          · obtain ⟨fi, hfi, rfl, rfl⟩ := hj9
            refine lv_istore (lv' := [(13, .int (nI fi)), (12, .int (nI pr)), (11, .int (nI wl)), (0, .ref x), (1, .int (nI 0)), (2, .int y), (3, .ref (ad 0)), (4, .ref (ad 1)), (5, .ref (ad 2)), (6, .ref (ad 3)), (7, .ref (ad 4)), (8, .ref (ad 5)), (9, .ref (ad 6)), (10, .ref (ad 7))]) hx hb dL_goes_133 hl (by decide) rfl (fun ls hl => ?_)
            refine sg_cutwi (D := D) hS (j := 148) (ls := ls) (rest := []) (0) (0) (fun x9 σ' => ∃ v9 : Nat, ((v9 = 1 ∧ (t < 60)) ∨ (v9 = 0 ∧ ¬ (t < 60))) ∧ x9 = nI v9 ∧ σ = σ') (fun x9 σ' H locs hj9 hP hD hS => ?_) (fun k148 => ?_)
            · obtain ⟨ca, hca, rfl, rfl⟩ := hj9
              refine lv_istore (lv' := [(14, .int (nI ca)), (13, .int (nI fi)), (12, .int (nI pr)), (11, .int (nI wl)), (0, .ref x), (1, .int (nI 0)), (2, .int y), (3, .ref (ad 0)), (4, .ref (ad 1)), (5, .ref (ad 2)), (6, .ref (ad 3)), (7, .ref (ad 4)), (8, .ref (ad 5)), (9, .ref (ad 6)), (10, .ref (ad 7))]) hx hb dL_goes_148 hl (by decide) rfl (fun ls hl => ?_)
              refine lv_iload hx hb dL_goes_150 (lv_at hl 1 rfl) ?_
              refine lw_if_eq (tgt := 237) (a := fi) hx hb dL_goes_152 (by decide) (by omega) (fun c152 => ?_) (fun c152 => ?_)
              · skip
                refine lv_aload_n hx hb dL_goes_237 rfl (lv_at hl 4 rfl) ?_
                refine lv_iload hx hb dL_goes_238 (lv_at hl 2 rfl) ?_
                refine sg_xcalli hD hS hA (vx_runSX (As := [.ref x, .int (nI pr)]) (rest := []) ⟨hx, hb, hml, hown, hts⟩ (c_L_begun l hfl D Y _ _ x M N t c (nI pr) (hXX.far hG.2.2) hc) (vx_cwSW 2 hts gL_goes_L_begun rfl rfl rfl (by decide +kernel) ⟨(Nat.le_of_ble_eq_true rfl), (Nat.le_of_ble_eq_true rfl)⟩) (lh_preS hK hP hD hN hC hX hS hA) rfl rfl hl.1 rfl (lv_room (Nat.le_of_ble_eq_true rfl)) dL_goes_240 ⟨(Nat.le_of_ble_eq_true rfl), (Nat.le_of_ble_eq_true rfl)⟩) (fun E ce q9 H locs hpx hP hD hS hce hcv hcl => False.elim hpx) (fun r9 σ' H locs hw9 hP hD hS => ?_)
                have hq9 : ¬ qIn (nI pr) 1 100000 := fun z => by have := (qn (a := 1) (b := 100000) (by decide) (by decide) (by omega)).mp z; omega
                have hw9 := hw9.resolve_right (fun z => z.elim (fun z => hq9 z.1.1) (fun z => hq9 z.1.1))
                obtain ⟨-, rfl, rfl⟩ := hw9
                refine lv_iload hx hb dL_goes_243 (lv_at hl 1 rfl) ?_
                refine lw_if_ne (tgt := 253) (a := fi) hx hb dL_goes_245 (by decide) (by omega) (fun c245 => ?_) (fun c245 => ?_)
                · exfalso; omega
                · skip
                  refine lv_bipush (v := (-101)) hx hb dL_goes_248 (by decide) ?_
                  refine lv_goto (tgt := 268) hx hb dL_goes_250 (by decide) ?_
                  refine lv_icmp_ne (tgt := 275) hx hb dL_goes_268 (by decide) (fun c268 => ?_) (fun c268 => ?_)
                  · exact absurd rfl c268
                  · skip
                    refine lv_iconst (v := nI 1) hx hb dL_goes_271 (by decide) ?_
                    refine lv_goto (tgt := 276) hx hb dL_goes_272 (by decide) ?_
                    exact sg_iret hx hb hr rfl hlocks hP hD hS (Nat.le_of_ble_eq_true rfl) (Nat.le_of_ble_eq_true rfl) dL_goes_276 (⟨rfl, LI.mk (hXX.mon (Nat.le_succ c)) hG hL⟩)
              · skip
                refine lv_iload hx hb dL_goes_155 (lv_at hl 0 rfl) ?_
                refine lw_if_eq (tgt := 237) (a := ca) hx hb dL_goes_157 (by decide) (by omega) (fun c157 => ?_) (fun c157 => ?_)
                · skip
                  refine lv_aload_n hx hb dL_goes_237 rfl (lv_at hl 4 rfl) ?_
                  refine lv_iload hx hb dL_goes_238 (lv_at hl 2 rfl) ?_
                  refine sg_xcalli hD hS hA (vx_runSX (As := [.ref x, .int (nI pr)]) (rest := []) ⟨hx, hb, hml, hown, hts⟩ (c_L_begun l hfl D Y _ _ x M N t c (nI pr) (hXX.far hG.2.2) hc) (vx_cwSW 2 hts gL_goes_L_begun rfl rfl rfl (by decide +kernel) ⟨(Nat.le_of_ble_eq_true rfl), (Nat.le_of_ble_eq_true rfl)⟩) (lh_preS hK hP hD hN hC hX hS hA) rfl rfl hl.1 rfl (lv_room (Nat.le_of_ble_eq_true rfl)) dL_goes_240 ⟨(Nat.le_of_ble_eq_true rfl), (Nat.le_of_ble_eq_true rfl)⟩) (fun E ce q9 H locs hpx hP hD hS hce hcv hcl => False.elim hpx) (fun r9 σ' H locs hw9 hP hD hS => ?_)
                  have hq9 : qIn (nI pr) 1 100000 := (qn (a := 1) (b := 100000) (by decide) (by decide) (by omega)).mpr ⟨by omega, by omega⟩
                  have hw9 := (hw9.resolve_left (fun z => z.1 hq9)).resolve_right (fun z => absurd z.1.2 (by omega))
                  obtain ⟨-, rfl, rfl⟩ := hw9
                  refine lv_iload hx hb dL_goes_243 (lv_at hl 1 rfl) ?_
                  refine lw_if_ne (tgt := 253) (a := fi) hx hb dL_goes_245 (by decide) (by omega) (fun c245 => ?_) (fun c245 => ?_)
                  · skip
                    refine lv_iload hx hb dL_goes_253 (lv_at hl 0 rfl) ?_
                    refine lw_if_eq (tgt := 266) (a := ca) hx hb dL_goes_255 (by decide) (by omega) (fun c255 => ?_) (fun c255 => ?_)
                    · skip
                      refine lv_bipush (v := (-102)) hx hb dL_goes_266 (by decide) ?_
                      refine lv_icmp_ne (tgt := 275) hx hb dL_goes_268 (by decide) (fun c268 => ?_) (fun c268 => ?_)
                      · exact absurd rfl c268
                      · skip
                        refine lv_iconst (v := nI 1) hx hb dL_goes_271 (by decide) ?_
                        refine lv_goto (tgt := 276) hx hb dL_goes_272 (by decide) ?_
                        exact sg_iret hx hb hr rfl hlocks hP hD hS (Nat.le_of_ble_eq_true rfl) (Nat.le_of_ble_eq_true rfl) dL_goes_276 (⟨rfl, LI.mk (hXX.mon (Nat.le_succ c)) hG hL⟩)
                    · exfalso; omega
                  · exfalso; omega
                · skip
                  refine lv_iconst (v := nI 0) hx hb dL_goes_160 (by decide) ?_
                  refine lv_istore (lv' := [(15, .int (nI 0)), (14, .int (nI ca)), (13, .int (nI fi)), (12, .int (nI pr)), (11, .int (nI wl)), (0, .ref x), (1, .int (nI 0)), (2, .int y), (3, .ref (ad 0)), (4, .ref (ad 1)), (5, .ref (ad 2)), (6, .ref (ad 3)), (7, .ref (ad 4)), (8, .ref (ad 5)), (9, .ref (ad 6)), (10, .ref (ad 7))]) hx hb dL_goes_161 hl (by decide) rfl (fun ls hl => ?_)
                  by_cases hpq : t % 6 = 0 ∧ 0 < t
                  · skip
                    obtain ⟨k, hk, htk⟩ : ∃ k : Nat, k < 10 ∧ t = 6 * k + 6 := ⟨t / 6 - 1, by omega, by omega⟩
                    have hX0 := hXX
                    obtain ⟨aM, aO, aL, aC, P, hQ, hR, -, -, -⟩ := hX0
                    have hfree := free_K hIV hR htk hk
                    have hall := all_K (qs := fun _ => 0) (hIV.s6 (by omega)) hR htk hk (by omega) (fun j hj => (hfree j hj).1)
                    clear hfree
                    refine sg_loop (D := D) (H0 := s.heap) (T := Nat × ZG) 163 19 (fun n1 t9 σ' c' s' => n1 + t9.1 = N ∧ ZF Y ad σ t9.2 σ' ∧ LR t9.2 (bAll M t9.1) N t ∧ c' = 0 ∧ s' = 0) (fun t9 => [(15, .int (nI t9.1)), (14, .int (nI ca)), (13, .int (nI fi)), (12, .int (nI pr)), (11, .int (nI wl)), (0, .ref x), (1, .int (nI 0)), (2, .int y), (3, .ref (ad 0)), (4, .ref (ad 1)), (5, .ref (ad 2)), (6, .ref (ad 3)), (7, .ref (ad 4)), (8, .ref (ad 5)), (9, .ref (ad 6)), (10, .ref (ad 7))]) ?_ (N) ((0, G)) _ _ _ _ _ _ (⟨by omega, hG, hL, rfl, rfl⟩) hP hD hS (lv_sub hl [0, 1, 2, 3, 4, 5, 6, 7, 8, 9, 10, 11, 12, 13, 14, 15] rfl)
                    intro n1 t9 σ' cells slots H locs ls ih hI hP hD hS hl
                    obtain ⟨z, Gz⟩ := t9
                    obtain ⟨hn0, hG, hLz, rfl, rfl⟩ := hI
                    dsimp only at hn0 hG hLz
                    obtain ⟨⟨-, hz0, hzN, hz2⟩, -, -, -, -, hfz⟩ := id hLz
                    have hl : lv_has ls 19 [(15, .int (nI z)), (14, .int (nI ca)), (13, .int (nI fi)), (12, .int (nI pr)), (11, .int (nI wl)), (0, .ref x), (1, .int (nI 0)), (2, .int y), (3, .ref (ad 0)), (4, .ref (ad 1)), (5, .ref (ad 2)), (6, .ref (ad 3)), (7, .ref (ad 4)), (8, .ref (ad 5)), (9, .ref (ad 6)), (10, .ref (ad 7))] := hl
                    refine lv_iload hx hb dL_goes_163 (lv_at hl 0 rfl) ?_
                    refine lv_aload_n hx hb dL_goes_165 rfl (lv_at hl 8 rfl) ?_
                    refine lv_iconst (v := nI 1) hx hb dL_goes_166 (by decide) ?_
                    refine lw_iald hx hb hK hP hG.a0 (k := 1) (by omega) (v := nI N) (hzN) dL_goes_167 ?_
                    refine lw_icmp_ge (tgt := 222) (a := z) (b := N) hx hb dL_goes_168 (by decide) (by omega) (by omega) (fun c168 => ?_) (fun c168 => ?_)
                    · skip
                      obtain rfl : N = z := by omega
                      have hbA : bAll M (tN (sS M 3)) = bAll M N := by rw [hIV.1.2.2.2.1, tN, nI_clamp (by omega)]
                      have hir : irem (sS M 0) 6 = 5 := by rw [hIV.now (by omega), htk, show 6 * k + 6 - 1 = 6 * k + 5 by omega, show (6 : Int32) = nI 6 from rfl]; exact (pk_rem (by omega) (by decide) (by decide)).trans (congrArg nI (show (6 * k + 5) % 6 = 5 by omega))
                      have hL2 := LR.next (v := nI pr) hLz (by omega) (by rw [bAll_S]; exact hIV.1.2.2.2.2)
                      have hL2 : LR (vI (vI Gz 1 t (nI pr)) 0 0 (nI (t + 1))) (nNext M (nI pr)) N (t + 1) := by unfold nNext; rw [if_pos hir, hbA]; rw [bAll_S] at hL2; exact hL2
                      refine lv_aload hx hb dL_goes_222 (lv_at hl 9 rfl) ?_
                      refine lv_aload_n hx hb dL_goes_224 rfl (lv_at hl 8 rfl) ?_
                      refine lv_iconst (v := nI 0) hx hb dL_goes_225 (by decide) ?_
                      refine lw_iald hx hb hK hP hG.a0 (k := 0) (by omega) (v := nI t) (hz0) dL_goes_226 ?_
                      refine lv_iload hx hb dL_goes_227 (lv_at hl 3 rfl) ?_
                      refine lw_iast hx hb hK hP hD hS hG.a1 (k := t) (by omega) dL_goes_229 (fun H locs hP hD hS => ?_)
                      have hG := hG.u1 (k := t) (v := nI pr)
                      refine lv_aload_n hx hb dL_goes_230 rfl (lv_at hl 8 rfl) ?_
                      refine lv_iconst (v := nI 0) hx hb dL_goes_231 (by decide) ?_
                      refine lv_dup2_11 hx hb dL_goes_232 rfl rfl ?_
                      refine lw_iald hx hb hK hP hG.a0 (k := 0) (by omega) (v := nI t) (by rw [gI_vo (by decide)]; exact hz0) dL_goes_233 ?_
                      refine lv_iconst (v := nI 1) hx hb dL_goes_234 (by decide) ?_
                      refine lw_iadd (a := t) (b := 1) hx hb dL_goes_235 ?_
                      refine lw_iast hx hb hK hP hD hS hG.a0 (k := 0) (by omega) dL_goes_236 (fun H locs hP hD hS => ?_)
                      have hG := hG.u0 (k := 0) (v := nI (t + 1))
                      refine lv_aload_n hx hb dL_goes_237 rfl (lv_at hl 5 rfl) ?_
                      refine lv_iload hx hb dL_goes_238 (lv_at hl 3 rfl) ?_
                      refine sg_xcalli hD hS hA (vx_runSX (As := [.ref x, .int (nI pr)]) (rest := []) ⟨hx, hb, hml, hown, hts⟩ (c_L_begun l hfl D Y _ _ x M N t c (nI pr) (hXX.far hG.2.2) hc) (vx_cwSW 2 hts gL_goes_L_begun rfl rfl rfl (by decide +kernel) ⟨(Nat.le_of_ble_eq_true rfl), (Nat.le_of_ble_eq_true rfl)⟩) (lh_preS hK hP hD hN hC hX hS hA) rfl rfl hl.1 rfl (lv_room (Nat.le_of_ble_eq_true rfl)) dL_goes_240 ⟨(Nat.le_of_ble_eq_true rfl), (Nat.le_of_ble_eq_true rfl)⟩) (fun E ce q9 H locs hpx hP hD hS hce hcv hcl => False.elim hpx) (fun r9 σ' H locs hw9 hP hD hS => ?_)
                      have hq9 : qIn (nI pr) 1 100000 := (qn (a := 1) (b := 100000) (by decide) (by decide) (by omega)).mpr ⟨by omega, by omega⟩
                      have hw9 := (hw9.resolve_left (fun z => z.1 hq9)).resolve_left (fun z => z.1.2 (by omega))
                      obtain ⟨-, rfl, hX9⟩ := hw9
                      have hG := hG.by hX9.ho
                      refine lv_iload hx hb dL_goes_243 (lv_at hl 2 rfl) ?_
                      refine lw_if_ne (tgt := 253) (a := fi) hx hb dL_goes_245 (by decide) (by omega) (fun c245 => ?_) (fun c245 => ?_)
                      · skip
                        refine lv_iload hx hb dL_goes_253 (lv_at hl 1 rfl) ?_
                        refine lw_if_eq (tgt := 266) (a := ca) hx hb dL_goes_255 (by decide) (by omega) (fun c255 => ?_) (fun c255 => ?_)
                        · exfalso; omega
                        · skip
                          refine lv_aload_n hx hb dL_goes_258 rfl (lv_at hl 8 rfl) ?_
                          refine lv_iconst (v := nI 0) hx hb dL_goes_259 (by decide) ?_
                          refine lw_iald hx hb hK hP hG.a0 (k := 0) (by omega) (v := nI (t + 1)) (gI_vs) dL_goes_260 ?_
                          refine lv_iconst (v := nI 1) hx hb dL_goes_261 (by decide) ?_
                          refine lw_isub (a := t + 1) (b := 1) hx hb dL_goes_262 (by omega) ?_
                          refine lv_goto (tgt := 268) hx hb dL_goes_263 (by decide) ?_
                          refine lw_icmp_ne (tgt := 275) (a := t) (b := (t + 1) - 1) hx hb dL_goes_268 (by decide) (by omega) (by omega) (fun c268 => ?_) (fun c268 => ?_)
                          · exfalso; omega
                          · skip
                            refine lv_iconst (v := nI 1) hx hb dL_goes_271 (by decide) ?_
                            refine lv_goto (tgt := 276) hx hb dL_goes_272 (by decide) ?_
                            exact sg_iret hx hb hr rfl hlocks hP hD hS (Nat.le_of_ble_eq_true rfl) (Nat.le_of_ble_eq_true rfl) dL_goes_276 (⟨rfl, LI.mk hX9.self hG hL2⟩)
                      · exfalso; omega
                    · skip
                      refine lv_aload_n hx hb dL_goes_171 rfl (lv_at hl 8 rfl) ?_
                      refine lv_iconst (v := nI 0) hx hb dL_goes_172 (by decide) ?_
                      refine lw_iald hx hb hK hP hG.a0 (k := 0) (by omega) (v := nI t) (hz0) dL_goes_173 ?_
                      refine lv_bipush (v := nI 6) hx hb dL_goes_174 (by decide) ?_
                      refine lw_irem (a := t) (b := 6) hx hb dL_goes_176 (by omega) (by decide) (by decide) ?_
                      refine lw_if_ne (tgt := 222) (a := t % 6) hx hb dL_goes_177 (by decide) (by omega) (fun c177 => ?_) (fun c177 => ?_)
                      · exfalso; omega
                      · skip
                        refine lv_aload_n hx hb dL_goes_180 rfl (lv_at hl 8 rfl) ?_
                        refine lv_iconst (v := nI 0) hx hb dL_goes_181 (by decide) ?_
                        refine lw_iald hx hb hK hP hG.a0 (k := 0) (by omega) (v := nI t) (hz0) dL_goes_182 ?_
                        refine lw_if_le (tgt := 222) (a := t) hx hb dL_goes_183 (by decide) (by omega) (fun c183 => ?_) (fun c183 => ?_)
                        · exfalso; omega
                        · skip
                          refine lv_aload hx hb dL_goes_186 (lv_at hl 10 rfl) ?_
                          refine lv_iconst (v := nI 4) hx hb dL_goes_188 (by decide) ?_
                          refine lv_iload hx hb dL_goes_189 (lv_at hl 0 rfl) ?_
                          refine lw_iadd (a := 4) (b := z) hx hb dL_goes_191 ?_
                          refine lw_iald hx hb hK hP hG.a2 (k := 4 + z) (by omega) (v := gI Gz 2 (4 + z)) (rfl) dL_goes_192 ?_
                          refine lv_if_ne (tgt := 216) hx hb dL_goes_193 (by decide) (fun c193 => ?_) (fun c193 => ?_)
                          · have hbz : bAll M (z + 1) = bAll M z := if_neg (by rw [← hLz.at (show z < 4 by omega) (show mP 4 5 by unfold mP; omega)]; exact c193)
                            refine lv_iinc (v := nI (z + 1)) (lv' := [(15, .int (nI (z + 1))), (14, .int (nI ca)), (13, .int (nI fi)), (12, .int (nI pr)), (11, .int (nI wl)), (0, .ref x), (1, .int (nI 0)), (2, .int y), (3, .ref (ad 0)), (4, .ref (ad 1)), (5, .ref (ad 2)), (6, .ref (ad 3)), (7, .ref (ad 4)), (8, .ref (ad 5)), (9, .ref (ad 6)), (10, .ref (ad 7))]) hx hb dL_goes_216 hl (k := 0) rfl (nI_1 _) (by decide) rfl (fun ls hl => ?_)
                            refine lv_goto (tgt := 163) hx hb dL_goes_219 (by decide) ?_
                            exact ih (n1 - 1) (z + 1, Gz) _ _ _ _ _ _ (by omega) ⟨by omega, hG, hbz ▸ hLz, rfl, rfl⟩ hP hD hS (lv_sub hl [0, 1, 2, 3, 4, 5, 6, 7, 8, 9, 10, 11, 12, 13, 14, 15] rfl)
                          · obtain ⟨i1, i2, i3⟩ := hall z (by omega)
                            obtain ⟨fo, a, pn, w, C, tm, b1, b2, b3, b4, b5, b6, f1, f2, f3, f4, f5, f6, f7, hall9⟩ := buy_facts hLz i1 (i2.2.2.2.2 z (by omega)) htk hk (by omega) (by omega) (i3 z (Nat.le_refl z) (by omega))
                            refine lv_aload_n hx hb dL_goes_196 rfl (lv_at hl 8 rfl) ?_
                            refine lv_aload hx hb dL_goes_197 (lv_at hl 9 rfl) ?_
                            refine lv_aload hx hb dL_goes_199 (lv_at hl 10 rfl) ?_
                            refine lv_aload hx hb dL_goes_201 (lv_at hl 11 rfl) ?_
                            refine lv_aload hx hb dL_goes_203 (lv_at hl 12 rfl) ?_
                            refine lv_aload hx hb dL_goes_205 (lv_at hl 13 rfl) ?_
                            refine lv_aload hx hb dL_goes_207 (lv_at hl 14 rfl) ?_
                            refine lv_aload hx hb dL_goes_209 (lv_at hl 15 rfl) ?_
                            refine lv_iload hx hb dL_goes_211 (lv_at hl 0 rfl) ?_
                            refine sg_callv hD hS hA (va_runS (As := [.ref (ad 0), .ref (ad 1), .ref (ad 2), .ref (ad 3), .ref (ad 4), .ref (ad 5), .ref (ad 6), .ref (ad 7), .int (nI z)]) (rest := []) ⟨hx, hb, hml, hown, hts⟩ (c_L_buys l D Y _ _ ad Gz z k t fo a pn w C tm (sL (bAll M z) 8 z) (sS (bAll M z) 2) hG.self (by omega) hk htk b1 b2 b3 b4 b5 b6 hz0 hz2 f1 f2 f3 f4 f5 f6 (hLz.xat (by omega) (show xP 4 8 by unfold xP; omega)) hfz f7) (va_cwS 9 hts gL_goes_L_buys rfl rfl rfl (by decide +kernel) ⟨(Nat.le_of_ble_eq_true rfl), (Nat.le_of_ble_eq_true rfl)⟩) (sg_preS hK hP hD hN hX hS hA) rfl rfl hl.1 rfl (lv_room (Nat.le_of_ble_eq_true rfl)) dL_goes_213 ⟨(Nat.le_of_ble_eq_true rfl), (Nat.le_of_ble_eq_true rfl)⟩) (fun σ' H locs hw9 hP hD hS => ?_)
                            obtain ⟨nb, hm9, hG9⟩ := hw9
                            have hLb := hall9 nb hm9
                            have hG := hG.trans hG9
                            have hbz : bAll M (z + 1) = buyM (bAll M z) z := if_pos (by rw [← hLz.at (show z < 4 by omega) (show mP 4 5 by unfold mP; omega)]; exact c193)
                            rw [← hbz] at hLb
                            refine lv_iinc (v := nI (z + 1)) (lv' := [(15, .int (nI (z + 1))), (14, .int (nI ca)), (13, .int (nI fi)), (12, .int (nI pr)), (11, .int (nI wl)), (0, .ref x), (1, .int (nI 0)), (2, .int y), (3, .ref (ad 0)), (4, .ref (ad 1)), (5, .ref (ad 2)), (6, .ref (ad 3)), (7, .ref (ad 4)), (8, .ref (ad 5)), (9, .ref (ad 6)), (10, .ref (ad 7))]) hx hb dL_goes_216 hl (k := 0) rfl (nI_1 _) (by decide) rfl (fun ls hl => ?_)
                            refine lv_goto (tgt := 163) hx hb dL_goes_219 (by decide) ?_
                            exact ih (n1 - 1) (z + 1, _) _ _ _ _ _ _ (by omega) ⟨by omega, hG, hLb, rfl, rfl⟩ hP hD hS (lv_sub hl [0, 1, 2, 3, 4, 5, 6, 7, 8, 9, 10, 11, 12, 13, 14, 15] rfl)
                  · skip
                    refine lv_iload hx hb dL_goes_163 (lv_at hl 0 rfl) ?_
                    refine lv_aload_n hx hb dL_goes_165 rfl (lv_at hl 8 rfl) ?_
                    refine lv_iconst (v := nI 1) hx hb dL_goes_166 (by decide) ?_
                    refine lw_iald hx hb hK hP hG.a0 (k := 1) (by omega) (v := nI N) (e1) dL_goes_167 ?_
                    refine lw_icmp_ge (tgt := 222) (a := 0) (b := N) hx hb dL_goes_168 (by decide) (by omega) (by omega) (fun c168 => ?_) (fun c168 => ?_)
                    · skip
                      have hir : ¬ irem (sS M 0) 6 = 5 := irem_no hIV hpq
                      have hL2 := LR.next (v := nI pr) hL (by omega) hIV.1.2.2.2.2
                      have hL2 : LR (vI (vI G 1 t (nI pr)) 0 0 (nI (t + 1))) (nNext M (nI pr)) N (t + 1) := by unfold nNext; rw [if_neg hir]; exact hL2
                      refine lv_aload hx hb dL_goes_222 (lv_at hl 9 rfl) ?_
                      refine lv_aload_n hx hb dL_goes_224 rfl (lv_at hl 8 rfl) ?_
                      refine lv_iconst (v := nI 0) hx hb dL_goes_225 (by decide) ?_
                      refine lw_iald hx hb hK hP hG.a0 (k := 0) (by omega) (v := nI t) (e0) dL_goes_226 ?_
                      refine lv_iload hx hb dL_goes_227 (lv_at hl 3 rfl) ?_
                      refine lw_iast hx hb hK hP hD hS hG.a1 (k := t) (by omega) dL_goes_229 (fun H locs hP hD hS => ?_)
                      have hG := hG.u1 (k := t) (v := nI pr)
                      refine lv_aload_n hx hb dL_goes_230 rfl (lv_at hl 8 rfl) ?_
                      refine lv_iconst (v := nI 0) hx hb dL_goes_231 (by decide) ?_
                      refine lv_dup2_11 hx hb dL_goes_232 rfl rfl ?_
                      refine lw_iald hx hb hK hP hG.a0 (k := 0) (by omega) (v := nI t) (by rw [gI_vo (by decide)]; exact e0) dL_goes_233 ?_
                      refine lv_iconst (v := nI 1) hx hb dL_goes_234 (by decide) ?_
                      refine lw_iadd (a := t) (b := 1) hx hb dL_goes_235 ?_
                      refine lw_iast hx hb hK hP hD hS hG.a0 (k := 0) (by omega) dL_goes_236 (fun H locs hP hD hS => ?_)
                      have hG := hG.u0 (k := 0) (v := nI (t + 1))
                      refine lv_aload_n hx hb dL_goes_237 rfl (lv_at hl 5 rfl) ?_
                      refine lv_iload hx hb dL_goes_238 (lv_at hl 3 rfl) ?_
                      refine sg_xcalli hD hS hA (vx_runSX (As := [.ref x, .int (nI pr)]) (rest := []) ⟨hx, hb, hml, hown, hts⟩ (c_L_begun l hfl D Y _ _ x M N t c (nI pr) (hXX.far hG.2.2) hc) (vx_cwSW 2 hts gL_goes_L_begun rfl rfl rfl (by decide +kernel) ⟨(Nat.le_of_ble_eq_true rfl), (Nat.le_of_ble_eq_true rfl)⟩) (lh_preS hK hP hD hN hC hX hS hA) rfl rfl hl.1 rfl (lv_room (Nat.le_of_ble_eq_true rfl)) dL_goes_240 ⟨(Nat.le_of_ble_eq_true rfl), (Nat.le_of_ble_eq_true rfl)⟩) (fun E ce q9 H locs hpx hP hD hS hce hcv hcl => False.elim hpx) (fun r9 σ' H locs hw9 hP hD hS => ?_)
                      have hq9 : qIn (nI pr) 1 100000 := (qn (a := 1) (b := 100000) (by decide) (by decide) (by omega)).mpr ⟨by omega, by omega⟩
                      have hw9 := (hw9.resolve_left (fun z => z.1 hq9)).resolve_left (fun z => z.1.2 (by omega))
                      obtain ⟨-, rfl, hX9⟩ := hw9
                      have hG := hG.by hX9.ho
                      refine lv_iload hx hb dL_goes_243 (lv_at hl 2 rfl) ?_
                      refine lw_if_ne (tgt := 253) (a := fi) hx hb dL_goes_245 (by decide) (by omega) (fun c245 => ?_) (fun c245 => ?_)
                      · skip
                        refine lv_iload hx hb dL_goes_253 (lv_at hl 1 rfl) ?_
                        refine lw_if_eq (tgt := 266) (a := ca) hx hb dL_goes_255 (by decide) (by omega) (fun c255 => ?_) (fun c255 => ?_)
                        · exfalso; omega
                        · skip
                          refine lv_aload_n hx hb dL_goes_258 rfl (lv_at hl 8 rfl) ?_
                          refine lv_iconst (v := nI 0) hx hb dL_goes_259 (by decide) ?_
                          refine lw_iald hx hb hK hP hG.a0 (k := 0) (by omega) (v := nI (t + 1)) (gI_vs) dL_goes_260 ?_
                          refine lv_iconst (v := nI 1) hx hb dL_goes_261 (by decide) ?_
                          refine lw_isub (a := t + 1) (b := 1) hx hb dL_goes_262 (by omega) ?_
                          refine lv_goto (tgt := 268) hx hb dL_goes_263 (by decide) ?_
                          refine lw_icmp_ne (tgt := 275) (a := t) (b := (t + 1) - 1) hx hb dL_goes_268 (by decide) (by omega) (by omega) (fun c268 => ?_) (fun c268 => ?_)
                          · exfalso; omega
                          · skip
                            refine lv_iconst (v := nI 1) hx hb dL_goes_271 (by decide) ?_
                            refine lv_goto (tgt := 276) hx hb dL_goes_272 (by decide) ?_
                            exact sg_iret hx hb hr rfl hlocks hP hD hS (Nat.le_of_ble_eq_true rfl) (Nat.le_of_ble_eq_true rfl) dL_goes_276 (⟨rfl, LI.mk hX9.self hG hL2⟩)
                      · exfalso; omega
                    · skip
                      refine lv_aload_n hx hb dL_goes_171 rfl (lv_at hl 8 rfl) ?_
                      refine lv_iconst (v := nI 0) hx hb dL_goes_172 (by decide) ?_
                      refine lw_iald hx hb hK hP hG.a0 (k := 0) (by omega) (v := nI t) (e0) dL_goes_173 ?_
                      refine lv_bipush (v := nI 6) hx hb dL_goes_174 (by decide) ?_
                      refine lw_irem (a := t) (b := 6) hx hb dL_goes_176 (by omega) (by decide) (by decide) ?_
                      refine lw_if_ne (tgt := 222) (a := t % 6) hx hb dL_goes_177 (by decide) (by omega) (fun c177 => ?_) (fun c177 => ?_)
                      · skip
                        have hir : ¬ irem (sS M 0) 6 = 5 := irem_no hIV hpq
                        have hL2 := LR.next (v := nI pr) hL (by omega) hIV.1.2.2.2.2
                        have hL2 : LR (vI (vI G 1 t (nI pr)) 0 0 (nI (t + 1))) (nNext M (nI pr)) N (t + 1) := by unfold nNext; rw [if_neg hir]; exact hL2
                        refine lv_aload hx hb dL_goes_222 (lv_at hl 9 rfl) ?_
                        refine lv_aload_n hx hb dL_goes_224 rfl (lv_at hl 8 rfl) ?_
                        refine lv_iconst (v := nI 0) hx hb dL_goes_225 (by decide) ?_
                        refine lw_iald hx hb hK hP hG.a0 (k := 0) (by omega) (v := nI t) (e0) dL_goes_226 ?_
                        refine lv_iload hx hb dL_goes_227 (lv_at hl 3 rfl) ?_
                        refine lw_iast hx hb hK hP hD hS hG.a1 (k := t) (by omega) dL_goes_229 (fun H locs hP hD hS => ?_)
                        have hG := hG.u1 (k := t) (v := nI pr)
                        refine lv_aload_n hx hb dL_goes_230 rfl (lv_at hl 8 rfl) ?_
                        refine lv_iconst (v := nI 0) hx hb dL_goes_231 (by decide) ?_
                        refine lv_dup2_11 hx hb dL_goes_232 rfl rfl ?_
                        refine lw_iald hx hb hK hP hG.a0 (k := 0) (by omega) (v := nI t) (by rw [gI_vo (by decide)]; exact e0) dL_goes_233 ?_
                        refine lv_iconst (v := nI 1) hx hb dL_goes_234 (by decide) ?_
                        refine lw_iadd (a := t) (b := 1) hx hb dL_goes_235 ?_
                        refine lw_iast hx hb hK hP hD hS hG.a0 (k := 0) (by omega) dL_goes_236 (fun H locs hP hD hS => ?_)
                        have hG := hG.u0 (k := 0) (v := nI (t + 1))
                        refine lv_aload_n hx hb dL_goes_237 rfl (lv_at hl 5 rfl) ?_
                        refine lv_iload hx hb dL_goes_238 (lv_at hl 3 rfl) ?_
                        refine sg_xcalli hD hS hA (vx_runSX (As := [.ref x, .int (nI pr)]) (rest := []) ⟨hx, hb, hml, hown, hts⟩ (c_L_begun l hfl D Y _ _ x M N t c (nI pr) (hXX.far hG.2.2) hc) (vx_cwSW 2 hts gL_goes_L_begun rfl rfl rfl (by decide +kernel) ⟨(Nat.le_of_ble_eq_true rfl), (Nat.le_of_ble_eq_true rfl)⟩) (lh_preS hK hP hD hN hC hX hS hA) rfl rfl hl.1 rfl (lv_room (Nat.le_of_ble_eq_true rfl)) dL_goes_240 ⟨(Nat.le_of_ble_eq_true rfl), (Nat.le_of_ble_eq_true rfl)⟩) (fun E ce q9 H locs hpx hP hD hS hce hcv hcl => False.elim hpx) (fun r9 σ' H locs hw9 hP hD hS => ?_)
                        have hq9 : qIn (nI pr) 1 100000 := (qn (a := 1) (b := 100000) (by decide) (by decide) (by omega)).mpr ⟨by omega, by omega⟩
                        have hw9 := (hw9.resolve_left (fun z => z.1 hq9)).resolve_left (fun z => z.1.2 (by omega))
                        obtain ⟨-, rfl, hX9⟩ := hw9
                        have hG := hG.by hX9.ho
                        refine lv_iload hx hb dL_goes_243 (lv_at hl 2 rfl) ?_
                        refine lw_if_ne (tgt := 253) (a := fi) hx hb dL_goes_245 (by decide) (by omega) (fun c245 => ?_) (fun c245 => ?_)
                        · skip
                          refine lv_iload hx hb dL_goes_253 (lv_at hl 1 rfl) ?_
                          refine lw_if_eq (tgt := 266) (a := ca) hx hb dL_goes_255 (by decide) (by omega) (fun c255 => ?_) (fun c255 => ?_)
                          · exfalso; omega
                          · skip
                            refine lv_aload_n hx hb dL_goes_258 rfl (lv_at hl 8 rfl) ?_
                            refine lv_iconst (v := nI 0) hx hb dL_goes_259 (by decide) ?_
                            refine lw_iald hx hb hK hP hG.a0 (k := 0) (by omega) (v := nI (t + 1)) (gI_vs) dL_goes_260 ?_
                            refine lv_iconst (v := nI 1) hx hb dL_goes_261 (by decide) ?_
                            refine lw_isub (a := t + 1) (b := 1) hx hb dL_goes_262 (by omega) ?_
                            refine lv_goto (tgt := 268) hx hb dL_goes_263 (by decide) ?_
                            refine lw_icmp_ne (tgt := 275) (a := t) (b := (t + 1) - 1) hx hb dL_goes_268 (by decide) (by omega) (by omega) (fun c268 => ?_) (fun c268 => ?_)
                            · exfalso; omega
                            · skip
                              refine lv_iconst (v := nI 1) hx hb dL_goes_271 (by decide) ?_
                              refine lv_goto (tgt := 276) hx hb dL_goes_272 (by decide) ?_
                              exact sg_iret hx hb hr rfl hlocks hP hD hS (Nat.le_of_ble_eq_true rfl) (Nat.le_of_ble_eq_true rfl) dL_goes_276 (⟨rfl, LI.mk hX9.self hG hL2⟩)
                        · exfalso; omega
                      · skip
                        refine lv_aload_n hx hb dL_goes_180 rfl (lv_at hl 8 rfl) ?_
                        refine lv_iconst (v := nI 0) hx hb dL_goes_181 (by decide) ?_
                        refine lw_iald hx hb hK hP hG.a0 (k := 0) (by omega) (v := nI t) (e0) dL_goes_182 ?_
                        refine lw_if_le (tgt := 222) (a := t) hx hb dL_goes_183 (by decide) (by omega) (fun c183 => ?_) (fun c183 => ?_)
                        · skip
                          have hir : ¬ irem (sS M 0) 6 = 5 := irem_no hIV hpq
                          have hL2 := LR.next (v := nI pr) hL (by omega) hIV.1.2.2.2.2
                          have hL2 : LR (vI (vI G 1 t (nI pr)) 0 0 (nI (t + 1))) (nNext M (nI pr)) N (t + 1) := by unfold nNext; rw [if_neg hir]; exact hL2
                          refine lv_aload hx hb dL_goes_222 (lv_at hl 9 rfl) ?_
                          refine lv_aload_n hx hb dL_goes_224 rfl (lv_at hl 8 rfl) ?_
                          refine lv_iconst (v := nI 0) hx hb dL_goes_225 (by decide) ?_
                          refine lw_iald hx hb hK hP hG.a0 (k := 0) (by omega) (v := nI t) (e0) dL_goes_226 ?_
                          refine lv_iload hx hb dL_goes_227 (lv_at hl 3 rfl) ?_
                          refine lw_iast hx hb hK hP hD hS hG.a1 (k := t) (by omega) dL_goes_229 (fun H locs hP hD hS => ?_)
                          have hG := hG.u1 (k := t) (v := nI pr)
                          refine lv_aload_n hx hb dL_goes_230 rfl (lv_at hl 8 rfl) ?_
                          refine lv_iconst (v := nI 0) hx hb dL_goes_231 (by decide) ?_
                          refine lv_dup2_11 hx hb dL_goes_232 rfl rfl ?_
                          refine lw_iald hx hb hK hP hG.a0 (k := 0) (by omega) (v := nI t) (by rw [gI_vo (by decide)]; exact e0) dL_goes_233 ?_
                          refine lv_iconst (v := nI 1) hx hb dL_goes_234 (by decide) ?_
                          refine lw_iadd (a := t) (b := 1) hx hb dL_goes_235 ?_
                          refine lw_iast hx hb hK hP hD hS hG.a0 (k := 0) (by omega) dL_goes_236 (fun H locs hP hD hS => ?_)
                          have hG := hG.u0 (k := 0) (v := nI (t + 1))
                          refine lv_aload_n hx hb dL_goes_237 rfl (lv_at hl 5 rfl) ?_
                          refine lv_iload hx hb dL_goes_238 (lv_at hl 3 rfl) ?_
                          refine sg_xcalli hD hS hA (vx_runSX (As := [.ref x, .int (nI pr)]) (rest := []) ⟨hx, hb, hml, hown, hts⟩ (c_L_begun l hfl D Y _ _ x M N t c (nI pr) (hXX.far hG.2.2) hc) (vx_cwSW 2 hts gL_goes_L_begun rfl rfl rfl (by decide +kernel) ⟨(Nat.le_of_ble_eq_true rfl), (Nat.le_of_ble_eq_true rfl)⟩) (lh_preS hK hP hD hN hC hX hS hA) rfl rfl hl.1 rfl (lv_room (Nat.le_of_ble_eq_true rfl)) dL_goes_240 ⟨(Nat.le_of_ble_eq_true rfl), (Nat.le_of_ble_eq_true rfl)⟩) (fun E ce q9 H locs hpx hP hD hS hce hcv hcl => False.elim hpx) (fun r9 σ' H locs hw9 hP hD hS => ?_)
                          have hq9 : qIn (nI pr) 1 100000 := (qn (a := 1) (b := 100000) (by decide) (by decide) (by omega)).mpr ⟨by omega, by omega⟩
                          have hw9 := (hw9.resolve_left (fun z => z.1 hq9)).resolve_left (fun z => z.1.2 (by omega))
                          obtain ⟨-, rfl, hX9⟩ := hw9
                          have hG := hG.by hX9.ho
                          refine lv_iload hx hb dL_goes_243 (lv_at hl 2 rfl) ?_
                          refine lw_if_ne (tgt := 253) (a := fi) hx hb dL_goes_245 (by decide) (by omega) (fun c245 => ?_) (fun c245 => ?_)
                          · skip
                            refine lv_iload hx hb dL_goes_253 (lv_at hl 1 rfl) ?_
                            refine lw_if_eq (tgt := 266) (a := ca) hx hb dL_goes_255 (by decide) (by omega) (fun c255 => ?_) (fun c255 => ?_)
                            · exfalso; omega
                            · skip
                              refine lv_aload_n hx hb dL_goes_258 rfl (lv_at hl 8 rfl) ?_
                              refine lv_iconst (v := nI 0) hx hb dL_goes_259 (by decide) ?_
                              refine lw_iald hx hb hK hP hG.a0 (k := 0) (by omega) (v := nI (t + 1)) (gI_vs) dL_goes_260 ?_
                              refine lv_iconst (v := nI 1) hx hb dL_goes_261 (by decide) ?_
                              refine lw_isub (a := t + 1) (b := 1) hx hb dL_goes_262 (by omega) ?_
                              refine lv_goto (tgt := 268) hx hb dL_goes_263 (by decide) ?_
                              refine lw_icmp_ne (tgt := 275) (a := t) (b := (t + 1) - 1) hx hb dL_goes_268 (by decide) (by omega) (by omega) (fun c268 => ?_) (fun c268 => ?_)
                              · exfalso; omega
                              · skip
                                refine lv_iconst (v := nI 1) hx hb dL_goes_271 (by decide) ?_
                                refine lv_goto (tgt := 276) hx hb dL_goes_272 (by decide) ?_
                                exact sg_iret hx hb hr rfl hlocks hP hD hS (Nat.le_of_ble_eq_true rfl) (Nat.le_of_ble_eq_true rfl) dL_goes_276 (⟨rfl, LI.mk hX9.self hG hL2⟩)
                          · exfalso; omega
                        · exfalso; omega
            · skip
              refine lv_aload_n hx hb dL_goes_135 rfl (lv_at hl 6 rfl) ?_
              refine lv_iconst (v := nI 0) hx hb dL_goes_136 (by decide) ?_
              refine lw_iald hx hb hK hP hG.a0 (k := 0) (by omega) (v := nI t) (e0) dL_goes_137 ?_
              refine lv_bipush (v := nI 60) hx hb dL_goes_138 (by decide) ?_
              refine lw_icmp_ge (tgt := 147) (a := t) (b := 60) hx hb dL_goes_140 (by decide) (by omega) (by omega) (fun c140 => ?_) (fun c140 => ?_)
              · skip
                refine lv_iconst (v := nI 0) hx hb dL_goes_147 (by decide) ?_
                exact k148 _ _ _ _ (⟨0, by omega, rfl, rfl⟩) hP hD hS
              · skip
                refine lv_iconst (v := nI 1) hx hb dL_goes_143 (by decide) ?_
                refine lv_goto (tgt := 148) hx hb dL_goes_144 (by decide) ?_
                exact k148 _ _ _ _ (⟨1, by omega, rfl, rfl⟩) hP hD hS
          · skip
            refine lv_iload hx hb dL_goes_116 (lv_at hl 0 rfl) ?_
            refine lw_if_le (tgt := 132) (a := pr) hx hb dL_goes_118 (by decide) (by omega) (fun c118 => ?_) (fun c118 => ?_)
            · skip
              refine lv_iconst (v := nI 0) hx hb dL_goes_132 (by decide) ?_
              exact k133 _ _ _ _ (⟨0, by omega, rfl, rfl⟩) hP hD hS
            · skip
              refine lv_iload hx hb dL_goes_121 (lv_at hl 0 rfl) ?_
              refine lv_ldc (v := 100001) hx hb hown (hts (.constant RL 96 100001) (by decide +kernel)) dL_goes_123 ?_
              refine lw_nat (a := 100001) rfl ?_
              refine lw_icmp_ge (tgt := 132) (a := pr) (b := 100001) hx hb dL_goes_125 (by decide) (by omega) (by omega) (fun c125 => ?_) (fun c125 => ?_)
              · skip
                refine lv_iconst (v := nI 0) hx hb dL_goes_132 (by decide) ?_
                exact k133 _ _ _ _ (⟨0, by omega, rfl, rfl⟩) hP hD hS
              · skip
                refine lv_iconst (v := nI 1) hx hb dL_goes_128 (by decide) ?_
                refine lv_goto (tgt := 133) hx hb dL_goes_129 (by decide) ?_
                exact k133 _ _ _ _ (⟨1, by omega, rfl, rfl⟩) hP hD hS
        · skip
          refine lv_iload hx hb dL_goes_93 (lv_at hl 0 rfl) ?_
          refine lv_ldc (v := 100000) hx hb hown (hts (.constant RL 97 100000) (by decide +kernel)) dL_goes_95 ?_
          refine lw_nat (a := 100000) rfl ?_
          refine lw_icmp_le (tgt := 112) (a := p0) (b := 100000) hx hb dL_goes_97 (by decide) (by omega) (by omega) (fun c97 => ?_) (fun c97 => ?_)
          · skip
            refine lv_iload hx hb dL_goes_112 (lv_at hl 0 rfl) ?_
            exact k114 _ _ _ _ (⟨p0, by omega, rfl, rfl⟩) hP hD hS
          · skip
            refine lv_iload hx hb dL_goes_100 (lv_at hl 0 rfl) ?_
            refine lv_ldc (v := 100001) hx hb hown (hts (.constant RL 96 100001) (by decide +kernel)) dL_goes_102 ?_
            refine lw_nat (a := 100001) rfl ?_
            refine lw_icmp_eq (tgt := 112) (a := p0) (b := 100001) hx hb dL_goes_104 (by decide) (by omega) (by omega) (fun c104 => ?_) (fun c104 => ?_)
            · skip
              refine lv_iload hx hb dL_goes_112 (lv_at hl 0 rfl) ?_
              exact k114 _ _ _ _ (⟨p0, by omega, rfl, rfl⟩) hP hD hS
            · skip
              refine lv_ldc (v := 100000) hx hb hown (hts (.constant RL 97 100000) (by decide +kernel)) dL_goes_107 ?_
              refine lw_nat (a := 100000) rfl ?_
              refine lv_goto (tgt := 114) hx hb dL_goes_109 (by decide) ?_
              exact k114 _ _ _ _ (⟨100000, by omega, rfl, rfl⟩) hP hD hS
      · skip
        refine lv_iload_n hx hb dL_goes_26 rfl (lv_at hl 3 rfl) ?_
        refine lv_bipush (v := nI 50) hx hb dL_goes_27 (by decide) ?_
        refine sg_calli hD hS hA (va_runS (As := [.int y, .int (nI 50)]) (rest := []) ⟨hx, hb, hml, hown, hts⟩ (c_L_some l D Y _ _ y 50 (by omega) (by omega)) (va_cwS 2 hts gL_goes_L_some rfl rfl rfl (by decide +kernel) ⟨(Nat.le_of_ble_eq_true rfl), (Nat.le_of_ble_eq_true rfl)⟩) (sg_preS hK hP hD hN hX hS hA) rfl rfl hl.1 rfl (lv_room (Nat.le_of_ble_eq_true rfl)) dL_goes_29 ⟨(Nat.le_of_ble_eq_true rfl), (Nat.le_of_ble_eq_true rfl)⟩) (fun r9 σ' H locs hw9 hP hD hS => ?_)
        obtain ⟨w29, hw29, rfl, rfl⟩ := hw9
        refine lw_if_ne (tgt := 48) (a := w29) hx hb dL_goes_32 (by decide) (by omega) (fun c32 => ?_) (fun c32 => ?_)
        · skip
          refine lv_iload_n hx hb dL_goes_48 rfl (lv_at hl 3 rfl) ?_
          refine lv_iconst (v := nI 3) hx hb dL_goes_49 (by decide) ?_
          refine lv_ishr hx hb dL_goes_50 ?_
          refine lv_topi (fun v50 _ => ?_)
          refine lv_bipush (v := nI 12) hx hb dL_goes_51 (by decide) ?_
          refine sg_calli hD hS hA (va_runS (As := [.int v50, .int (nI 12)]) (rest := []) ⟨hx, hb, hml, hown, hts⟩ (c_L_some l D Y _ _ v50 12 (by omega) (by omega)) (va_cwS 2 hts gL_goes_L_some rfl rfl rfl (by decide +kernel) ⟨(Nat.le_of_ble_eq_true rfl), (Nat.le_of_ble_eq_true rfl)⟩) (sg_preS hK hP hD hN hX hS hA) rfl rfl hl.1 rfl (lv_room (Nat.le_of_ble_eq_true rfl)) dL_goes_53 ⟨(Nat.le_of_ble_eq_true rfl), (Nat.le_of_ble_eq_true rfl)⟩) (fun r9 σ' H locs hw9 hP hD hS => ?_)
          obtain ⟨w53, hw53, rfl, rfl⟩ := hw9
          refine lw_if_ne (tgt := 72) (a := w53) hx hb dL_goes_56 (by decide) (by omega) (fun c56 => ?_) (fun c56 => ?_)
          · skip
            refine lv_iload hx hb dL_goes_72 (lv_at hl 0 rfl) ?_
            refine lv_bipush (v := nI 70) hx hb dL_goes_74 (by decide) ?_
            refine lv_iload_n hx hb dL_goes_76 rfl (lv_at hl 3 rfl) ?_
            refine lv_iconst (v := nI 4) hx hb dL_goes_77 (by decide) ?_
            refine lv_ishr hx hb dL_goes_78 ?_
            refine lv_topi (fun v78 _ => ?_)
            refine lv_bipush (v := nI 70) hx hb dL_goes_79 (by decide) ?_
            refine sg_calli hD hS hA (va_runS (As := [.int v78, .int (nI 70)]) (rest := [.int (nI 70), .int (nI wl)]) ⟨hx, hb, hml, hown, hts⟩ (c_L_some l D Y _ _ v78 70 (by omega) (by omega)) (va_cwS 2 hts gL_goes_L_some rfl rfl rfl (by decide +kernel) ⟨(Nat.le_of_ble_eq_true rfl), (Nat.le_of_ble_eq_true rfl)⟩) (sg_preS hK hP hD hN hX hS hA) rfl rfl hl.1 rfl (lv_room (Nat.le_of_ble_eq_true rfl)) dL_goes_81 ⟨(Nat.le_of_ble_eq_true rfl), (Nat.le_of_ble_eq_true rfl)⟩) (fun r9 σ' H locs hw9 hP hD hS => ?_)
            obtain ⟨w81, hw81, rfl, rfl⟩ := hw9
            refine lw_iadd (a := 70) (b := w81) hx hb dL_goes_84 ?_
            refine lw_imul (a := wl) (b := 70 + w81) hx hb dL_goes_85 ?_
            have hb9 : wl * (70 + w81) ≤ 100000 * 139 := Nat.mul_le_mul hwl (by omega)
            refine lv_bipush (v := nI 100) hx hb dL_goes_86 (by decide) ?_
            refine lw_idiv (a := wl * (70 + w81)) (b := 100) hx hb dL_goes_88 (by omega) (by decide) (by decide) ?_
            refine lv_iconst (v := nI 1) hx hb dL_goes_89 (by decide) ?_
            refine lw_iadd (a := (wl * (70 + w81)) / 100) (b := 1) hx hb dL_goes_90 ?_
            exact k91 _ _ _ _ (⟨((wl * (70 + w81)) / 100) + 1, by omega, rfl, rfl⟩) hP hD hS
          · skip
            refine lv_iconst (v := nI 1) hx hb dL_goes_59 (by decide) ?_
            refine lv_iload_n hx hb dL_goes_60 rfl (lv_at hl 3 rfl) ?_
            refine lv_iconst (v := nI 5) hx hb dL_goes_61 (by decide) ?_
            refine lv_ishr hx hb dL_goes_62 ?_
            refine lv_topi (fun v62 _ => ?_)
            refine lv_bipush (v := nI 100) hx hb dL_goes_63 (by decide) ?_
            refine sg_calli hD hS hA (va_runS (As := [.int v62, .int (nI 100)]) (rest := [.int (nI 1)]) ⟨hx, hb, hml, hown, hts⟩ (c_L_some l D Y _ _ v62 100 (by omega) (by omega)) (va_cwS 2 hts gL_goes_L_some rfl rfl rfl (by decide +kernel) ⟨(Nat.le_of_ble_eq_true rfl), (Nat.le_of_ble_eq_true rfl)⟩) (sg_preS hK hP hD hN hX hS hA) rfl rfl hl.1 rfl (lv_room (Nat.le_of_ble_eq_true rfl)) dL_goes_65 ⟨(Nat.le_of_ble_eq_true rfl), (Nat.le_of_ble_eq_true rfl)⟩) (fun r9 σ' H locs hw9 hP hD hS => ?_)
            obtain ⟨w65, hw65, rfl, rfl⟩ := hw9
            refine lw_iadd (a := 1) (b := w65) hx hb dL_goes_68 ?_
            refine lv_goto (tgt := 91) hx hb dL_goes_69 (by decide) ?_
            exact k91 _ _ _ _ (⟨1 + w65, by omega, rfl, rfl⟩) hP hD hS
        · skip
          refine lv_ldc (v := 100001) hx hb hown (hts (.constant RL 96 100001) (by decide +kernel)) dL_goes_35 ?_
          refine lw_nat (a := 100001) rfl ?_
          refine lv_iload_n hx hb dL_goes_37 rfl (lv_at hl 3 rfl) ?_
          refine lv_iconst (v := nI 3) hx hb dL_goes_38 (by decide) ?_
          refine lv_ishr hx hb dL_goes_39 ?_
          refine lv_topi (fun v39 _ => ?_)
          refine lv_iconst (v := nI 2) hx hb dL_goes_40 (by decide) ?_
          refine sg_calli hD hS hA (va_runS (As := [.int v39, .int (nI 2)]) (rest := [.int (nI 100001)]) ⟨hx, hb, hml, hown, hts⟩ (c_L_some l D Y _ _ v39 2 (by omega) (by omega)) (va_cwS 2 hts gL_goes_L_some rfl rfl rfl (by decide +kernel) ⟨(Nat.le_of_ble_eq_true rfl), (Nat.le_of_ble_eq_true rfl)⟩) (sg_preS hK hP hD hN hX hS hA) rfl rfl hl.1 rfl (lv_room (Nat.le_of_ble_eq_true rfl)) dL_goes_41 ⟨(Nat.le_of_ble_eq_true rfl), (Nat.le_of_ble_eq_true rfl)⟩) (fun r9 σ' H locs hw9 hP hD hS => ?_)
          obtain ⟨w41, hw41, rfl, rfl⟩ := hw9
          refine lw_imul (a := 100001) (b := w41) hx hb dL_goes_44 ?_
          refine lv_goto (tgt := 91) hx hb dL_goes_45 (by decide) ?_
          exact k91 _ _ _ _ (⟨100001 * w41, by omega, rfl, rfl⟩) hP hD hS
    · skip
      refine lv_aload_n hx hb dL_goes_4 rfl (lv_at hl 3 rfl) ?_
      refine lv_iconst (v := nI 0) hx hb dL_goes_5 (by decide) ?_
      refine lw_iald hx hb hK hP hG.a0 (k := 0) (by omega) (v := nI t) (e0) dL_goes_6 ?_
      refine lw_if_le (tgt := 21) (a := t) hx hb dL_goes_7 (by decide) (by omega) (fun c7 => ?_) (fun c7 => ?_)
      · skip
        refine lv_sipush (v := nI 1000) hx hb dL_goes_21 (by decide) ?_
        exact k24 _ _ _ _ (⟨1000, by omega, rfl, rfl⟩) hP hD hS
      · obtain ⟨wq, hwq1, hwq2, hwq⟩ := hIV.2.1 (t - 1) (by omega)
        have ewq : gI G 1 (t - 1) = nI wq := (eP (t - 1) (by omega)).trans hwq
        refine lv_aload hx hb dL_goes_10 (lv_at hl 4 rfl) ?_
        refine lv_aload_n hx hb dL_goes_12 rfl (lv_at hl 3 rfl) ?_
        refine lv_iconst (v := nI 0) hx hb dL_goes_13 (by decide) ?_
        refine lw_iald hx hb hK hP hG.a0 (k := 0) (by omega) (v := nI t) (e0) dL_goes_14 ?_
        refine lv_iconst (v := nI 1) hx hb dL_goes_15 (by decide) ?_
        refine lw_isub (a := t) (b := 1) hx hb dL_goes_16 (by omega) ?_
        refine lw_iald hx hb hK hP hG.a1 (k := t - 1) (by omega) (v := nI wq) (ewq) dL_goes_17 ?_
        refine lv_goto (tgt := 24) hx hb dL_goes_18 (by decide) ?_
        exact k24 _ _ _ _ (⟨wq, by omega, rfl, rfl⟩) hP hD hS
