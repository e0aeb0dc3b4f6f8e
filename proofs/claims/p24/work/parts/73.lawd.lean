set_option maxHeartbeats 4000000 in
set_option maxRecDepth 100000 in
theorem c_L_buys (l : Launch) (D : va_G) (Y : Nat → ClassId) (σ : sg_W) (sz : Nat) (ad : Nat → Nat) (G : ZG) (j k t fo a pn w C tm : Nat) (S : Int64) (ce : Int32) (hG : ZF Y ad σ G σ) (hj : j < 4) (hk : k < 10) (ht : t = 6 * k + 6) (hfo : fo < 60) (ha : 1 ≤ a ∧ a ≤ 100000) (hp9 : 1 ≤ pn ∧ pn ≤ 100000) (hw : w < 2 ^ 31) (hC : C < 2 ^ 50) (htm : tm ≤ 3) (e0 : gI G 0 0 = nI t) (e2 : gI G 0 2 = ce) (ef : gI G 2 (12 + j) = nI fo) (ea : gI G 1 fo = nI a) (ep : gI G 1 (t - 1) = nI pn) (ew : gI G 2 (8 + j) = nI w) (eb : gI G 3 (10 * j + k) = nI 0) (et : gI G 2 (16 + j) = nI tm) (es : gX G (4 + j) = S) (hf : frng G) (hc : cntL (vI G 6 (10 * j + k) (nI fo)) j (k / 2) 10 = lN C) : Met l yL_buys wsL_buys ({ frames := 1, cells := 0, slots := 0, locals := 27 } : Room) (va_Pc [.ref (ad 0), .ref (ad 1), .ref (ad 2), .ref (ad 3), .ref (ad 4), .ref (ad 5), .ref (ad 6), .ref (ad 7), .int (nI j)] (sg_U D Y σ sz)) (va_Qv (fun σ' => ∃ n : Nat, most n w ((85 * (if a < pn then a else pn) + 99) / 100) a C ce ∧ ZF Y ad σ (gE G (10 * j + k) j fo w ((85 * (if a < pn then a else pn) + 99) / 100) tm t a pn S n) σ') (sg_B D σ sz) (sg_A σ sz)) 0 0 (sg_A σ sz) := by
  refine sg_met (cc := cL_buys) (maxL := 16) (ret := none) (by decide) rfl (Nat.le_of_ble_eq_true rfl) ?_
  intro p e s m below meth cd9 ls hx hb hml hr hown hts hlocks hnm hP hK hD hN hX hA hS hsz hl
  have hl : lv_has ls 16 [(0, .ref (ad 0)), (1, .ref (ad 1)), (2, .ref (ad 2)), (3, .ref (ad 3)), (4, .ref (ad 4)), (5, .ref (ad 5)), (6, .ref (ad 6)), (7, .ref (ad 7)), (8, .int (nI j))] := hl
  obtain ⟨zmn, hmn⟩ : ∃ zmn : Nat, zmn = (if a < pn then a else pn) := ⟨_, rfl⟩
  rw [← hmn]
  have hmb : 1 ≤ zmn ∧ zmn ≤ 100000 := by rw [hmn]; split <;> omega
  obtain ⟨zE, hE⟩ : ∃ zE : Nat, zE = (85 * zmn + 99) / 100 := ⟨_, rfl⟩
  rw [← hE]
  have hEb : 1 ≤ zE ∧ zE ≤ 100000 := by omega
  refine lv_aload_n hx hb dL_buys_0 rfl (lv_at hl 0 rfl) ?_
  refine lv_iconst (v := nI 0) hx hb dL_buys_1 (by decide) ?_
  refine lw_iald hx hb hK hP hG.a0 (k := 0) (by omega) (v := nI t) (e0) dL_buys_2 ?_
  refine lv_iconst (v := nI 1) hx hb dL_buys_3 (by decide) ?_
  refine lw_isub (a := t) (b := 1) hx hb dL_buys_4 (by omega) ?_
  refine lv_istore (lv' := [(9, .int (nI (t - 1))), (0, .ref (ad 0)), (1, .ref (ad 1)), (2, .ref (ad 2)), (3, .ref (ad 3)), (4, .ref (ad 4)), (5, .ref (ad 5)), (6, .ref (ad 6)), (7, .ref (ad 7)), (8, .int (nI j))]) hx hb dL_buys_5 hl (by decide) rfl (fun ls hl => ?_)
  refine lv_aload_n hx hb dL_buys_7 rfl (lv_at hl 2 rfl) ?_
  refine lv_aload_n hx hb dL_buys_8 rfl (lv_at hl 3 rfl) ?_
  refine lv_bipush (v := nI 12) hx hb dL_buys_9 (by decide) ?_
  refine lv_iload hx hb dL_buys_11 (lv_at hl 9 rfl) ?_
  refine lw_iadd (a := 12) (b := j) hx hb dL_buys_13 ?_
  refine lw_iald hx hb hK hP hG.a2 (k := 12 + j) (by omega) (v := nI fo) (ef) dL_buys_14 ?_
  refine lw_iald hx hb hK hP hG.a1 (k := fo) (by omega) (v := nI a) (ea) dL_buys_15 ?_
  refine lv_istore (lv' := [(10, .int (nI a)), (9, .int (nI (t - 1))), (0, .ref (ad 0)), (1, .ref (ad 1)), (2, .ref (ad 2)), (3, .ref (ad 3)), (4, .ref (ad 4)), (5, .ref (ad 5)), (6, .ref (ad 6)), (7, .ref (ad 7)), (8, .int (nI j))]) hx hb dL_buys_16 hl (by decide) rfl (fun ls hl => ?_)
  refine lv_iconst (v := nI 1) hx hb dL_buys_18 (by decide) ?_
  refine lv_istore (lv' := [(11, .int (nI 1)), (10, .int (nI a)), (9, .int (nI (t - 1))), (0, .ref (ad 0)), (1, .ref (ad 1)), (2, .ref (ad 2)), (3, .ref (ad 3)), (4, .ref (ad 4)), (5, .ref (ad 5)), (6, .ref (ad 6)), (7, .ref (ad 7)), (8, .int (nI j))]) hx hb dL_buys_19 hl (by decide) rfl (fun ls hl => ?_)
  refine sg_loop (D := D) (H0 := s.heap) (T := Nat) 21 16 (fun n1 zz σ' c' s' => n1 + zz = 100000 ∧ 1 ≤ zz ∧ (zz = 1 ∨ 100 * (zz - 1) < 85 * zmn) ∧ σ = σ' ∧ c' = 0 ∧ s' = 0) (fun zz => [(11, .int (nI zz)), (10, .int (nI a)), (9, .int (nI (t - 1))), (0, .ref (ad 0)), (1, .ref (ad 1)), (2, .ref (ad 2)), (3, .ref (ad 3)), (4, .ref (ad 4)), (5, .ref (ad 5)), (6, .ref (ad 6)), (7, .ref (ad 7)), (8, .int (nI j))]) ?_ (99999) (1) _ _ _ _ _ _ (⟨rfl, Nat.le_refl 1, Or.inl rfl, rfl, rfl, rfl⟩) hP hD hS (lv_sub hl [0, 1, 2, 3, 4, 5, 6, 7, 8, 9, 10, 11] rfl)
  intro n1 zz σ' cells slots H locs ls ih hI hP hD hS hl
  obtain ⟨hn, hz1, hz2, rfl, rfl, rfl⟩ := hI
  have hl : lv_has ls 16 [(11, .int (nI zz)), (10, .int (nI a)), (9, .int (nI (t - 1))), (0, .ref (ad 0)), (1, .ref (ad 1)), (2, .ref (ad 2)), (3, .ref (ad 3)), (4, .ref (ad 4)), (5, .ref (ad 5)), (6, .ref (ad 6)), (7, .ref (ad 7)), (8, .int (nI j))] := hl
  refine lv_bipush (v := nI 100) hx hb dL_buys_21 (by decide) ?_
  refine lv_iload hx hb dL_buys_23 (lv_at hl 0 rfl) ?_
  refine lw_imul (a := 100) (b := zz) hx hb dL_buys_25 ?_
  refine lv_bipush (v := nI 85) hx hb dL_buys_26 (by decide) ?_
  refine sg_cutwi (D := D) hS (j := 46) (ls := ls) (rest := [.int (nI 85), .int (nI (100 * zz))]) (0) (0) (fun x9 σ' => x9 = nI zmn ∧ σ = σ') (fun x9 σ' H locs hj9 hP hD hS => ?_) (fun k46 => ?_)
  · obtain ⟨rfl, rfl⟩ := hj9
    refine lw_imul (a := 85) (b := zmn) hx hb dL_buys_46 ?_
    refine lw_icmp_ge (tgt := 56) (a := 100 * zz) (b := 85 * zmn) hx hb dL_buys_47 (by decide) (by omega) (by omega) (fun c47 => ?_) (fun c47 => ?_)
    · skip
      obtain rfl : zE = zz := by omega
      refine lv_bipush (v := nI 10) hx hb dL_buys_56 (by decide) ?_
      refine lv_iload hx hb dL_buys_58 (lv_at hl 11 rfl) ?_
      refine lw_imul (a := 10) (b := j) hx hb dL_buys_60 ?_
      refine lv_iload hx hb dL_buys_61 (lv_at hl 2 rfl) ?_
      refine lv_bipush (v := nI 6) hx hb dL_buys_63 (by decide) ?_
      refine lw_idiv (a := t - 1) (b := 6) hx hb dL_buys_65 (by omega) (by decide) (by decide) ?_
      refine lw_iadd (a := 10 * j) (b := (t - 1) / 6) hx hb dL_buys_66 ?_
      refine lw_nat (a := 10 * j + k) (by rw [show (t - 1) / 6 = k by omega]) ?_
      refine lv_istore (lv' := [(12, .int (nI (10 * j + k))), (11, .int (nI zE)), (10, .int (nI a)), (9, .int (nI (t - 1))), (0, .ref (ad 0)), (1, .ref (ad 1)), (2, .ref (ad 2)), (3, .ref (ad 3)), (4, .ref (ad 4)), (5, .ref (ad 5)), (6, .ref (ad 6)), (7, .ref (ad 7)), (8, .int (nI j))]) hx hb dL_buys_67 hl (by decide) rfl (fun ls hl => ?_)
      refine lv_aload hx hb dL_buys_69 (lv_at hl 10 rfl) ?_
      refine lv_iload hx hb dL_buys_71 (lv_at hl 0 rfl) ?_
      refine lv_aload_n hx hb dL_buys_73 rfl (lv_at hl 6 rfl) ?_
      refine lv_bipush (v := nI 12) hx hb dL_buys_74 (by decide) ?_
      refine lv_iload hx hb dL_buys_76 (lv_at hl 12 rfl) ?_
      refine lw_iadd (a := 12) (b := j) hx hb dL_buys_78 ?_
      refine lw_iald hx hb hK hP hG.a2 (k := 12 + j) (by omega) (v := nI fo) (ef) dL_buys_79 ?_
      refine lw_iast hx hb hK hP hD hS hG.a6 (k := 10 * j + k) (by omega) dL_buys_80 (fun H locs hP hD hS => ?_)
      have hG := hG.u6 (k := 10 * j + k) (v := nI fo)
      obtain ⟨zG1, hG1⟩ : ∃ zG1 : ZG, zG1 = vI G 6 (10 * j + k) (nI fo) := ⟨_, rfl⟩
      rw [← hG1] at hG hc
      have e0 : gI zG1 0 0 = nI t := by rw [hG1, gI_vo (by decide)]; exact e0
      have e2 : gI zG1 0 2 = ce := by rw [hG1, gI_vo (by decide)]; exact e2
      have ep : gI zG1 1 (t - 1) = nI pn := by rw [hG1, gI_vo (by decide)]; exact ep
      have ew : gI zG1 2 (8 + j) = nI w := by rw [hG1, gI_vo (by decide)]; exact ew
      have eb : gI zG1 3 (10 * j + k) = nI 0 := by rw [hG1, gI_vo (by decide)]; exact eb
      have et : gI zG1 2 (16 + j) = nI tm := by rw [hG1, gI_vo (by decide)]; exact et
      have es : gX zG1 (4 + j) = S := by rw [hG1, gX_vI]; exact es
      have hf1 : frng zG1 := fun q hq => by
        by_cases h9 : q = 10 * j + k
        · exact ⟨fo, hfo, by rw [hG1, h9, gI_vs]⟩
        · obtain ⟨o9, h1, h2⟩ := hf q hq
          exact ⟨o9, h1, by rw [hG1, gI_vn h9]; exact h2⟩
      refine lv_aload_n hx hb dL_buys_81 rfl (lv_at hl 5 rfl) ?_
      refine lv_aload_n hx hb dL_buys_82 rfl (lv_at hl 7 rfl) ?_
      refine lv_aload hx hb dL_buys_83 (lv_at hl 10 rfl) ?_
      refine lv_iload hx hb dL_buys_85 (lv_at hl 12 rfl) ?_
      refine lv_iload hx hb dL_buys_87 (lv_at hl 3 rfl) ?_
      refine lv_bipush (v := nI 12) hx hb dL_buys_89 (by decide) ?_
      refine lw_idiv (a := t - 1) (b := 12) hx hb dL_buys_91 (by omega) (by decide) (by decide) ?_
      refine sg_calll hD hS hA (va_runS (As := [.ref (ad 1), .ref (ad 3), .ref (ad 6), .int (nI j), .int (nI ((t - 1) / 12))]) (rest := []) ⟨hx, hb, hml, hown, hts⟩ (c_L_counted l D Y _ _ ad zG1 j ((t - 1) / 12) hj (by omega) hG.self hf1) (va_cwS 5 hts gL_buys_L_counted rfl rfl rfl (by decide +kernel) ⟨(Nat.le_of_ble_eq_true rfl), (Nat.le_of_ble_eq_true rfl)⟩) (sg_preS hK hP hD hN hX hS hA) rfl rfl hl.1 rfl (lv_room (Nat.le_of_ble_eq_true rfl)) dL_buys_92 ⟨(Nat.le_of_ble_eq_true rfl), (Nat.le_of_ble_eq_true rfl)⟩) (fun r9 σ' H locs hw9 hP hD hS => ?_)
      obtain ⟨e9, rfl⟩ := hw9
      refine lw_long (y := lN (C + 0 * a)) (by rw [e9, show (t - 1) / 12 = k / 2 by omega, Nat.zero_mul, Nat.add_zero]; exact hc) ?_
      refine lv_lstore (lv' := [(13, .long (lN (C + 0 * a))), (12, .int (nI (10 * j + k))), (11, .int (nI zE)), (10, .int (nI a)), (9, .int (nI (t - 1))), (0, .ref (ad 0)), (1, .ref (ad 1)), (2, .ref (ad 2)), (3, .ref (ad 3)), (4, .ref (ad 4)), (5, .ref (ad 5)), (6, .ref (ad 6)), (7, .ref (ad 7)), (8, .int (nI j))]) hx hb dL_buys_95 hl (by decide) rfl (fun ls hl => ?_)
      refine lv_ldc (v := 1000000) hx hb hown (hts (.constant RL 15 1000000) (by decide +kernel)) dL_buys_97 ?_
      refine lw_nat (a := 1000000) rfl ?_
      refine lv_istore (lv' := [(15, .int (nI 1000000)), (13, .long (lN (C + 0 * a))), (12, .int (nI (10 * j + k))), (11, .int (nI zE)), (10, .int (nI a)), (9, .int (nI (t - 1))), (0, .ref (ad 0)), (1, .ref (ad 1)), (2, .ref (ad 2)), (3, .ref (ad 3)), (4, .ref (ad 4)), (5, .ref (ad 5)), (6, .ref (ad 6)), (7, .ref (ad 7)), (8, .int (nI j))]) hx hb dL_buys_99 hl (by decide) rfl (fun ls hl => ?_)
      rw [← gB_0 (E := zE) ew eb es] at hG
      refine sg_loop (D := D) (H0 := s.heap) (T := Nat × Nat) 101 16 (fun n1 t9 σ' c' s' => n1 = t9.1 ∧ ten t9.1 ∧ (t9.2 * zE ≤ w ∧ (t9.2 = 0 ∨ ((C + t9.2 * a : Nat) : Int) ≤ ce.toInt)) ∧ (t9.1 = 0 → ¬ ((t9.2 + 1) * zE ≤ w ∧ ((C + (t9.2 + 1) * a : Nat) : Int) ≤ ce.toInt)) ∧ ZF Y ad σ (gB zG1 (10 * j + k) j w zE S t9.2) σ' ∧ c' = 0 ∧ s' = 0) (fun t9 => [(15, .int (nI t9.1)), (13, .long (lN (C + t9.2 * a))), (12, .int (nI (10 * j + k))), (11, .int (nI zE)), (10, .int (nI a)), (9, .int (nI (t - 1))), (0, .ref (ad 0)), (1, .ref (ad 1)), (2, .ref (ad 2)), (3, .ref (ad 3)), (4, .ref (ad 4)), (5, .ref (ad 5)), (6, .ref (ad 6)), (7, .ref (ad 7)), (8, .int (nI j))]) ?_ (1000000) ((1000000, 0)) _ _ _ _ _ _ (⟨rfl, Or.inl rfl, ⟨by rw [Nat.zero_mul]; exact Nat.zero_le _, Or.inl rfl⟩, fun q => absurd q (by decide), hG, rfl, rfl⟩) hP hD hS (lv_sub hl [0, 1, 2, 3, 4, 5, 6, 7, 8, 9, 10, 11, 12, 13, 14] rfl)
      intro n1O t9 σ' cells slots H locs ls ihO hI hP hD hS hl
      obtain ⟨zst, n⟩ := t9
      obtain ⟨hn0, hten, ⟨hn1, hn2⟩, hmax, hG, rfl, rfl⟩ := hI
      dsimp only at hn0 hten hn1 hn2 hmax hG
      have hst0 : zst ≤ 1000000 := by unfold ten at hten; omega
      have hl : lv_has ls 16 [(15, .int (nI zst)), (13, .long (lN (C + n * a))), (12, .int (nI (10 * j + k))), (11, .int (nI zE)), (10, .int (nI a)), (9, .int (nI (t - 1))), (0, .ref (ad 0)), (1, .ref (ad 1)), (2, .ref (ad 2)), (3, .ref (ad 3)), (4, .ref (ad 4)), (5, .ref (ad 5)), (6, .ref (ad 6)), (7, .ref (ad 7)), (8, .int (nI j))] := hl
      refine lv_iload hx hb dL_buys_101 (lv_at hl 0 rfl) ?_
      refine lw_if_le (tgt := 209) (a := zst) hx hb dL_buys_103 (by decide) (by omega) (fun c103 => ?_) (fun c103 => ?_)
      · subst c103
        have hm9 : most n w zE a C ce := ⟨hn1, hn2, hmax rfl⟩
        refine lv_aload hx hb dL_buys_209 (lv_at hl 10 rfl) ?_
        refine lv_iload hx hb dL_buys_211 (lv_at hl 2 rfl) ?_
        refine lv_aload_n hx hb dL_buys_213 rfl (lv_at hl 9 rfl) ?_
        refine lv_iload hx hb dL_buys_214 (lv_at hl 2 rfl) ?_
        refine lw_iald hx hb hK hP hG.a3 (k := 10 * j + k) (by omega) (v := nI n) (gB_b) dL_buys_216 ?_
        refine lw_iast hx hb hK hP hD hS hG.a4 (k := 10 * j + k) (by omega) dL_buys_217 (fun H locs hP hD hS => ?_)
        have hG := hG.u4 (k := 10 * j + k) (v := nI n)
        refine lv_aload hx hb dL_buys_218 (lv_at hl 11 rfl) ?_
        refine lv_iload hx hb dL_buys_220 (lv_at hl 2 rfl) ?_
        refine lv_iload hx hb dL_buys_222 (lv_at hl 3 rfl) ?_
        refine lw_iast hx hb hK hP hD hS hG.a5 (k := 10 * j + k) (by omega) dL_buys_224 (fun H locs hP hD hS => ?_)
        have hG := hG.u5 (k := 10 * j + k) (v := nI zE)
        refine lv_aload_n hx hb dL_buys_225 rfl (lv_at hl 8 rfl) ?_
        refine lv_bipush (v := nI 16) hx hb dL_buys_226 (by decide) ?_
        refine lv_iload hx hb dL_buys_228 (lv_at hl 14 rfl) ?_
        refine lw_iadd (a := 16) (b := j) hx hb dL_buys_230 ?_
        refine lv_dup2_11 hx hb dL_buys_231 rfl rfl ?_
        refine lw_iald hx hb hK hP hG.a2 (k := 16 + j) (by omega) (v := nI tm) (by rw [gI_vo (by decide), gI_vo (by decide), gB_2 (by omega)]; exact et) dL_buys_232 ?_
        refine lv_iconst (v := nI 1) hx hb dL_buys_233 (by decide) ?_
        refine lw_iadd (a := tm) (b := 1) hx hb dL_buys_234 ?_
        refine lw_iast hx hb hK hP hD hS hG.a2 (k := 16 + j) (by omega) dL_buys_235 (fun H locs hP hD hS => ?_)
        have hG := hG.u2 (k := 16 + j) (v := nI (tm + 1))
        subst hG1
        have hG : ZF Y ad σ (gS G (10 * j + k) j fo w zE tm S n) _ := hG
        refine lv_aload_n hx hb dL_buys_236 rfl (lv_at hl 7 rfl) ?_
        refine lv_iload hx hb dL_buys_237 (lv_at hl 5 rfl) ?_
        refine lw_iald hx hb hK hP hG.a1 (k := t - 1) (by omega) (v := nI pn) (by rw [gS, gI_vo (by decide), gI_vo (by decide), gI_vo (by decide), gB_o (by decide) (by decide)]; exact ep) dL_buys_239 ?_
        refine lv_iload hx hb dL_buys_240 (lv_at hl 4 rfl) ?_
        refine lw_icmp_ge (tgt := 249) (a := pn) (b := a) hx hb dL_buys_242 (by decide) (by omega) (by omega) (fun c242 => ?_) (fun c242 => ?_)
        · have c242 : ¬ pn < a := by omega
          refine lv_iconst (v := nI 0) hx hb dL_buys_249 (by decide) ?_
          refine lv_istore (lv' := [(15, .int (nI 0)), (13, .long (lN (C + n * a))), (12, .int (nI (10 * j + k))), (11, .int (nI zE)), (10, .int (nI a)), (9, .int (nI (t - 1))), (0, .ref (ad 0)), (1, .ref (ad 1)), (2, .ref (ad 2)), (3, .ref (ad 3)), (4, .ref (ad 4)), (5, .ref (ad 5)), (6, .ref (ad 6)), (7, .ref (ad 7)), (8, .int (nI j))]) hx hb dL_buys_250 hl (by decide) rfl (fun ls hl => ?_)
          refine lv_iload hx hb dL_buys_252 (lv_at hl 0 rfl) ?_
          refine lw_if_ne (tgt := 268) (a := 0) hx hb dL_buys_254 (by decide) (by omega) (fun c254 => ?_) (fun c254 => ?_)
          · exfalso; omega
          · skip
            refine lv_aload_n hx hb dL_buys_257 rfl (lv_at hl 8 rfl) ?_
            refine lv_bipush (v := nI 16) hx hb dL_buys_258 (by decide) ?_
            refine lv_iload hx hb dL_buys_260 (lv_at hl 14 rfl) ?_
            refine lw_iadd (a := 16) (b := j) hx hb dL_buys_262 ?_
            refine lw_iald hx hb hK hP hG.a2 (k := 16 + j) (by omega) (v := nI (tm + 1)) (by rw [gS, gI_vs]) dL_buys_263 ?_
            refine lv_iconst (v := nI 3) hx hb dL_buys_264 (by decide) ?_
            refine lw_icmp_le (tgt := 305) (a := tm + 1) (b := 3) hx hb dL_buys_265 (by decide) (by omega) (by omega) (fun c265 => ?_) (fun c265 => ?_)
            · skip
              exact sg_vret hx hb hr hlocks hP hD hS (Nat.le_of_ble_eq_true rfl) (Nat.le_of_ble_eq_true rfl) dL_buys_305 (⟨n, hm9, hG.to (by rw [gE, if_neg (by omega)])⟩)
            · skip
              refine lv_aload_n hx hb dL_buys_268 rfl (lv_at hl 8 rfl) ?_
              refine lv_bipush (v := nI 20) hx hb dL_buys_269 (by decide) ?_
              refine lv_iload hx hb dL_buys_271 (lv_at hl 14 rfl) ?_
              refine lw_iadd (a := 20) (b := j) hx hb dL_buys_273 ?_
              refine lv_dup2_11 hx hb dL_buys_274 rfl rfl ?_
              refine lw_iald hx hb hK hP hG.a2 (k := 20 + j) (by omega) (v := gI G 2 (20 + j)) (gS_20) dL_buys_275 ?_
              refine lv_iload hx hb dL_buys_276 (lv_at hl 0 rfl) ?_
              refine lw_if_eq (tgt := 285) (a := 0) hx hb dL_buys_278 (by decide) (by omega) (fun c278 => ?_) (fun c278 => ?_)
              · skip
                refine lv_iconst (v := nI 0) hx hb dL_buys_285 (by decide) ?_
                refine lv_iadd hx hb dL_buys_286 ?_
                refine lw_iast hx hb hK hP hD hS hG.a2 (k := 20 + j) (by omega) dL_buys_287 (fun H locs hP hD hS => ?_)
                have hG := hG.u2 (k := 20 + j) (v := (gI G 2 (20 + j)) + (nI 0))
                refine lv_aload_n hx hb dL_buys_288 rfl (lv_at hl 8 rfl) ?_
                refine lv_bipush (v := nI 12) hx hb dL_buys_289 (by decide) ?_
                refine lv_iload hx hb dL_buys_291 (lv_at hl 14 rfl) ?_
                refine lw_iadd (a := 12) (b := j) hx hb dL_buys_293 ?_
                refine lv_iload hx hb dL_buys_294 (lv_at hl 5 rfl) ?_
                refine lw_iast hx hb hK hP hD hS hG.a2 (k := 12 + j) (by omega) dL_buys_296 (fun H locs hP hD hS => ?_)
                have hG := hG.u2 (k := 12 + j) (v := nI (t - 1))
                refine lv_aload_n hx hb dL_buys_297 rfl (lv_at hl 8 rfl) ?_
                refine lv_bipush (v := nI 16) hx hb dL_buys_298 (by decide) ?_
                refine lv_iload hx hb dL_buys_300 (lv_at hl 14 rfl) ?_
                refine lw_iadd (a := 16) (b := j) hx hb dL_buys_302 ?_
                refine lv_iconst (v := nI 0) hx hb dL_buys_303 (by decide) ?_
                refine lw_iast hx hb hK hP hD hS hG.a2 (k := 16 + j) (by omega) dL_buys_304 (fun H locs hP hD hS => ?_)
                have hG := hG.u2 (k := 16 + j) (v := nI 0)
                exact sg_vret hx hb hr hlocks hP hD hS (Nat.le_of_ble_eq_true rfl) (Nat.le_of_ble_eq_true rfl) dL_buys_305 (⟨n, hm9, hG.to (by rw [gE, if_pos (Or.inr (by omega)), if_neg (by omega)])⟩)
              · exfalso; omega
        · have c242 : pn < a := by omega
          refine lv_iconst (v := nI 1) hx hb dL_buys_245 (by decide) ?_
          refine lv_goto (tgt := 250) hx hb dL_buys_246 (by decide) ?_
          refine lv_istore (lv' := [(15, .int (nI 1)), (13, .long (lN (C + n * a))), (12, .int (nI (10 * j + k))), (11, .int (nI zE)), (10, .int (nI a)), (9, .int (nI (t - 1))), (0, .ref (ad 0)), (1, .ref (ad 1)), (2, .ref (ad 2)), (3, .ref (ad 3)), (4, .ref (ad 4)), (5, .ref (ad 5)), (6, .ref (ad 6)), (7, .ref (ad 7)), (8, .int (nI j))]) hx hb dL_buys_250 hl (by decide) rfl (fun ls hl => ?_)
          refine lv_iload hx hb dL_buys_252 (lv_at hl 0 rfl) ?_
          refine lw_if_ne (tgt := 268) (a := 1) hx hb dL_buys_254 (by decide) (by omega) (fun c254 => ?_) (fun c254 => ?_)
          · skip
            refine lv_aload_n hx hb dL_buys_268 rfl (lv_at hl 8 rfl) ?_
            refine lv_bipush (v := nI 20) hx hb dL_buys_269 (by decide) ?_
            refine lv_iload hx hb dL_buys_271 (lv_at hl 14 rfl) ?_
            refine lw_iadd (a := 20) (b := j) hx hb dL_buys_273 ?_
            refine lv_dup2_11 hx hb dL_buys_274 rfl rfl ?_
            refine lw_iald hx hb hK hP hG.a2 (k := 20 + j) (by omega) (v := gI G 2 (20 + j)) (gS_20) dL_buys_275 ?_
            refine lv_iload hx hb dL_buys_276 (lv_at hl 0 rfl) ?_
            refine lw_if_eq (tgt := 285) (a := 1) hx hb dL_buys_278 (by decide) (by omega) (fun c278 => ?_) (fun c278 => ?_)
            · exfalso; omega
            · skip
              refine lv_iconst (v := nI 1) hx hb dL_buys_281 (by decide) ?_
              refine lv_goto (tgt := 286) hx hb dL_buys_282 (by decide) ?_
              refine lv_iadd hx hb dL_buys_286 ?_
              refine lw_iast hx hb hK hP hD hS hG.a2 (k := 20 + j) (by omega) dL_buys_287 (fun H locs hP hD hS => ?_)
              have hG := hG.u2 (k := 20 + j) (v := (gI G 2 (20 + j)) + (nI 1))
              refine lv_aload_n hx hb dL_buys_288 rfl (lv_at hl 8 rfl) ?_
              refine lv_bipush (v := nI 12) hx hb dL_buys_289 (by decide) ?_
              refine lv_iload hx hb dL_buys_291 (lv_at hl 14 rfl) ?_
              refine lw_iadd (a := 12) (b := j) hx hb dL_buys_293 ?_
              refine lv_iload hx hb dL_buys_294 (lv_at hl 5 rfl) ?_
              refine lw_iast hx hb hK hP hD hS hG.a2 (k := 12 + j) (by omega) dL_buys_296 (fun H locs hP hD hS => ?_)
              have hG := hG.u2 (k := 12 + j) (v := nI (t - 1))
              refine lv_aload_n hx hb dL_buys_297 rfl (lv_at hl 8 rfl) ?_
              refine lv_bipush (v := nI 16) hx hb dL_buys_298 (by decide) ?_
              refine lv_iload hx hb dL_buys_300 (lv_at hl 14 rfl) ?_
              refine lw_iadd (a := 16) (b := j) hx hb dL_buys_302 ?_
              refine lv_iconst (v := nI 0) hx hb dL_buys_303 (by decide) ?_
              refine lw_iast hx hb hK hP hD hS hG.a2 (k := 16 + j) (by omega) dL_buys_304 (fun H locs hP hD hS => ?_)
              have hG := hG.u2 (k := 16 + j) (v := nI 0)
              exact sg_vret hx hb hr hlocks hP hD hS (Nat.le_of_ble_eq_true rfl) (Nat.le_of_ble_eq_true rfl) dL_buys_305 (⟨n, hm9, hG.to (by rw [gE, if_pos (Or.inl c242), if_pos c242])⟩)
          · exfalso; omega
      · skip
        refine sg_loop (D := D) (H0 := s.heap) (T := Nat) 106 16 (fun n1 n σ' c' s' => n1 = w - n * zE ∧ (n * zE ≤ w ∧ (n = 0 ∨ ((C + n * a : Nat) : Int) ≤ ce.toInt)) ∧ ZF Y ad σ (gB zG1 (10 * j + k) j w zE S n) σ' ∧ c' = 0 ∧ s' = 0) (fun n => [(15, .int (nI zst)), (13, .long (lN (C + n * a))), (12, .int (nI (10 * j + k))), (11, .int (nI zE)), (10, .int (nI a)), (9, .int (nI (t - 1))), (0, .ref (ad 0)), (1, .ref (ad 1)), (2, .ref (ad 2)), (3, .ref (ad 3)), (4, .ref (ad 4)), (5, .ref (ad 5)), (6, .ref (ad 6)), (7, .ref (ad 7)), (8, .int (nI j))]) ?_ (w - n * zE) (n) _ _ _ _ _ _ (⟨rfl, ⟨hn1, hn2⟩, hG, rfl, rfl⟩) hP hD hS (lv_sub hl [0, 1, 2, 3, 4, 5, 6, 7, 8, 9, 10, 11, 12, 13, 14] rfl)
        intro n1 n σ' cells slots H locs ls ih hI hP hD hS hl
        obtain ⟨rfl, ⟨hn1, hn2⟩, hG, rfl, rfl⟩ := hI
        have q1 : (n + zst) * zE = n * zE + zst * zE := Nat.add_mul n zst zE
        have q2 : (n + zst) * a = n * a + zst * a := Nat.add_mul n zst a
        have q3 : (n + 1) * zE = n * zE + 1 * zE := Nat.add_mul n 1 zE
        have q4 : (n + 1) * a = n * a + 1 * a := Nat.add_mul n 1 a
        have hst : zst ≤ 1000000 := by unfold ten at hten; omega
        have q5 : zst * zE ≤ 1000000 * 100000 := Nat.mul_le_mul hst hEb.2
        have q6 : zst * a ≤ 1000000 * 100000 := Nat.mul_le_mul hst ha.2
        have hnw : n ≤ w := Nat.le_trans (Nat.le_mul_of_pos_right n hEb.1) hn1
        have q7 : n * a ≤ w * 100000 := Nat.mul_le_mul hnw ha.2
        have q8 : zst ≤ zst * zE := Nat.le_mul_of_pos_right zst hEb.1
        have hl : lv_has ls 16 [(15, .int (nI zst)), (13, .long (lN (C + n * a))), (12, .int (nI (10 * j + k))), (11, .int (nI zE)), (10, .int (nI a)), (9, .int (nI (t - 1))), (0, .ref (ad 0)), (1, .ref (ad 1)), (2, .ref (ad 2)), (3, .ref (ad 3)), (4, .ref (ad 4)), (5, .ref (ad 5)), (6, .ref (ad 6)), (7, .ref (ad 7)), (8, .int (nI j))] := hl
        refine lv_aload_n hx hb dL_buys_106 rfl (lv_at hl 8 rfl) ?_
        refine lv_bipush (v := nI 8) hx hb dL_buys_107 (by decide) ?_
        refine lv_iload hx hb dL_buys_109 (lv_at hl 14 rfl) ?_
        refine lw_iadd (a := 8) (b := j) hx hb dL_buys_111 ?_
        refine lw_iald hx hb hK hP hG.a2 (k := 8 + j) (by omega) (v := nI (w - n * zE)) (gB_m) dL_buys_112 ?_
        refine lw_i2l (a := w - n * zE) hx hb dL_buys_113 (by omega) ?_
        refine lv_iload hx hb dL_buys_114 (lv_at hl 0 rfl) ?_
        refine lw_i2l (a := zst) hx hb dL_buys_116 (by omega) ?_
        refine lv_iload hx hb dL_buys_117 (lv_at hl 3 rfl) ?_
        refine lw_i2l (a := zE) hx hb dL_buys_119 (by omega) ?_
        refine lw_lmul (a := zst) (b := zE) hx hb dL_buys_120 ?_
        refine W.lcmp hx hb dL_buys_121 ?_
        refine lv_if_lt (tgt := 199) hx hb dL_buys_122 (by decide) (fun c122 => ?_) (fun c122 => ?_)
        · rw [lg_cmp_lt, pk_lLT (by omega) (by omega)] at c122
          have hno : zst = 1 → ¬ ((n + 1) * zE ≤ w ∧ ((C + (n + 1) * a : Nat) : Int) ≤ ce.toInt) := fun q zz => by subst q; omega
          refine lv_iload hx hb dL_buys_199 (lv_at hl 0 rfl) ?_
          refine lv_bipush (v := nI 10) hx hb dL_buys_201 (by decide) ?_
          refine lw_idiv (a := zst) (b := 10) hx hb dL_buys_203 (by omega) (by decide) (by decide) ?_
          refine lv_istore (lv' := [(15, .int (nI (zst / 10))), (13, .long (lN (C + n * a))), (12, .int (nI (10 * j + k))), (11, .int (nI zE)), (10, .int (nI a)), (9, .int (nI (t - 1))), (0, .ref (ad 0)), (1, .ref (ad 1)), (2, .ref (ad 2)), (3, .ref (ad 3)), (4, .ref (ad 4)), (5, .ref (ad 5)), (6, .ref (ad 6)), (7, .ref (ad 7)), (8, .int (nI j))]) hx hb dL_buys_204 hl (by decide) rfl (fun ls hl => ?_)
          refine lv_goto (tgt := 101) hx hb dL_buys_206 (by decide) ?_
          exact ihO (zst / 10) (zst / 10, n) _ _ _ _ _ _ (by omega) ⟨rfl, ten_div hten, ⟨hn1, hn2⟩, fun q => hno (by unfold ten at hten; omega), hG, rfl, rfl⟩ hP hD hS (lv_sub hl [0, 1, 2, 3, 4, 5, 6, 7, 8, 9, 10, 11, 12, 13, 14] rfl)
        · rw [lg_cmp_lt, pk_lLT (by omega) (by omega)] at c122
          refine lv_lload hx hb dL_buys_125 (lv_at hl 1 rfl) ?_
          refine lv_iload hx hb dL_buys_127 (lv_at hl 0 rfl) ?_
          refine lw_i2l (a := zst) hx hb dL_buys_129 (by omega) ?_
          refine lv_iload hx hb dL_buys_130 (lv_at hl 4 rfl) ?_
          refine lw_i2l (a := a) hx hb dL_buys_132 (by omega) ?_
          refine lw_lmul (a := zst) (b := a) hx hb dL_buys_133 ?_
          refine lw_ladd (a := C + n * a) (b := zst * a) hx hb dL_buys_134 ?_
          refine lv_aload_n hx hb dL_buys_135 rfl (lv_at hl 6 rfl) ?_
          refine lv_iconst (v := nI 2) hx hb dL_buys_136 (by decide) ?_
          refine lw_iald hx hb hK hP hG.a0 (k := 2) (by omega) (v := ce) ((congrFun (gB_o (by decide) (by decide)) 2).trans e2) dL_buys_137 ?_
          refine lv_i2l hx hb dL_buys_138 rfl ?_
          refine W.lcmp hx hb dL_buys_139 ?_
          refine lv_if_gt (tgt := 199) hx hb dL_buys_140 (by decide) (fun c140 => ?_) (fun c140 => ?_)
          · rw [lg_cmp_gt, ce_lt (by omega)] at c140
            have hno : zst = 1 → ¬ ((n + 1) * zE ≤ w ∧ ((C + (n + 1) * a : Nat) : Int) ≤ ce.toInt) := fun q zz => by subst q; omega
            refine lv_iload hx hb dL_buys_199 (lv_at hl 0 rfl) ?_
            refine lv_bipush (v := nI 10) hx hb dL_buys_201 (by decide) ?_
            refine lw_idiv (a := zst) (b := 10) hx hb dL_buys_203 (by omega) (by decide) (by decide) ?_
            refine lv_istore (lv' := [(15, .int (nI (zst / 10))), (13, .long (lN (C + n * a))), (12, .int (nI (10 * j + k))), (11, .int (nI zE)), (10, .int (nI a)), (9, .int (nI (t - 1))), (0, .ref (ad 0)), (1, .ref (ad 1)), (2, .ref (ad 2)), (3, .ref (ad 3)), (4, .ref (ad 4)), (5, .ref (ad 5)), (6, .ref (ad 6)), (7, .ref (ad 7)), (8, .int (nI j))]) hx hb dL_buys_204 hl (by decide) rfl (fun ls hl => ?_)
            refine lv_goto (tgt := 101) hx hb dL_buys_206 (by decide) ?_
            exact ihO (zst / 10) (zst / 10, n) _ _ _ _ _ _ (by omega) ⟨rfl, ten_div hten, ⟨hn1, hn2⟩, fun q => hno (by unfold ten at hten; omega), hG, rfl, rfl⟩ hP hD hS (lv_sub hl [0, 1, 2, 3, 4, 5, 6, 7, 8, 9, 10, 11, 12, 13, 14] rfl)
          · rw [lg_cmp_gt, ce_lt (by omega)] at c140
            refine lv_aload_n hx hb dL_buys_143 rfl (lv_at hl 8 rfl) ?_
            refine lv_bipush (v := nI 8) hx hb dL_buys_144 (by decide) ?_
            refine lv_iload hx hb dL_buys_146 (lv_at hl 14 rfl) ?_
            refine lw_iadd (a := 8) (b := j) hx hb dL_buys_148 ?_
            refine lv_dup2_11 hx hb dL_buys_149 rfl rfl ?_
            refine lw_iald hx hb hK hP hG.a2 (k := 8 + j) (by omega) (v := nI (w - n * zE)) (gB_m) dL_buys_150 ?_
            refine lv_iload hx hb dL_buys_151 (lv_at hl 0 rfl) ?_
            refine lv_iload hx hb dL_buys_153 (lv_at hl 3 rfl) ?_
            refine lw_imul (a := zst) (b := zE) hx hb dL_buys_155 ?_
            refine lw_isub (a := w - n * zE) (b := zst * zE) hx hb dL_buys_156 (by omega) ?_
            refine lw_iast hx hb hK hP hD hS hG.a2 (k := 8 + j) (by omega) dL_buys_157 (fun H locs hP hD hS => ?_)
            have hG := hG.u2 (k := 8 + j) (v := nI ((w - n * zE) - (zst * zE)))
            refine lv_aload hx hb dL_buys_158 (lv_at hl 13 rfl) ?_
            refine lv_iconst (v := nI 4) hx hb dL_buys_160 (by decide) ?_
            refine lv_iload hx hb dL_buys_161 (lv_at hl 14 rfl) ?_
            refine lw_iadd (a := 4) (b := j) hx hb dL_buys_163 ?_
            refine lv_dup2_11 hx hb dL_buys_164 rfl rfl ?_
            refine lw_lald hx hb hK hP hG.a7 (k := 4 + j) (by omega) (v := S + lN (n * zE)) (by rw [gX_vI]; exact gB_x) dL_buys_165 ?_
            refine lv_iload hx hb dL_buys_166 (lv_at hl 0 rfl) ?_
            refine lw_i2l (a := zst) hx hb dL_buys_168 (by omega) ?_
            refine lv_iload hx hb dL_buys_169 (lv_at hl 3 rfl) ?_
            refine lw_i2l (a := zE) hx hb dL_buys_171 (by omega) ?_
            refine lw_lmul (a := zst) (b := zE) hx hb dL_buys_172 ?_
            refine lv_ladd hx hb dL_buys_173 ?_
            refine lw_last hx hb hK hP hD hS hG.a7 (k := 4 + j) (by omega) dL_buys_174 (fun H locs hP hD hS => ?_)
            have hG := hG.u7 (k := 4 + j) (w := (S + lN (n * zE)) + (lN (zst * zE)))
            refine lv_lload hx hb dL_buys_175 (lv_at hl 1 rfl) ?_
            refine lv_iload hx hb dL_buys_177 (lv_at hl 0 rfl) ?_
            refine lw_i2l (a := zst) hx hb dL_buys_179 (by omega) ?_
            refine lv_iload hx hb dL_buys_180 (lv_at hl 4 rfl) ?_
            refine lw_i2l (a := a) hx hb dL_buys_182 (by omega) ?_
            refine lw_lmul (a := zst) (b := a) hx hb dL_buys_183 ?_
            refine lw_ladd (a := C + n * a) (b := zst * a) hx hb dL_buys_184 ?_
            refine lw_long (y := lN (C + (n + zst) * a)) (by rw [show C + n * a + zst * a = C + (n + zst) * a by omega]) ?_
            refine lv_lstore (lv' := [(13, .long (lN (C + (n + zst) * a))), (15, .int (nI zst)), (12, .int (nI (10 * j + k))), (11, .int (nI zE)), (10, .int (nI a)), (9, .int (nI (t - 1))), (0, .ref (ad 0)), (1, .ref (ad 1)), (2, .ref (ad 2)), (3, .ref (ad 3)), (4, .ref (ad 4)), (5, .ref (ad 5)), (6, .ref (ad 6)), (7, .ref (ad 7)), (8, .int (nI j))]) hx hb dL_buys_185 hl (by decide) rfl (fun ls hl => ?_)
            refine lv_aload_n hx hb dL_buys_187 rfl (lv_at hl 9 rfl) ?_
            refine lv_iload hx hb dL_buys_188 (lv_at hl 2 rfl) ?_
            refine lv_dup2_11 hx hb dL_buys_190 rfl rfl ?_
            refine lw_iald hx hb hK hP hG.a3 (k := 10 * j + k) (by omega) (v := nI n) (by rw [gI_vX, gI_vo (by decide)]; exact gB_b) dL_buys_191 ?_
            refine lv_iload hx hb dL_buys_192 (lv_at hl 1 rfl) ?_
            refine lw_iadd (a := n) (b := zst) hx hb dL_buys_194 ?_
            refine lw_iast hx hb hK hP hD hS hG.a3 (k := 10 * j + k) (by omega) dL_buys_195 (fun H locs hP hD hS => ?_)
            have hG := hG.u3 (k := 10 * j + k) (v := nI (n + zst))
            have hG := hG.to (gB_step (n := n) (st := zst) (by rw [show w - n * zE - zst * zE = w - (n + zst) * zE by omega]) (by rw [Int64.add_assoc, lN_add, ← q1]) rfl)
            refine lv_goto (tgt := 106) hx hb dL_buys_196 (by decide) ?_
            exact ih (w - (n + zst) * zE) (n + zst) _ _ _ _ _ _ (by omega) ⟨rfl, ⟨by omega, Or.inr (by omega)⟩, hG, rfl, rfl⟩ hP hD hS (lv_sub hl [1, 0, 2, 3, 4, 5, 6, 7, 8, 9, 10, 11, 12, 13, 14] rfl)
    · skip
      refine lv_iinc (v := nI (zz + 1)) (lv' := [(11, .int (nI (zz + 1))), (10, .int (nI a)), (9, .int (nI (t - 1))), (0, .ref (ad 0)), (1, .ref (ad 1)), (2, .ref (ad 2)), (3, .ref (ad 3)), (4, .ref (ad 4)), (5, .ref (ad 5)), (6, .ref (ad 6)), (7, .ref (ad 7)), (8, .int (nI j))]) hx hb dL_buys_50 hl (k := 0) rfl (nI_1 _) (by decide) rfl (fun ls hl => ?_)
      refine lv_goto (tgt := 21) hx hb dL_buys_53 (by decide) ?_
      exact ih (n1 - 1) (zz + 1) _ _ _ _ _ _ (by omega) ⟨by omega, by omega, Or.inr (by omega), rfl, rfl, rfl⟩ hP hD hS (lv_sub hl [0, 1, 2, 3, 4, 5, 6, 7, 8, 9, 10, 11] rfl)
  · skip
    refine lv_iload hx hb dL_buys_28 (lv_at hl 1 rfl) ?_
    refine lv_aload_n hx hb dL_buys_30 rfl (lv_at hl 4 rfl) ?_
    refine lv_iload hx hb dL_buys_31 (lv_at hl 2 rfl) ?_
    refine lw_iald hx hb hK hP hG.a1 (k := t - 1) (by omega) (v := nI pn) (ep) dL_buys_33 ?_
    refine lw_icmp_ge (tgt := 42) (a := a) (b := pn) hx hb dL_buys_34 (by decide) (by omega) (by omega) (fun c34 => ?_) (fun c34 => ?_)
    · skip
      refine lv_aload_n hx hb dL_buys_42 rfl (lv_at hl 4 rfl) ?_
      refine lv_iload hx hb dL_buys_43 (lv_at hl 2 rfl) ?_
      refine lw_iald hx hb hK hP hG.a1 (k := t - 1) (by omega) (v := nI pn) (ep) dL_buys_45 ?_
      exact k46 _ _ _ _ (⟨by rw [hmn, if_neg (by omega)], rfl⟩) hP hD hS
    · skip
      refine lv_iload hx hb dL_buys_37 (lv_at hl 1 rfl) ?_
      refine lv_goto (tgt := 46) hx hb dL_buys_39 (by decide) ?_
      exact k46 _ _ _ _ (⟨by rw [hmn, if_pos (by omega)], rfl⟩) hP hD hS
