theorem MF.to {Y : Nat → ClassId} {ad : Nat → Nat} {σ0 σ : sg_W} {M M' : MS} (h : MF Y ad σ0 M σ) (e : M = M') : MF Y ad σ0 M' σ := e ▸ h
def okBuy (M : MS) (j : Nat) : Prop := vp_in (sS M 0) 60 ∧ vp_in (sI M 10 j) 60 ∧ (∀ k, k < 60 → vp_in (sI M 18 k) 60) ∧ ¬ (sI M 1 (tN (sI M 10 j))).toInt64 = 0 ∧ ¬ bEach M j = 0
theorem buy1_S {M : MS} {j a : Nat} : sS (buy1 M j) a = sS M a := by unfold buy1; split <;> rfl
theorem buy2_S {M : MS} {j a : Nat} : sS (buy2 M j) a = sS M a := by rw [buy2, sS_uI, buy1_S]
theorem buyM_S {M : MS} {j a : Nat} : sS (buyM M j) a = sS M a := by unfold buyM; split <;> (simp only [sS_uI, buy2_S])
theorem bAll_S {M : MS} {a : Nat} : ∀ k, sS (bAll M k) a = sS M a
  | 0 => rfl
  | k + 1 => by
    rw [bAll]
    split
    · rw [buyM_S, bAll_S k]
    · rw [bAll_S k]
theorem buy1_I {M : MS} {j a : Nat} (h : a ≠ 15 ∧ a ≠ 16 ∧ a ≠ 17 ∧ a ≠ 18 ∧ a ≠ 6) : sI (buy1 M j) a = sI M a := by
  unfold buy1
  split
  · simp only [sI_uI, sI_uL, if_neg h.1, if_neg h.2.1, if_neg h.2.2.1, if_neg h.2.2.2.1, if_neg h.2.2.2.2]
  · rfl
theorem buy2_I {M : MS} {j a : Nat} (h : a ≠ 15 ∧ a ≠ 16 ∧ a ≠ 17 ∧ a ≠ 18 ∧ a ≠ 6) (h2 : a ≠ 11) : sI (buy2 M j) a = sI M a := by rw [buy2, sI_uI, if_neg h2, buy1_I h]
theorem buy2_11 {M : MS} {j : Nat} : sI (buy2 M j) 11 j = sI M 11 j + 1 := by rw [buy2, sI_uI, if_pos rfl, upd_at, if_pos rfl]
theorem c_X3_countedIn_i (l : Launch) (D : va_G) (Y : Nat → ClassId) (σ : sg_W) (sz : Nat) (ad : Nat → Nat) (M : MS) (j : Nat) (x : Int32) (hj : j < 6) (hi : vp_in x 5) (ho : ∀ k, k < 60 → vp_in (sI M 18 k) 60) (hM : MW Y ad M σ) : Met l yX3_countedIn wsX3_countedIn ({ frames := 0, cells := 0, slots := 0, locals := 0 } : Room) (va_Pc [.ref (ad 0), .int (nI j), .int x] (sg_U D Y σ sz)) (va_Ql (fun r σ' => r = cN M j (tN x) ∧ σ = σ') (sg_B D σ sz) (sg_A σ sz)) 0 0 (sg_A σ sz) := by
  obtain ⟨y, hy, rfl⟩ := vp_in_of hi (by decide)
  rw [show tN (nI y) = y from nI_clamp (by omega)]
  exact c_X3_countedIn l D Y σ sz ad M j y hj hy ho hM
theorem wi_X3_buy : ∀ w ∈ wsX30, w ∈ wsX3_buy := by decide +kernel
set_option maxHeartbeats 4000000 in
set_option maxRecDepth 100000 in
theorem c_X3_buy (l : Launch) (D : va_G) (Y : Nat → ClassId) (σ : sg_W) (sz : Nat) (ad : Nat → Nat) (M : MS) (j : Nat) (hj : j < 6) (hok : okBuy M j) (hM : MW Y ad M σ) : Met l yX3_buy wsX3_buy ({ frames := 1, cells := 0, slots := 0, locals := 25 } : Room) (va_Pc [.ref (ad 0), .int (nI j)] (sg_U D Y σ sz)) (va_Qv (fun σ' => MF Y ad σ (buyM M j) σ') (sg_B D σ sz) (sg_A σ sz)) 0 0 (sg_A σ sz) := by
  refine sg_met (cc := cX3_buy) (maxL := 11) (ret := none) (by decide) rfl (Nat.le_of_ble_eq_true rfl) ?_
  intro p e s m below meth c ls hx hb hml hr hown hts hlocks hnm hP hK hD hN hX hA hS hsz hl
  have hl : lv_has ls 11 [(0, .ref (ad 0)), (1, .int (nI j))] := hl
  obtain ⟨hm, hf, ho, hst, hea⟩ := hok
  have hcj : (nI j).toNatClampNeg = j := nI_clamp (by omega)
  have hmt := vp_eq hm (by decide)
  have hml2 := vp_lt hm
  have hd12 : sS M 0 / 12 = nI (tN (sS M 0) / 12) := (congrArg (fun z => z / 12) hmt).trans (pk_div (a := tN (sS M 0)) (d := 12) (by omega) (by omega) (by omega))
  have hd6 : sS M 0 / 6 = nI (tN (sS M 0) / 6) := (congrArg (fun z => z / 6) hmt).trans (pk_div (a := tN (sS M 0)) (d := 6) (by omega) (by omega) (by omega))
  have ht12 : tN (sS M 0 / 12) = tN (sS M 0) / 12 := by rw [hd12, tN, nI_clamp (by omega)]
  have h10 : 10 * nI j = nI (10 * j) := pk_mul 10 j
  refine lv_aload_n hx hb dX3_buy_0 rfl (lv_at hl 0 rfl) ?_
  refine va_get (ref := RX3) (v := .ref (ad 1)) hx hb hts wi_X3_buy hown hK (sg_one hP (hM.1 0 rfl)) 0 rfl rfl 1 (by decide) (hts (.fieldLink RX3 13 RX3 "price" "[I") (by decide +kernel)) (fun _ h => h) rfl dX3_buy_1 ?_
  refine lv_aload_n hx hb dX3_buy_4 rfl (lv_at hl 0 rfl) ?_
  refine va_get (ref := RX3) (v := .ref (ad 10)) hx hb hts wi_X3_buy hown hK (sg_one hP (hM.1 0 rfl)) 0 rfl rfl 10 (by decide) (hts (.fieldLink RX3 41 RX3 "first" "[I") (by decide +kernel)) (fun _ h => h) rfl dX3_buy_5 ?_
  refine lv_iload_n hx hb dX3_buy_8 rfl (lv_at hl 1 rfl) ?_
  refine va_iald hx hb hK (sg_one hP (hM.1 10 rfl)) 0 0 rfl rfl (vp_r (a := j) rfl hj (by decide)) dX3_buy_9 ?_
  refine va_iald hx hb hK (sg_one hP (hM.1 1 rfl)) 0 0 rfl rfl (by rw [hcj]; exact hf) dX3_buy_10 ?_
  refine lv_topi (fun v11 ev11 => ?_)
  refine lv_istore_n (lv' := [(2, .int v11), (0, .ref (ad 0)), (1, .int (nI j))]) hx hb dX3_buy_11 rfl hl (by decide) rfl (fun ls hl => ?_)
  refine lv_aload_n hx hb dX3_buy_12 rfl (lv_at hl 1 rfl) ?_
  refine va_get (ref := RX3) (v := .ref (ad 1)) hx hb hts wi_X3_buy hown hK (sg_one hP (hM.1 0 rfl)) 0 rfl rfl 1 (by decide) (hts (.fieldLink RX3 13 RX3 "price" "[I") (by decide +kernel)) (fun _ h => h) rfl dX3_buy_13 ?_
  refine lv_aload_n hx hb dX3_buy_16 rfl (lv_at hl 1 rfl) ?_
  refine va_get (ref := RX3) (v := .int (sS M 0)) hx hb hts wi_X3_buy hown hK (sg_one hP (hM.1 0 rfl)) 0 rfl rfl 0 (by decide) (hts (.fieldLink RX3 9 RX3 "month" "I") (by decide +kernel)) (fun _ h => h) rfl dX3_buy_17 ?_
  refine va_iald hx hb hK (sg_one hP (hM.1 1 rfl)) 0 0 rfl rfl (hm) dX3_buy_20 ?_
  refine lv_topi (fun v21 ev21 => ?_)
  refine lv_istore_n (lv' := [(3, .int v21), (2, .int v11), (0, .ref (ad 0)), (1, .int (nI j))]) hx hb dX3_buy_21 rfl hl (by decide) rfl (fun ls hl => ?_)
  refine sg_cutwi (D := D) hS (j := 32) (ls := ls) (rest := []) 0 0 (fun x9 σ' => x9 = (if v11 < v21 then v11 else v21) ∧ MF Y ad σ M σ') (fun x9 σ' H locs hj9 hP hD hS => ?_) (fun k32 => ?_)
  · obtain ⟨low9, rfl⟩ : ∃ z9, z9 = x9 := ⟨_, rfl⟩
    obtain ⟨elow9, hM⟩ := hj9
    refine lv_istore (lv' := [(4, .int low9), (3, .int v21), (2, .int v11), (0, .ref (ad 0)), (1, .int (nI j))]) hx hb dX3_buy_32 hl (by decide) rfl (fun ls hl => ?_)
    refine lv_bipush (v := 85) hx hb dX3_buy_34 (by decide) ?_
    refine lv_iload hx hb dX3_buy_36 (lv_at hl 0 rfl) ?_
    refine lv_imul hx hb dX3_buy_38 ?_
    refine lv_bipush (v := 99) hx hb dX3_buy_39 (by decide) ?_
    refine lv_iadd hx hb dX3_buy_41 ?_
    refine lv_bipush (v := 100) hx hb dX3_buy_42 (by decide) ?_
    refine lv_idiv hx hb dX3_buy_44 (by decide) ?_
    refine lv_topi (fun v45 ev45 => ?_)
    refine lv_istore (lv' := [(5, .int v45), (4, .int low9), (3, .int v21), (2, .int v11), (0, .ref (ad 0)), (1, .int (nI j))]) hx hb dX3_buy_45 hl (by decide) rfl (fun ls hl => ?_)
    refine lv_aload_n hx hb dX3_buy_47 rfl (lv_at hl 4 rfl) ?_
    refine va_get (ref := RX3) (v := .int (sS M 2)) hx hb hts wi_X3_buy hown hK (sg_one hP (hM.1 0 rfl)) 0 rfl rfl 2 (by decide) (hts (.fieldLink RX3 18 RX3 "ceiling" "I") (by decide +kernel)) (fun _ h => h) rfl dX3_buy_48 ?_
    refine lv_i2l hx hb dX3_buy_51 rfl ?_
    refine lv_aload_n hx hb dX3_buy_52 rfl (lv_at hl 4 rfl) ?_
    refine lv_iload_n hx hb dX3_buy_53 rfl (lv_at hl 5 rfl) ?_
    refine lv_aload_n hx hb dX3_buy_54 rfl (lv_at hl 4 rfl) ?_
    refine va_get (ref := RX3) (v := .int (sS M 0)) hx hb hts wi_X3_buy hown hK (sg_one hP (hM.1 0 rfl)) 0 rfl rfl 0 (by decide) (hts (.fieldLink RX3 9 RX3 "month" "I") (by decide +kernel)) (fun _ h => h) rfl dX3_buy_55 ?_
    refine lv_bipush (v := 12) hx hb dX3_buy_58 (by decide) ?_
    refine lv_idiv hx hb dX3_buy_60 (by decide) ?_
    refine sg_calll hD hS hA (va_runV (As := [.int (nI j), .int ((sS M 0) / 12)]) (rest := [.long ((sS M 2)).toInt64]) ⟨hx, hb, hml, hown, hts⟩ (c_X3_countedIn_i l D Y _ _ ad M j (sS M 0 / 12) hj (by rw [hd12]; exact vp_in_nI (by omega) (by decide)) ho hM.self) (cwV 2 hts gX3_buy_X3_countedIn rfl rfl rfl (by decide +kernel) ⟨Nat.le_of_ble_eq_true rfl, Nat.le_of_ble_eq_true rfl⟩) (sg_preV (q := (RX3, TX3, 20)) (hM.1 0 rfl) rfl hK hP hD hN hX hS hA) rfl rfl hl.1 rfl (lv_room (Nat.le_of_ble_eq_true rfl)) dX3_buy_61 ⟨Nat.le_of_ble_eq_true rfl, Nat.le_of_ble_eq_true rfl⟩) (fun r61 σ' H locs hw hP hD hS => ?_)
    obtain ⟨er61, rfl⟩ := hw
    refine lv_lsub hx hb dX3_buy_64 ?_
    refine lv_iload_n hx hb dX3_buy_65 rfl (lv_at hl 3 rfl) ?_
    refine lv_i2l hx hb dX3_buy_66 rfl ?_
    refine lv_ldiv hx hb dX3_buy_67 (by rw [ev11, hcj]; exact hst) ?_
    refine lv_topl (fun v68 ev68 => ?_)
    refine lv_lstore (lv' := [(6, .long v68), (5, .int v45), (4, .int low9), (3, .int v21), (2, .int v11), (0, .ref (ad 0)), (1, .int (nI j))]) hx hb dX3_buy_68 hl (by decide) rfl (fun ls hl => ?_)
    refine lv_aload_n hx hb dX3_buy_70 rfl (lv_at hl 5 rfl) ?_
    refine va_get (ref := RX3) (v := .ref (ad 6)) hx hb hts wi_X3_buy hown hK (sg_one hP (hM.1 0 rfl)) 0 rfl rfl 6 (by decide) (hts (.fieldLink RX3 28 RX3 "money" "[I") (by decide +kernel)) (fun _ h => h) rfl dX3_buy_71 ?_
    refine lv_iload_n hx hb dX3_buy_74 rfl (lv_at hl 6 rfl) ?_
    refine va_iald hx hb hK (sg_one hP (hM.1 6 rfl)) 0 0 rfl rfl (vp_r (a := j) rfl hj (by decide)) dX3_buy_75 ?_
    refine lv_iload hx hb dX3_buy_76 (lv_at hl 1 rfl) ?_
    refine lv_idiv hx hb dX3_buy_78 (by rw [show v45 = bEach M j by rw [ev45, elow9, ev11, ev21, hcj]; rfl]; exact hea) ?_
    refine lv_topi (fun v79 ev79 => ?_)
    refine lv_istore (lv' := [(8, .int v79), (6, .long v68), (5, .int v45), (4, .int low9), (3, .int v21), (2, .int v11), (0, .ref (ad 0)), (1, .int (nI j))]) hx hb dX3_buy_79 hl (by decide) rfl (fun ls hl => ?_)
    refine sg_cutwi (D := D) hS (j := 109) (ls := ls) (rest := []) 0 0 (fun x9 σ' => x9 = (if v68 < 0 then 0 else if v68 < v79.toInt64 then v68.toInt32 else v79) ∧ MF Y ad σ M σ') (fun x9 σ' H locs hj9 hP hD hS => ?_) (fun k109 => ?_)
    · obtain ⟨cnt9, rfl⟩ : ∃ z9, z9 = x9 := ⟨_, rfl⟩
      obtain ⟨ecnt9, hM⟩ := hj9
      refine lv_istore (lv' := [(9, .int cnt9), (8, .int v79), (6, .long v68), (5, .int v45), (4, .int low9), (3, .int v21), (2, .int v11), (0, .ref (ad 0)), (1, .int (nI j))]) hx hb dX3_buy_109 hl (by decide) rfl (fun ls hl => ?_)
      refine lv_bipush (v := 10) hx hb dX3_buy_111 (by decide) ?_
      refine lv_iload_n hx hb dX3_buy_113 rfl (lv_at hl 8 rfl) ?_
      refine lv_imul hx hb dX3_buy_114 ?_
      refine lv_aload_n hx hb dX3_buy_115 rfl (lv_at hl 7 rfl) ?_
      refine va_get (ref := RX3) (v := .int (sS M 0)) hx hb hts wi_X3_buy hown hK (sg_one hP (hM.1 0 rfl)) 0 rfl rfl 0 (by decide) (hts (.fieldLink RX3 9 RX3 "month" "I") (by decide +kernel)) (fun _ h => h) rfl dX3_buy_116 ?_
      refine lv_bipush (v := 6) hx hb dX3_buy_119 (by decide) ?_
      refine lv_idiv hx hb dX3_buy_121 (by decide) ?_
      refine lv_iadd hx hb dX3_buy_122 ?_
      refine lv_topi (fun v123 ev123 => ?_)
      obtain rfl : v123 = nI (10 * j + tN (sS M 0) / 6) := by rw [ev123, h10, hd6, nI_add]
      refine lv_istore (lv' := [(10, .int (nI (10 * j + tN (sS M 0) / 6))), (9, .int cnt9), (8, .int v79), (6, .long v68), (5, .int v45), (4, .int low9), (3, .int v21), (2, .int v11), (0, .ref (ad 0)), (1, .int (nI j))]) hx hb dX3_buy_123 hl (by decide) rfl (fun ls hl => ?_)
      refine sg_cutw (D := D) hS (j := 199) (ls := ls) (rest := []) 0 0 (fun σ' => MF Y ad σ (buy1 M j) σ') (fun σ' H locs hj9 hP hD hS => ?_) (fun k199 => ?_)
      · have hM := hj9
        refine lv_aload_n hx hb dX3_buy_199 rfl (lv_at hl 8 rfl) ?_
        refine va_get (ref := RX3) (v := .ref (ad 11)) hx hb hts wi_X3_buy hown hK (sg_one hP (hM.1 0 rfl)) 0 rfl rfl 11 (by decide) (hts (.fieldLink RX3 44 RX3 "times" "[I") (by decide +kernel)) (fun _ h => h) rfl dX3_buy_200 ?_
        refine lv_iload_n hx hb dX3_buy_203 rfl (lv_at hl 9 rfl) ?_
        refine lv_dup2_11 hx hb dX3_buy_204 rfl rfl ?_
        refine va_iald hx hb hK (sg_one hP (hM.1 11 rfl)) 0 0 rfl rfl (vp_r (a := j) rfl hj (by decide)) dX3_buy_205 ?_
        refine lv_iconst (v := 1) hx hb dX3_buy_206 (by decide) ?_
        refine lv_iadd hx hb dX3_buy_207 ?_
        refine sg_iast hx hb hK hP hD hS (hM.1 11 rfl) (vp_r (a := j) rfl hj (by decide)) dX3_buy_208 (fun H locs hP hD hS => ?_)
        have hM := hM.a11 (k := ((nI j)).toNatClampNeg) (v := ((sI (buy1 M j) 11 ((nI j)).toNatClampNeg) + 1))
        have hM := hM.to (M' := buy2 M j) (by rw [hcj, buy1_I (by decide)]; rfl)
        refine lv_iload_n hx hb dX3_buy_209 rfl (lv_at hl 6 rfl) ?_
        refine lv_iload_n hx hb dX3_buy_210 rfl (lv_at hl 7 rfl) ?_
        refine lv_icmp_lt (tgt := 224) hx hb dX3_buy_211 (by decide) (fun c211 => ?_) (fun c211 => ?_)
        · skip
          refine lv_aload_n hx hb dX3_buy_224 rfl (lv_at hl 8 rfl) ?_
          refine va_get (ref := RX3) (v := .ref (ad 12)) hx hb hts wi_X3_buy hown hK (sg_one hP (hM.1 0 rfl)) 0 rfl rfl 12 (by decide) (hts (.fieldLink RX3 47 RX3 "resets" "[I") (by decide +kernel)) (fun _ h => h) rfl dX3_buy_225 ?_
          refine lv_iload_n hx hb dX3_buy_228 rfl (lv_at hl 9 rfl) ?_
          refine lv_dup2_11 hx hb dX3_buy_229 rfl rfl ?_
          refine va_iald hx hb hK (sg_one hP (hM.1 12 rfl)) 0 0 rfl rfl (vp_r (a := j) rfl hj (by decide)) dX3_buy_230 ?_
          refine lv_iload_n hx hb dX3_buy_231 rfl (lv_at hl 6 rfl) ?_
          refine lv_iload_n hx hb dX3_buy_232 rfl (lv_at hl 7 rfl) ?_
          refine lv_icmp_ge (tgt := 240) hx hb dX3_buy_233 (by decide) (fun c233 => ?_) (fun c233 => ?_)
          · skip
            refine lv_iconst (v := 0) hx hb dX3_buy_240 (by decide) ?_
            refine lv_iadd hx hb dX3_buy_241 ?_
            refine sg_iast hx hb hK hP hD hS (hM.1 12 rfl) (vp_r (a := j) rfl hj (by decide)) dX3_buy_242 (fun H locs hP hD hS => ?_)
            have hM := hM.a12 (k := ((nI j)).toNatClampNeg) (v := ((sI (buy2 M j) 12 ((nI j)).toNatClampNeg) + 0))
            refine lv_aload_n hx hb dX3_buy_243 rfl (lv_at hl 8 rfl) ?_
            refine va_get (ref := RX3) (v := .ref (ad 10)) hx hb hts wi_X3_buy hown hK (sg_one hP (hM.1 0 rfl)) 0 rfl rfl 10 (by decide) (hts (.fieldLink RX3 41 RX3 "first" "[I") (by decide +kernel)) (fun _ h => h) rfl dX3_buy_244 ?_
            refine lv_iload_n hx hb dX3_buy_247 rfl (lv_at hl 9 rfl) ?_
            refine lv_aload_n hx hb dX3_buy_248 rfl (lv_at hl 8 rfl) ?_
            refine va_get (ref := RX3) (v := .int (sS (uI (buy2 M j) 12 ((nI j)).toNatClampNeg (((sI (buy2 M j) 12 ((nI j)).toNatClampNeg) + 0))) 0)) hx hb hts wi_X3_buy hown hK (sg_one hP (hM.1 0 rfl)) 0 rfl rfl 0 (by decide) (hts (.fieldLink RX3 9 RX3 "month" "I") (by decide +kernel)) (fun _ h => h) rfl dX3_buy_249 ?_
            refine sg_iast hx hb hK hP hD hS (hM.1 10 rfl) (vp_r (a := j) rfl hj (by decide)) dX3_buy_252 (fun H locs hP hD hS => ?_)
            have hM := hM.a10 (k := ((nI j)).toNatClampNeg) (v := (sS (uI (buy2 M j) 12 ((nI j)).toNatClampNeg (((sI (buy2 M j) 12 ((nI j)).toNatClampNeg) + 0))) 0))
            refine lv_aload_n hx hb dX3_buy_253 rfl (lv_at hl 8 rfl) ?_
            refine va_get (ref := RX3) (v := .ref (ad 11)) hx hb hts wi_X3_buy hown hK (sg_one hP (hM.1 0 rfl)) 0 rfl rfl 11 (by decide) (hts (.fieldLink RX3 44 RX3 "times" "[I") (by decide +kernel)) (fun _ h => h) rfl dX3_buy_254 ?_
            refine lv_iload_n hx hb dX3_buy_257 rfl (lv_at hl 9 rfl) ?_
            refine lv_iconst (v := 0) hx hb dX3_buy_258 (by decide) ?_
            refine sg_iast hx hb hK hP hD hS (hM.1 11 rfl) (vp_r (a := j) rfl hj (by decide)) dX3_buy_259 (fun H locs hP hD hS => ?_)
            have hM := hM.a11 (k := ((nI j)).toNatClampNeg) (v := 0)
            exact sg_vret hx hb hr hlocks hP hD hS (Nat.le_of_ble_eq_true rfl) (Nat.le_of_ble_eq_true rfl) dX3_buy_260 (hM.to (by rw [buyM, if_pos (show _ by first | exact Or.inl (by rw [ev21, ev11, hcj] at c211; exact c211) | exact Or.inr (by rw [hcj, buy2_11] at c221; exact c221)), if_neg (by have c9 := Int32.not_lt.mpr c233; rw [ev21, ev11, hcj] at c9; exact c9), hcj, buy2_I (by decide) (by decide)]; simp only [sS_uI, buy2_S]))
          · skip
            refine lv_iconst (v := 1) hx hb dX3_buy_236 (by decide) ?_
            refine lv_goto (tgt := 241) hx hb dX3_buy_237 (by decide) ?_
            refine lv_iadd hx hb dX3_buy_241 ?_
            refine sg_iast hx hb hK hP hD hS (hM.1 12 rfl) (vp_r (a := j) rfl hj (by decide)) dX3_buy_242 (fun H locs hP hD hS => ?_)
            have hM := hM.a12 (k := ((nI j)).toNatClampNeg) (v := ((sI (buy2 M j) 12 ((nI j)).toNatClampNeg) + 1))
            refine lv_aload_n hx hb dX3_buy_243 rfl (lv_at hl 8 rfl) ?_
            refine va_get (ref := RX3) (v := .ref (ad 10)) hx hb hts wi_X3_buy hown hK (sg_one hP (hM.1 0 rfl)) 0 rfl rfl 10 (by decide) (hts (.fieldLink RX3 41 RX3 "first" "[I") (by decide +kernel)) (fun _ h => h) rfl dX3_buy_244 ?_
            refine lv_iload_n hx hb dX3_buy_247 rfl (lv_at hl 9 rfl) ?_
            refine lv_aload_n hx hb dX3_buy_248 rfl (lv_at hl 8 rfl) ?_
            refine va_get (ref := RX3) (v := .int (sS (uI (buy2 M j) 12 ((nI j)).toNatClampNeg (((sI (buy2 M j) 12 ((nI j)).toNatClampNeg) + 1))) 0)) hx hb hts wi_X3_buy hown hK (sg_one hP (hM.1 0 rfl)) 0 rfl rfl 0 (by decide) (hts (.fieldLink RX3 9 RX3 "month" "I") (by decide +kernel)) (fun _ h => h) rfl dX3_buy_249 ?_
            refine sg_iast hx hb hK hP hD hS (hM.1 10 rfl) (vp_r (a := j) rfl hj (by decide)) dX3_buy_252 (fun H locs hP hD hS => ?_)
            have hM := hM.a10 (k := ((nI j)).toNatClampNeg) (v := (sS (uI (buy2 M j) 12 ((nI j)).toNatClampNeg (((sI (buy2 M j) 12 ((nI j)).toNatClampNeg) + 1))) 0))
            refine lv_aload_n hx hb dX3_buy_253 rfl (lv_at hl 8 rfl) ?_
            refine va_get (ref := RX3) (v := .ref (ad 11)) hx hb hts wi_X3_buy hown hK (sg_one hP (hM.1 0 rfl)) 0 rfl rfl 11 (by decide) (hts (.fieldLink RX3 44 RX3 "times" "[I") (by decide +kernel)) (fun _ h => h) rfl dX3_buy_254 ?_
            refine lv_iload_n hx hb dX3_buy_257 rfl (lv_at hl 9 rfl) ?_
            refine lv_iconst (v := 0) hx hb dX3_buy_258 (by decide) ?_
            refine sg_iast hx hb hK hP hD hS (hM.1 11 rfl) (vp_r (a := j) rfl hj (by decide)) dX3_buy_259 (fun H locs hP hD hS => ?_)
            have hM := hM.a11 (k := ((nI j)).toNatClampNeg) (v := 0)
            exact sg_vret hx hb hr hlocks hP hD hS (Nat.le_of_ble_eq_true rfl) (Nat.le_of_ble_eq_true rfl) dX3_buy_260 (hM.to (by rw [buyM, if_pos (show _ by first | exact Or.inl (by rw [ev21, ev11, hcj] at c211; exact c211) | exact Or.inr (by rw [hcj, buy2_11] at c221; exact c221)), if_pos (by have c9 := Int32.not_le.mp c233; rw [ev21, ev11, hcj] at c9; exact c9), hcj, buy2_I (by decide) (by decide)]; simp only [sS_uI, buy2_S]))
        · skip
          refine lv_aload_n hx hb dX3_buy_214 rfl (lv_at hl 8 rfl) ?_
          refine va_get (ref := RX3) (v := .ref (ad 11)) hx hb hts wi_X3_buy hown hK (sg_one hP (hM.1 0 rfl)) 0 rfl rfl 11 (by decide) (hts (.fieldLink RX3 44 RX3 "times" "[I") (by decide +kernel)) (fun _ h => h) rfl dX3_buy_215 ?_
          refine lv_iload_n hx hb dX3_buy_218 rfl (lv_at hl 9 rfl) ?_
          refine va_iald hx hb hK (sg_one hP (hM.1 11 rfl)) 0 0 rfl rfl (vp_r (a := j) rfl hj (by decide)) dX3_buy_219 ?_
          refine lv_iconst (v := 4) hx hb dX3_buy_220 (by decide) ?_
          refine lv_icmp_ne (tgt := 260) hx hb dX3_buy_221 (by decide) (fun c221 => ?_) (fun c221 => ?_)
          · skip
            exact sg_vret hx hb hr hlocks hP hD hS (Nat.le_of_ble_eq_true rfl) (Nat.le_of_ble_eq_true rfl) dX3_buy_260 (hM.to (by rw [buyM, if_neg (by rintro (h | h); exact c211 (by rw [ev21, ev11, hcj]; exact h); exact c221 (by rw [hcj, buy2_11]; exact h))]))
          · skip
            refine lv_aload_n hx hb dX3_buy_224 rfl (lv_at hl 8 rfl) ?_
            refine va_get (ref := RX3) (v := .ref (ad 12)) hx hb hts wi_X3_buy hown hK (sg_one hP (hM.1 0 rfl)) 0 rfl rfl 12 (by decide) (hts (.fieldLink RX3 47 RX3 "resets" "[I") (by decide +kernel)) (fun _ h => h) rfl dX3_buy_225 ?_
            refine lv_iload_n hx hb dX3_buy_228 rfl (lv_at hl 9 rfl) ?_
            refine lv_dup2_11 hx hb dX3_buy_229 rfl rfl ?_
            refine va_iald hx hb hK (sg_one hP (hM.1 12 rfl)) 0 0 rfl rfl (vp_r (a := j) rfl hj (by decide)) dX3_buy_230 ?_
            refine lv_iload_n hx hb dX3_buy_231 rfl (lv_at hl 6 rfl) ?_
            refine lv_iload_n hx hb dX3_buy_232 rfl (lv_at hl 7 rfl) ?_
            refine lv_icmp_ge (tgt := 240) hx hb dX3_buy_233 (by decide) (fun c233 => ?_) (fun c233 => ?_)
            · skip
              refine lv_iconst (v := 0) hx hb dX3_buy_240 (by decide) ?_
              refine lv_iadd hx hb dX3_buy_241 ?_
              refine sg_iast hx hb hK hP hD hS (hM.1 12 rfl) (vp_r (a := j) rfl hj (by decide)) dX3_buy_242 (fun H locs hP hD hS => ?_)
              have hM := hM.a12 (k := ((nI j)).toNatClampNeg) (v := ((sI (buy2 M j) 12 ((nI j)).toNatClampNeg) + 0))
              refine lv_aload_n hx hb dX3_buy_243 rfl (lv_at hl 8 rfl) ?_
              refine va_get (ref := RX3) (v := .ref (ad 10)) hx hb hts wi_X3_buy hown hK (sg_one hP (hM.1 0 rfl)) 0 rfl rfl 10 (by decide) (hts (.fieldLink RX3 41 RX3 "first" "[I") (by decide +kernel)) (fun _ h => h) rfl dX3_buy_244 ?_
              refine lv_iload_n hx hb dX3_buy_247 rfl (lv_at hl 9 rfl) ?_
              refine lv_aload_n hx hb dX3_buy_248 rfl (lv_at hl 8 rfl) ?_
              refine va_get (ref := RX3) (v := .int (sS (uI (buy2 M j) 12 ((nI j)).toNatClampNeg (((sI (buy2 M j) 12 ((nI j)).toNatClampNeg) + 0))) 0)) hx hb hts wi_X3_buy hown hK (sg_one hP (hM.1 0 rfl)) 0 rfl rfl 0 (by decide) (hts (.fieldLink RX3 9 RX3 "month" "I") (by decide +kernel)) (fun _ h => h) rfl dX3_buy_249 ?_
              refine sg_iast hx hb hK hP hD hS (hM.1 10 rfl) (vp_r (a := j) rfl hj (by decide)) dX3_buy_252 (fun H locs hP hD hS => ?_)
              have hM := hM.a10 (k := ((nI j)).toNatClampNeg) (v := (sS (uI (buy2 M j) 12 ((nI j)).toNatClampNeg (((sI (buy2 M j) 12 ((nI j)).toNatClampNeg) + 0))) 0))
              refine lv_aload_n hx hb dX3_buy_253 rfl (lv_at hl 8 rfl) ?_
              refine va_get (ref := RX3) (v := .ref (ad 11)) hx hb hts wi_X3_buy hown hK (sg_one hP (hM.1 0 rfl)) 0 rfl rfl 11 (by decide) (hts (.fieldLink RX3 44 RX3 "times" "[I") (by decide +kernel)) (fun _ h => h) rfl dX3_buy_254 ?_
              refine lv_iload_n hx hb dX3_buy_257 rfl (lv_at hl 9 rfl) ?_
              refine lv_iconst (v := 0) hx hb dX3_buy_258 (by decide) ?_
              refine sg_iast hx hb hK hP hD hS (hM.1 11 rfl) (vp_r (a := j) rfl hj (by decide)) dX3_buy_259 (fun H locs hP hD hS => ?_)
              have hM := hM.a11 (k := ((nI j)).toNatClampNeg) (v := 0)
              exact sg_vret hx hb hr hlocks hP hD hS (Nat.le_of_ble_eq_true rfl) (Nat.le_of_ble_eq_true rfl) dX3_buy_260 (hM.to (by rw [buyM, if_pos (show _ by first | exact Or.inl (by rw [ev21, ev11, hcj] at c211; exact c211) | exact Or.inr (by rw [hcj, buy2_11] at c221; exact c221)), if_neg (by have c9 := Int32.not_lt.mpr c233; rw [ev21, ev11, hcj] at c9; exact c9), hcj, buy2_I (by decide) (by decide)]; simp only [sS_uI, buy2_S]))
            · skip
              refine lv_iconst (v := 1) hx hb dX3_buy_236 (by decide) ?_
              refine lv_goto (tgt := 241) hx hb dX3_buy_237 (by decide) ?_
              refine lv_iadd hx hb dX3_buy_241 ?_
              refine sg_iast hx hb hK hP hD hS (hM.1 12 rfl) (vp_r (a := j) rfl hj (by decide)) dX3_buy_242 (fun H locs hP hD hS => ?_)
              have hM := hM.a12 (k := ((nI j)).toNatClampNeg) (v := ((sI (buy2 M j) 12 ((nI j)).toNatClampNeg) + 1))
              refine lv_aload_n hx hb dX3_buy_243 rfl (lv_at hl 8 rfl) ?_
              refine va_get (ref := RX3) (v := .ref (ad 10)) hx hb hts wi_X3_buy hown hK (sg_one hP (hM.1 0 rfl)) 0 rfl rfl 10 (by decide) (hts (.fieldLink RX3 41 RX3 "first" "[I") (by decide +kernel)) (fun _ h => h) rfl dX3_buy_244 ?_
              refine lv_iload_n hx hb dX3_buy_247 rfl (lv_at hl 9 rfl) ?_
              refine lv_aload_n hx hb dX3_buy_248 rfl (lv_at hl 8 rfl) ?_
              refine va_get (ref := RX3) (v := .int (sS (uI (buy2 M j) 12 ((nI j)).toNatClampNeg (((sI (buy2 M j) 12 ((nI j)).toNatClampNeg) + 1))) 0)) hx hb hts wi_X3_buy hown hK (sg_one hP (hM.1 0 rfl)) 0 rfl rfl 0 (by decide) (hts (.fieldLink RX3 9 RX3 "month" "I") (by decide +kernel)) (fun _ h => h) rfl dX3_buy_249 ?_
              refine sg_iast hx hb hK hP hD hS (hM.1 10 rfl) (vp_r (a := j) rfl hj (by decide)) dX3_buy_252 (fun H locs hP hD hS => ?_)
              have hM := hM.a10 (k := ((nI j)).toNatClampNeg) (v := (sS (uI (buy2 M j) 12 ((nI j)).toNatClampNeg (((sI (buy2 M j) 12 ((nI j)).toNatClampNeg) + 1))) 0))
              refine lv_aload_n hx hb dX3_buy_253 rfl (lv_at hl 8 rfl) ?_
              refine va_get (ref := RX3) (v := .ref (ad 11)) hx hb hts wi_X3_buy hown hK (sg_one hP (hM.1 0 rfl)) 0 rfl rfl 11 (by decide) (hts (.fieldLink RX3 44 RX3 "times" "[I") (by decide +kernel)) (fun _ h => h) rfl dX3_buy_254 ?_
              refine lv_iload_n hx hb dX3_buy_257 rfl (lv_at hl 9 rfl) ?_
              refine lv_iconst (v := 0) hx hb dX3_buy_258 (by decide) ?_
              refine sg_iast hx hb hK hP hD hS (hM.1 11 rfl) (vp_r (a := j) rfl hj (by decide)) dX3_buy_259 (fun H locs hP hD hS => ?_)
              have hM := hM.a11 (k := ((nI j)).toNatClampNeg) (v := 0)
              exact sg_vret hx hb hr hlocks hP hD hS (Nat.le_of_ble_eq_true rfl) (Nat.le_of_ble_eq_true rfl) dX3_buy_260 (hM.to (by rw [buyM, if_pos (show _ by first | exact Or.inl (by rw [ev21, ev11, hcj] at c211; exact c211) | exact Or.inr (by rw [hcj, buy2_11] at c221; exact c221)), if_pos (by have c9 := Int32.not_le.mp c233; rw [ev21, ev11, hcj] at c9; exact c9), hcj, buy2_I (by decide) (by decide)]; simp only [sS_uI, buy2_S]))
      · skip
        have hbe : v45 = bEach M j := by rw [ev45, elow9, ev11, ev21, hcj]; rfl
        have hbn : cnt9 = bN M j := by rw [ecnt9, ev68, ev79, er61, hbe, ev11, hcj, ht12]; rfl
        have hck : (nI (10 * j + tN (sS M 0) / 6)).toNatClampNeg = 10 * j + tN (sS M 0) / 6 := nI_clamp (by omega)
        refine lv_iload hx hb dX3_buy_125 (lv_at hl 1 rfl) ?_
        refine lv_if_le (tgt := 199) hx hb dX3_buy_127 (by decide) (fun c127 => ?_) (fun c127 => ?_)
        · skip
          exact k199 _ _ _ (hM.to (by rw [buy1, if_neg (by rw [← hbn]; exact Int32.not_lt.mpr c127)])) hP hD hS
        · skip
          refine lv_aload_n hx hb dX3_buy_130 rfl (lv_at hl 8 rfl) ?_
          refine va_get (ref := RX3) (v := .ref (ad 15)) hx hb hts wi_X3_buy hown hK (sg_one hP (hM.1 0 rfl)) 0 rfl rfl 15 (by decide) (hts (.fieldLink RX3 56 RX3 "bought" "[I") (by decide +kernel)) (fun _ h => h) rfl dX3_buy_131 ?_
          refine lv_iload hx hb dX3_buy_134 (lv_at hl 0 rfl) ?_
          refine lv_iload hx hb dX3_buy_136 (lv_at hl 1 rfl) ?_
          refine sg_iast hx hb hK hP hD hS (hM.1 15 rfl) (vp_in_nI (by omega) (by decide)) dX3_buy_138 (fun H locs hP hD hS => ?_)
          have hM := hM.a15 (k := ((nI (10 * j + tN (sS M 0) / 6))).toNatClampNeg) (v := cnt9)
          refine lv_aload_n hx hb dX3_buy_139 rfl (lv_at hl 8 rfl) ?_
          refine va_get (ref := RX3) (v := .ref (ad 16)) hx hb hts wi_X3_buy hown hK (sg_one hP (hM.1 0 rfl)) 0 rfl rfl 16 (by decide) (hts (.fieldLink RX3 59 RX3 "had" "[I") (by decide +kernel)) (fun _ h => h) rfl dX3_buy_140 ?_
          refine lv_iload hx hb dX3_buy_143 (lv_at hl 0 rfl) ?_
          refine lv_iload hx hb dX3_buy_145 (lv_at hl 1 rfl) ?_
          refine sg_iast hx hb hK hP hD hS (hM.1 16 rfl) (vp_in_nI (by omega) (by decide)) dX3_buy_147 (fun H locs hP hD hS => ?_)
          have hM := hM.a16 (k := ((nI (10 * j + tN (sS M 0) / 6))).toNatClampNeg) (v := cnt9)
          refine lv_aload_n hx hb dX3_buy_148 rfl (lv_at hl 8 rfl) ?_
          refine va_get (ref := RX3) (v := .ref (ad 17)) hx hb hts wi_X3_buy hown hK (sg_one hP (hM.1 0 rfl)) 0 rfl rfl 17 (by decide) (hts (.fieldLink RX3 62 RX3 "paid" "[I") (by decide +kernel)) (fun _ h => h) rfl dX3_buy_149 ?_
          refine lv_iload hx hb dX3_buy_152 (lv_at hl 0 rfl) ?_
          refine lv_iload hx hb dX3_buy_154 (lv_at hl 4 rfl) ?_
          refine sg_iast hx hb hK hP hD hS (hM.1 17 rfl) (vp_in_nI (by omega) (by decide)) dX3_buy_156 (fun H locs hP hD hS => ?_)
          have hM := hM.a17 (k := ((nI (10 * j + tN (sS M 0) / 6))).toNatClampNeg) (v := v45)
          refine lv_aload_n hx hb dX3_buy_157 rfl (lv_at hl 8 rfl) ?_
          refine va_get (ref := RX3) (v := .ref (ad 18)) hx hb hts wi_X3_buy hown hK (sg_one hP (hM.1 0 rfl)) 0 rfl rfl 18 (by decide) (hts (.fieldLink RX3 65 RX3 "offer" "[I") (by decide +kernel)) (fun _ h => h) rfl dX3_buy_158 ?_
          refine lv_iload hx hb dX3_buy_161 (lv_at hl 0 rfl) ?_
          refine lv_aload_n hx hb dX3_buy_163 rfl (lv_at hl 8 rfl) ?_
          refine va_get (ref := RX3) (v := .ref (ad 10)) hx hb hts wi_X3_buy hown hK (sg_one hP (hM.1 0 rfl)) 0 rfl rfl 10 (by decide) (hts (.fieldLink RX3 41 RX3 "first" "[I") (by decide +kernel)) (fun _ h => h) rfl dX3_buy_164 ?_
          refine lv_iload_n hx hb dX3_buy_167 rfl (lv_at hl 9 rfl) ?_
          refine va_iald hx hb hK (sg_one hP (hM.1 10 rfl)) 0 0 rfl rfl (vp_r (a := j) rfl hj (by decide)) dX3_buy_168 ?_
          refine sg_iast hx hb hK hP hD hS (hM.1 18 rfl) (vp_in_nI (by omega) (by decide)) dX3_buy_169 (fun H locs hP hD hS => ?_)
          have hM := hM.a18 (k := ((nI (10 * j + tN (sS M 0) / 6))).toNatClampNeg) (v := (sI (uI (uI (uI M 15 ((nI (10 * j + tN (sS M 0) / 6))).toNatClampNeg cnt9) 16 ((nI (10 * j + tN (sS M 0) / 6))).toNatClampNeg cnt9) 17 ((nI (10 * j + tN (sS M 0) / 6))).toNatClampNeg v45) 10 ((nI j)).toNatClampNeg))
          refine lv_aload_n hx hb dX3_buy_170 rfl (lv_at hl 8 rfl) ?_
          refine va_get (ref := RX3) (v := .ref (ad 6)) hx hb hts wi_X3_buy hown hK (sg_one hP (hM.1 0 rfl)) 0 rfl rfl 6 (by decide) (hts (.fieldLink RX3 28 RX3 "money" "[I") (by decide +kernel)) (fun _ h => h) rfl dX3_buy_171 ?_
          refine lv_iload_n hx hb dX3_buy_174 rfl (lv_at hl 9 rfl) ?_
          refine lv_dup2_11 hx hb dX3_buy_175 rfl rfl ?_
          refine va_iald hx hb hK (sg_one hP (hM.1 6 rfl)) 0 0 rfl rfl (vp_r (a := j) rfl hj (by decide)) dX3_buy_176 ?_
          refine lv_iload hx hb dX3_buy_177 (lv_at hl 1 rfl) ?_
          refine lv_iload hx hb dX3_buy_179 (lv_at hl 4 rfl) ?_
          refine lv_imul hx hb dX3_buy_181 ?_
          refine lv_isub hx hb dX3_buy_182 ?_
          refine sg_iast hx hb hK hP hD hS (hM.1 6 rfl) (vp_r (a := j) rfl hj (by decide)) dX3_buy_183 (fun H locs hP hD hS => ?_)
          have hM := hM.a6 (k := ((nI j)).toNatClampNeg) (v := ((sI (uI (uI (uI (uI M 15 ((nI (10 * j + tN (sS M 0) / 6))).toNatClampNeg cnt9) 16 ((nI (10 * j + tN (sS M 0) / 6))).toNatClampNeg cnt9) 17 ((nI (10 * j + tN (sS M 0) / 6))).toNatClampNeg v45) 18 ((nI (10 * j + tN (sS M 0) / 6))).toNatClampNeg ((sI (uI (uI (uI M 15 ((nI (10 * j + tN (sS M 0) / 6))).toNatClampNeg cnt9) 16 ((nI (10 * j + tN (sS M 0) / 6))).toNatClampNeg cnt9) 17 ((nI (10 * j + tN (sS M 0) / 6))).toNatClampNeg v45) 10 ((nI j)).toNatClampNeg))) 6 ((nI j)).toNatClampNeg) - (cnt9 * v45)))
          refine lv_aload_n hx hb dX3_buy_184 rfl (lv_at hl 8 rfl) ?_
          refine va_get (ref := RX3) (v := .ref (ad 8)) hx hb hts wi_X3_buy hown hK (sg_one hP (hM.1 0 rfl)) 0 rfl rfl 8 (by decide) (hts (.fieldLink RX3 34 RX3 "spent" "[J") (by decide +kernel)) (fun _ h => h) rfl dX3_buy_185 ?_
          refine lv_iload_n hx hb dX3_buy_188 rfl (lv_at hl 9 rfl) ?_
          refine lv_dup2_11 hx hb dX3_buy_189 rfl rfl ?_
          refine va_lald hx hb hK (sg_one hP (hM.1 8 rfl)) 0 1 rfl rfl (vp_r (a := j) rfl hj (by decide)) dX3_buy_190 ?_
          refine lv_iload hx hb dX3_buy_191 (lv_at hl 1 rfl) ?_
          refine lv_iload hx hb dX3_buy_193 (lv_at hl 4 rfl) ?_
          refine lv_imul hx hb dX3_buy_195 ?_
          refine lv_i2l hx hb dX3_buy_196 rfl ?_
          refine lv_ladd hx hb dX3_buy_197 ?_
          refine sg_last hx hb hK hP hD hS (hM.1 8 rfl) (vp_r (a := j) rfl hj (by decide)) dX3_buy_198 (fun H locs hP hD hS => ?_)
          have hM := hM.a8 (k := ((nI j)).toNatClampNeg) (v := ((sL (uI (uI (uI (uI (uI M 15 ((nI (10 * j + tN (sS M 0) / 6))).toNatClampNeg cnt9) 16 ((nI (10 * j + tN (sS M 0) / 6))).toNatClampNeg cnt9) 17 ((nI (10 * j + tN (sS M 0) / 6))).toNatClampNeg v45) 18 ((nI (10 * j + tN (sS M 0) / 6))).toNatClampNeg ((sI (uI (uI (uI M 15 ((nI (10 * j + tN (sS M 0) / 6))).toNatClampNeg cnt9) 16 ((nI (10 * j + tN (sS M 0) / 6))).toNatClampNeg cnt9) 17 ((nI (10 * j + tN (sS M 0) / 6))).toNatClampNeg v45) 10 ((nI j)).toNatClampNeg))) 6 ((nI j)).toNatClampNeg (((sI (uI (uI (uI (uI M 15 ((nI (10 * j + tN (sS M 0) / 6))).toNatClampNeg cnt9) 16 ((nI (10 * j + tN (sS M 0) / 6))).toNatClampNeg cnt9) 17 ((nI (10 * j + tN (sS M 0) / 6))).toNatClampNeg v45) 18 ((nI (10 * j + tN (sS M 0) / 6))).toNatClampNeg ((sI (uI (uI (uI M 15 ((nI (10 * j + tN (sS M 0) / 6))).toNatClampNeg cnt9) 16 ((nI (10 * j + tN (sS M 0) / 6))).toNatClampNeg cnt9) 17 ((nI (10 * j + tN (sS M 0) / 6))).toNatClampNeg v45) 10 ((nI j)).toNatClampNeg))) 6 ((nI j)).toNatClampNeg) - (cnt9 * v45)))) 8 ((nI j)).toNatClampNeg) + ((cnt9 * v45)).toInt64))
          exact k199 _ _ _ (hM.to (by rw [buy1, if_pos (by rw [← hbn]; exact Int32.not_le.mp c127), ← hbn, ← hbe, hck, hcj]; rfl)) hP hD hS
    · skip
      refine lv_lload hx hb dX3_buy_81 (lv_at hl 1 rfl) ?_
      refine lv_lconst (v := 0) hx hb dX3_buy_83 (by decide) ?_
      refine W.lcmp hx hb dX3_buy_84 ?_
      refine lv_if_ge (tgt := 92) hx hb dX3_buy_85 (by decide) (fun c85 => ?_) (fun c85 => ?_)
      · skip
        refine lv_lload hx hb dX3_buy_92 (lv_at hl 1 rfl) ?_
        refine lv_iload hx hb dX3_buy_94 (lv_at hl 0 rfl) ?_
        refine lv_i2l hx hb dX3_buy_96 rfl ?_
        refine W.lcmp hx hb dX3_buy_97 ?_
        refine lv_if_ge (tgt := 107) hx hb dX3_buy_98 (by decide) (fun c98 => ?_) (fun c98 => ?_)
        · skip
          refine lv_iload hx hb dX3_buy_107 (lv_at hl 0 rfl) ?_
          exact k109 _ _ _ _ (⟨by simp only [lg_cmp_ge, Int64.not_le] at *; grind [Int64.not_le, Int64.not_lt], hM⟩) hP hD hS
        · skip
          refine lv_lload hx hb dX3_buy_101 (lv_at hl 1 rfl) ?_
          refine lv_l2i hx hb dX3_buy_103 rfl ?_
          refine lv_goto (tgt := 109) hx hb dX3_buy_104 (by decide) ?_
          exact k109 _ _ _ _ (⟨by simp only [lg_cmp_ge, Int64.not_le] at *; grind [Int64.not_le, Int64.not_lt], hM⟩) hP hD hS
      · skip
        refine lv_iconst (v := 0) hx hb dX3_buy_88 (by decide) ?_
        refine lv_goto (tgt := 109) hx hb dX3_buy_89 (by decide) ?_
        exact k109 _ _ _ _ (⟨by simp only [lg_cmp_ge, Int64.not_le] at *; grind [Int64.not_le, Int64.not_lt], hM⟩) hP hD hS
  · skip
    refine lv_iload_n hx hb dX3_buy_22 rfl (lv_at hl 1 rfl) ?_
    refine lv_iload_n hx hb dX3_buy_23 rfl (lv_at hl 0 rfl) ?_
    refine lv_icmp_ge (tgt := 31) hx hb dX3_buy_24 (by decide) (fun c24 => ?_) (fun c24 => ?_)
    · skip
      refine lv_iload_n hx hb dX3_buy_31 rfl (lv_at hl 0 rfl) ?_
      exact k32 _ _ _ _ (⟨by grind [Int32.not_le, Int32.not_lt], hM⟩) hP hD hS
    · skip
      refine lv_iload_n hx hb dX3_buy_27 rfl (lv_at hl 1 rfl) ?_
      refine lv_goto (tgt := 32) hx hb dX3_buy_28 (by decide) ?_
      exact k32 _ _ _ _ (⟨by grind [Int32.not_le, Int32.not_lt], hM⟩) hP hD hS
