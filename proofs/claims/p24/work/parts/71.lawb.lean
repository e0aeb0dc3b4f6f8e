/-! THE LAW'S READERS: what counts in a year, what is early, what is pay of a share -/
def tmL (G : ZG) (q : Nat) : Int64 := (gI G 3 q).toInt64 * (gI G 1 (tN (gI G 6 q))).toInt64
def cntL (G : ZG) (j y : Nat) : Nat → Int64
  | 0 => 0
  | k + 1 => cntL G j y k + (if (6 * k + 5) / 12 = y then tmL G (10 * j + k) else 0)
def frng (G : ZG) : Prop := ∀ q, q < 40 → ∃ o : Nat, o < 60 ∧ gI G 6 q = nI o
def eLb (t o q : Nat) : Int32 := if t - 1 < o + 24 ∨ t - 1 < 6 * (q % 10) + 5 + 12 then nI 1 else nI 0
def pqL (t o q w1 w2 w3 w4 : Nat) : Int32 := if t - 1 < o + 24 ∨ t - 1 < 6 * (q % 10) + 5 + 12 then nI w1 - nI w2 else if nI w4 - nI w2 ≤ 0 then nI 0 else if nI (15 * w3 / 100) ≤ nI w4 - nI w2 then nI (15 * w3 / 100) else nI w4 - nI w2
set_option maxHeartbeats 4000000 in
set_option maxRecDepth 100000 in
theorem c_L_counted (l : Launch) (D : va_G) (Y : Nat → ClassId) (σ : sg_W) (sz : Nat) (ad : Nat → Nat) (G : ZG) (j y : Nat) (hj : j < 4) (hy : y < 2 ^ 31) (hG : ZF Y ad σ G σ) (hf : frng G) : Met l yL_counted wsL_counted ({ frames := 0, cells := 0, slots := 0, locals := 0 } : Room) (va_Pc [.ref (ad 1), .ref (ad 3), .ref (ad 6), .int (nI j), .int (nI y)] (sg_U D Y σ sz)) (va_Ql (fun r σ' => r = cntL G j y 10 ∧ σ = σ') (sg_B D σ sz) (sg_A σ sz)) 0 0 (sg_A σ sz) := by
  refine sg_met (cc := cL_counted) (maxL := 8) (ret := (some .long)) (by decide) rfl (Nat.le_of_ble_eq_true rfl) ?_
  intro p e s m below meth cd9 ls hx hb hml hr hown hts hlocks hnm hP hK hD hN hX hA hS hsz hl
  have hl : lv_has ls 8 [(0, .ref (ad 1)), (1, .ref (ad 3)), (2, .ref (ad 6)), (3, .int (nI j)), (4, .int (nI y))] := hl
  refine lv_lconst (v := 0) hx hb dL_counted_0 (by decide) ?_
  refine lv_lstore (lv' := [(5, .long 0), (0, .ref (ad 1)), (1, .ref (ad 3)), (2, .ref (ad 6)), (3, .int (nI j)), (4, .int (nI y))]) hx hb dL_counted_1 hl (by decide) rfl (fun ls hl => ?_)
  refine lv_iconst (v := nI 0) hx hb dL_counted_3 (by decide) ?_
  refine lv_istore (lv' := [(7, .int (nI 0)), (5, .long 0), (0, .ref (ad 1)), (1, .ref (ad 3)), (2, .ref (ad 6)), (3, .int (nI j)), (4, .int (nI y))]) hx hb dL_counted_4 hl (by decide) rfl (fun ls hl => ?_)
  refine sg_loop (D := D) (H0 := s.heap) (T := Nat) 6 8 (fun n1 q σ' c' s' => n1 + q = 10 ∧ σ = σ' ∧ c' = 0 ∧ s' = 0) (fun q => [(7, .int (nI q)), (5, .long (cntL G j y q)), (0, .ref (ad 1)), (1, .ref (ad 3)), (2, .ref (ad 6)), (3, .int (nI j)), (4, .int (nI y))]) ?_ (10) (0) _ _ _ _ _ _ (⟨rfl, rfl, rfl, rfl⟩) hP hD hS (lv_sub hl [0, 1, 2, 3, 4, 5, 6] rfl)
  intro n1 q σ' cells slots H locs ls ih hI hP hD hS hl
  obtain ⟨hn, rfl, rfl, rfl⟩ := hI
  have hl : lv_has ls 8 [(7, .int (nI q)), (5, .long (cntL G j y q)), (0, .ref (ad 1)), (1, .ref (ad 3)), (2, .ref (ad 6)), (3, .int (nI j)), (4, .int (nI y))] := hl
  refine lv_iload hx hb dL_counted_6 (lv_at hl 0 rfl) ?_
  refine lv_bipush (v := nI 10) hx hb dL_counted_8 (by decide) ?_
  refine lw_icmp_ge (tgt := 66) (a := q) (b := 10) hx hb dL_counted_10 (by decide) (by omega) (by omega) (fun c10 => ?_) (fun c10 => ?_)
  · obtain rfl : q = 10 := by omega
    refine lv_lload hx hb dL_counted_66 (lv_at hl 1 rfl) ?_
    exact sg_lret hx hb hr hlocks hP hD hS (Nat.le_of_ble_eq_true rfl) (Nat.le_of_ble_eq_true rfl) dL_counted_68 ⟨rfl, rfl⟩
  · obtain ⟨o, ho, eo⟩ := hf (10 * j + q) (by omega)
    refine lv_lload hx hb dL_counted_13 (lv_at hl 1 rfl) ?_
    refine lv_bipush (v := nI 6) hx hb dL_counted_15 (by decide) ?_
    refine lv_iload hx hb dL_counted_17 (lv_at hl 0 rfl) ?_
    refine lw_imul (a := 6) (b := q) hx hb dL_counted_19 ?_
    refine lv_iconst (v := nI 5) hx hb dL_counted_20 (by decide) ?_
    refine lw_iadd (a := 6 * q) (b := 5) hx hb dL_counted_21 ?_
    refine lv_bipush (v := nI 12) hx hb dL_counted_22 (by decide) ?_
    refine lw_idiv (a := (6 * q) + 5) (b := 12) hx hb dL_counted_24 (by omega) (by decide) (by decide) ?_
    refine lv_iload hx hb dL_counted_25 (lv_at hl 6 rfl) ?_
    refine lw_icmp_ne (tgt := 56) (a := ((6 * q) + 5) / 12) (b := y) hx hb dL_counted_27 (by decide) (by omega) (by omega) (fun c27 => ?_) (fun c27 => ?_)
    · skip
      refine lv_lconst (v := 0) hx hb dL_counted_56 (by decide) ?_
      refine lv_ladd hx hb dL_counted_57 ?_
      refine lw_long (y := cntL G j y (q + 1)) (by rw [cntL, if_neg c27]) ?_
      refine lv_lstore (lv' := [(5, .long (cntL G j y (q + 1))), (7, .int (nI q)), (0, .ref (ad 1)), (1, .ref (ad 3)), (2, .ref (ad 6)), (3, .int (nI j)), (4, .int (nI y))]) hx hb dL_counted_58 hl (by decide) rfl (fun ls hl => ?_)
      refine lv_iinc (v := nI (q + 1)) (lv' := [(7, .int (nI (q + 1))), (5, .long (cntL G j y (q + 1))), (0, .ref (ad 1)), (1, .ref (ad 3)), (2, .ref (ad 6)), (3, .int (nI j)), (4, .int (nI y))]) hx hb dL_counted_60 hl (k := 1) rfl (nI_1 _) (by decide) rfl (fun ls hl => ?_)
      refine lv_goto (tgt := 6) hx hb dL_counted_63 (by decide) ?_
      exact ih (n1 - 1) (q + 1) _ _ _ _ _ _ (by omega) ⟨by omega, rfl, rfl, rfl⟩ hP hD hS (lv_sub hl [0, 1, 2, 3, 4, 5, 6] rfl)
    · skip
      refine lv_aload_n hx hb dL_counted_30 rfl (lv_at hl 3 rfl) ?_
      refine lv_bipush (v := nI 10) hx hb dL_counted_31 (by decide) ?_
      refine lv_iload_n hx hb dL_counted_33 rfl (lv_at hl 5 rfl) ?_
      refine lw_imul (a := 10) (b := j) hx hb dL_counted_34 ?_
      refine lv_iload hx hb dL_counted_35 (lv_at hl 0 rfl) ?_
      refine lw_iadd (a := 10 * j) (b := q) hx hb dL_counted_37 ?_
      refine lw_iald hx hb hK hP hG.a3 (k := (10 * j) + q) (by omega) (v := gI G 3 ((10 * j) + q)) (rfl) dL_counted_38 ?_
      refine lv_i2l hx hb dL_counted_39 rfl ?_
      refine lv_aload_n hx hb dL_counted_40 rfl (lv_at hl 2 rfl) ?_
      refine lv_aload_n hx hb dL_counted_41 rfl (lv_at hl 4 rfl) ?_
      refine lv_bipush (v := nI 10) hx hb dL_counted_42 (by decide) ?_
      refine lv_iload_n hx hb dL_counted_44 rfl (lv_at hl 5 rfl) ?_
      refine lw_imul (a := 10) (b := j) hx hb dL_counted_45 ?_
      refine lv_iload hx hb dL_counted_46 (lv_at hl 0 rfl) ?_
      refine lw_iadd (a := 10 * j) (b := q) hx hb dL_counted_48 ?_
      refine lw_iald hx hb hK hP hG.a6 (k := (10 * j) + q) (by omega) (v := nI o) (eo) dL_counted_49 ?_
      refine lw_iald hx hb hK hP hG.a1 (k := o) (by omega) (v := gI G 1 o) (rfl) dL_counted_50 ?_
      refine lv_i2l hx hb dL_counted_51 rfl ?_
      refine lv_lmul hx hb dL_counted_52 ?_
      refine lv_goto (tgt := 57) hx hb dL_counted_53 (by decide) ?_
      refine lv_ladd hx hb dL_counted_57 ?_
      refine lw_long (y := cntL G j y (q + 1)) (by rw [cntL, if_pos c27, tmL, eo, tN, nI_clamp (by omega)]) ?_
      refine lv_lstore (lv' := [(5, .long (cntL G j y (q + 1))), (7, .int (nI q)), (0, .ref (ad 1)), (1, .ref (ad 3)), (2, .ref (ad 6)), (3, .int (nI j)), (4, .int (nI y))]) hx hb dL_counted_58 hl (by decide) rfl (fun ls hl => ?_)
      refine lv_iinc (v := nI (q + 1)) (lv' := [(7, .int (nI (q + 1))), (5, .long (cntL G j y (q + 1))), (0, .ref (ad 1)), (1, .ref (ad 3)), (2, .ref (ad 6)), (3, .int (nI j)), (4, .int (nI y))]) hx hb dL_counted_60 hl (k := 1) rfl (nI_1 _) (by decide) rfl (fun ls hl => ?_)
      refine lv_goto (tgt := 6) hx hb dL_counted_63 (by decide) ?_
      exact ih (n1 - 1) (q + 1) _ _ _ _ _ _ (by omega) ⟨by omega, rfl, rfl, rfl⟩ hP hD hS (lv_sub hl [0, 1, 2, 3, 4, 5, 6] rfl)

set_option maxHeartbeats 4000000 in
set_option maxRecDepth 100000 in
theorem c_L_isEarly (l : Launch) (D : va_G) (Y : Nat → ClassId) (σ : sg_W) (sz : Nat) (ad : Nat → Nat) (G : ZG) (t o q : Nat) (h0 : 0 < t) (ht : t ≤ 60) (ho : o < 60) (hq : q < 40) (e0 : gI G 0 0 = nI t) (eo : gI G 6 q = nI o) (hG : ZF Y ad σ G σ) : Met l yL_isEarly wsL_isEarly ({ frames := 0, cells := 0, slots := 0, locals := 0 } : Room) (va_Pc [.ref (ad 0), .ref (ad 6), .int (nI q)] (sg_U D Y σ sz)) (va_Qi (fun r σ' => r = eLb t o q ∧ σ = σ') (sg_B D σ sz) (sg_A σ sz)) 0 0 (sg_A σ sz) := by
  refine sg_met (cc := cL_isEarly) (maxL := 4) (ret := (some .boolean)) (by decide) rfl (Nat.le_of_ble_eq_true rfl) ?_
  intro p e s m below meth cd9 ls hx hb hml hr hown hts hlocks hnm hP hK hD hN hX hA hS hsz hl
  have hl : lv_has ls 4 [(0, .ref (ad 0)), (1, .ref (ad 6)), (2, .int (nI q))] := hl
  refine lv_aload_n hx hb dL_isEarly_0 rfl (lv_at hl 0 rfl) ?_
  refine lv_iconst (v := nI 0) hx hb dL_isEarly_1 (by decide) ?_
  refine lw_iald hx hb hK hP hG.a0 (k := 0) (by omega) (v := nI t) (e0) dL_isEarly_2 ?_
  refine lv_iconst (v := nI 1) hx hb dL_isEarly_3 (by decide) ?_
  refine lw_isub (a := t) (b := 1) hx hb dL_isEarly_4 (by omega) ?_
  refine lv_istore_n (lv' := [(3, .int (nI (t - 1))), (0, .ref (ad 0)), (1, .ref (ad 6)), (2, .int (nI q))]) hx hb dL_isEarly_5 rfl hl (by decide) rfl (fun ls hl => ?_)
  refine lv_iload_n hx hb dL_isEarly_6 rfl (lv_at hl 0 rfl) ?_
  refine lv_aload_n hx hb dL_isEarly_7 rfl (lv_at hl 2 rfl) ?_
  refine lv_iload_n hx hb dL_isEarly_8 rfl (lv_at hl 3 rfl) ?_
  refine lw_iald hx hb hK hP hG.a6 (k := q) (by omega) (v := nI o) (eo) dL_isEarly_9 ?_
  refine lv_bipush (v := nI 24) hx hb dL_isEarly_10 (by decide) ?_
  refine lw_iadd (a := o) (b := 24) hx hb dL_isEarly_12 ?_
  refine lw_icmp_lt (tgt := 32) (a := t - 1) (b := o + 24) hx hb dL_isEarly_13 (by decide) (by omega) (by omega) (fun c13 => ?_) (fun c13 => ?_)
  · have hE : eLb t o q = nI 1 := if_pos (Or.inl c13)
    refine lv_iconst (v := nI 1) hx hb dL_isEarly_32 (by decide) ?_
    refine lv_goto (tgt := 37) hx hb dL_isEarly_33 (by decide) ?_
    exact sg_iret hx hb hr rfl hlocks hP hD hS (Nat.le_of_ble_eq_true rfl) (Nat.le_of_ble_eq_true rfl) dL_isEarly_37 (⟨hE.symm, rfl⟩)
  · skip
    refine lv_iload_n hx hb dL_isEarly_16 rfl (lv_at hl 0 rfl) ?_
    refine lv_bipush (v := nI 6) hx hb dL_isEarly_17 (by decide) ?_
    refine lv_iload_n hx hb dL_isEarly_19 rfl (lv_at hl 3 rfl) ?_
    refine lv_bipush (v := nI 10) hx hb dL_isEarly_20 (by decide) ?_
    refine lw_irem (a := q) (b := 10) hx hb dL_isEarly_22 (by omega) (by decide) (by decide) ?_
    refine lw_imul (a := 6) (b := q % 10) hx hb dL_isEarly_23 ?_
    refine lv_iconst (v := nI 5) hx hb dL_isEarly_24 (by decide) ?_
    refine lw_iadd (a := 6 * (q % 10)) (b := 5) hx hb dL_isEarly_25 ?_
    refine lv_bipush (v := nI 12) hx hb dL_isEarly_26 (by decide) ?_
    refine lw_iadd (a := (6 * (q % 10)) + 5) (b := 12) hx hb dL_isEarly_28 ?_
    refine lw_icmp_ge (tgt := 36) (a := t - 1) (b := ((6 * (q % 10)) + 5) + 12) hx hb dL_isEarly_29 (by decide) (by omega) (by omega) (fun c29 => ?_) (fun c29 => ?_)
    · have hE : eLb t o q = nI 0 := if_neg (by omega)
      refine lv_iconst (v := nI 0) hx hb dL_isEarly_36 (by decide) ?_
      exact sg_iret hx hb hr rfl hlocks hP hD hS (Nat.le_of_ble_eq_true rfl) (Nat.le_of_ble_eq_true rfl) dL_isEarly_37 (⟨hE.symm, rfl⟩)
    · have hE : eLb t o q = nI 1 := if_pos (Or.inr (by omega))
      refine lv_iconst (v := nI 1) hx hb dL_isEarly_32 (by decide) ?_
      refine lv_goto (tgt := 37) hx hb dL_isEarly_33 (by decide) ?_
      exact sg_iret hx hb hr rfl hlocks hP hD hS (Nat.le_of_ble_eq_true rfl) (Nat.le_of_ble_eq_true rfl) dL_isEarly_37 (⟨hE.symm, rfl⟩)

set_option maxHeartbeats 4000000 in
set_option maxRecDepth 100000 in
theorem c_L_payEach (l : Launch) (D : va_G) (Y : Nat → ClassId) (σ : sg_W) (sz : Nat) (ad : Nat → Nat) (G : ZG) (t o q w1 w2 w3 w4 : Nat) (h0 : 0 < t) (ht : t ≤ 60) (ho : o < 60) (hq : q < 40) (e0 : gI G 0 0 = nI t) (eo : gI G 6 q = nI o) (hw : w1 ≤ 100000 ∧ w2 ≤ 100000 ∧ w3 ≤ 100000 ∧ w4 ≤ 100000) (e1 : gI G 1 (6 * (q % 10) + 5) = nI w1) (e2 : gI G 5 q = nI w2) (e3 : gI G 1 o = nI w3) (e4 : gI G 1 (t - 1) = nI w4) (hG : ZF Y ad σ G σ) : Met l yL_payEach wsL_payEach ({ frames := 1, cells := 0, slots := 0, locals := 23 } : Room) (va_Pc [.ref (ad 0), .ref (ad 1), .ref (ad 5), .ref (ad 6), .int (nI q)] (sg_U D Y σ sz)) (va_Qi (fun r σ' => r = pqL t o q w1 w2 w3 w4 ∧ σ = σ') (sg_B D σ sz) (sg_A σ sz)) 0 0 (sg_A σ sz) := by
  refine sg_met (cc := cL_payEach) (maxL := 7) (ret := (some .int)) (by decide) rfl (Nat.le_of_ble_eq_true rfl) ?_
  intro p e s m below meth cd9 ls hx hb hml hr hown hts hlocks hnm hP hK hD hN hX hA hS hsz hl
  have hl : lv_has ls 7 [(0, .ref (ad 0)), (1, .ref (ad 1)), (2, .ref (ad 5)), (3, .ref (ad 6)), (4, .int (nI q))] := hl
  refine lv_aload_n hx hb dL_payEach_0 rfl (lv_at hl 1 rfl) ?_
  refine lv_aload_n hx hb dL_payEach_1 rfl (lv_at hl 0 rfl) ?_
  refine lv_iconst (v := nI 0) hx hb dL_payEach_2 (by decide) ?_
  refine lw_iald hx hb hK hP hG.a0 (k := 0) (by omega) (v := nI t) (e0) dL_payEach_3 ?_
  refine lv_iconst (v := nI 1) hx hb dL_payEach_4 (by decide) ?_
  refine lw_isub (a := t) (b := 1) hx hb dL_payEach_5 (by omega) ?_
  refine lw_iald hx hb hK hP hG.a1 (k := t - 1) (by omega) (v := nI w4) (e4) dL_payEach_6 ?_
  refine lv_aload_n hx hb dL_payEach_7 rfl (lv_at hl 2 rfl) ?_
  refine lv_iload hx hb dL_payEach_8 (lv_at hl 4 rfl) ?_
  refine lw_iald hx hb hK hP hG.a5 (k := q) (by omega) (v := nI w2) (e2) dL_payEach_10 ?_
  refine lv_isub hx hb dL_payEach_11 ?_
  refine lv_istore (lv' := [(5, .int ((nI w4) - (nI w2))), (0, .ref (ad 0)), (1, .ref (ad 1)), (2, .ref (ad 5)), (3, .ref (ad 6)), (4, .int (nI q))]) hx hb dL_payEach_12 hl (by decide) rfl (fun ls hl => ?_)
  refine lv_aload_n hx hb dL_payEach_14 rfl (lv_at hl 1 rfl) ?_
  refine lv_aload_n hx hb dL_payEach_15 rfl (lv_at hl 4 rfl) ?_
  refine lv_iload hx hb dL_payEach_16 (lv_at hl 5 rfl) ?_
  refine sg_calli hD hS hA (va_runS (As := [.ref (ad 0), .ref (ad 6), .int (nI q)]) (rest := []) ⟨hx, hb, hml, hown, hts⟩ (c_L_isEarly l D Y _ _ ad G t o q h0 ht ho hq e0 eo hG) (va_cwS 3 hts gL_payEach_L_isEarly rfl rfl rfl (by decide +kernel) ⟨(Nat.le_of_ble_eq_true rfl), (Nat.le_of_ble_eq_true rfl)⟩) (sg_preS hK hP hD hN hX hS hA) rfl rfl hl.1 rfl (lv_room (Nat.le_of_ble_eq_true rfl)) dL_payEach_18 ⟨(Nat.le_of_ble_eq_true rfl), (Nat.le_of_ble_eq_true rfl)⟩) (fun r9 σ' H locs hw9 hP hD hS => ?_)
  obtain ⟨rfl, rfl⟩ := hw9
  refine lv_if_eq (tgt := 42) hx hb dL_payEach_21 (by decide) (fun c21 => ?_) (fun c21 => ?_)
  · have hE : ¬ (t - 1 < o + 24 ∨ t - 1 < 6 * (q % 10) + 5 + 12) := fun z => absurd ((if_pos z).symm.trans c21) (by decide)
    refine lv_bipush (v := nI 15) hx hb dL_payEach_42 (by decide) ?_
    refine lv_aload_n hx hb dL_payEach_44 rfl (lv_at hl 2 rfl) ?_
    refine lv_aload_n hx hb dL_payEach_45 rfl (lv_at hl 4 rfl) ?_
    refine lv_iload hx hb dL_payEach_46 (lv_at hl 5 rfl) ?_
    refine lw_iald hx hb hK hP hG.a6 (k := q) (by omega) (v := nI o) (eo) dL_payEach_48 ?_
    refine lw_iald hx hb hK hP hG.a1 (k := o) (by omega) (v := nI w3) (e3) dL_payEach_49 ?_
    refine lw_imul (a := 15) (b := w3) hx hb dL_payEach_50 ?_
    refine lv_bipush (v := nI 100) hx hb dL_payEach_51 (by decide) ?_
    refine lw_idiv (a := 15 * w3) (b := 100) hx hb dL_payEach_53 (by omega) (by decide) (by decide) ?_
    refine lv_istore (lv' := [(6, .int (nI ((15 * w3) / 100))), (5, .int ((nI w4) - (nI w2))), (0, .ref (ad 0)), (1, .ref (ad 1)), (2, .ref (ad 5)), (3, .ref (ad 6)), (4, .int (nI q))]) hx hb dL_payEach_54 hl (by decide) rfl (fun ls hl => ?_)
    refine lv_iload hx hb dL_payEach_56 (lv_at hl 1 rfl) ?_
    refine lv_if_gt (tgt := 65) hx hb dL_payEach_58 (by decide) (fun c58 => ?_) (fun c58 => ?_)
    · have hF : ¬ nI w4 - nI w2 ≤ 0 := by rw [Int32.le_iff_toInt_le]; rw [Int32.lt_iff_toInt_lt] at c58; omega
      refine lv_iload hx hb dL_payEach_65 (lv_at hl 1 rfl) ?_
      refine lv_iload hx hb dL_payEach_67 (lv_at hl 0 rfl) ?_
      refine lv_icmp_ge (tgt := 77) hx hb dL_payEach_69 (by decide) (fun c69 => ?_) (fun c69 => ?_)
      · skip
        refine lv_iload hx hb dL_payEach_77 (lv_at hl 0 rfl) ?_
        exact sg_iret hx hb hr rfl hlocks hP hD hS (Nat.le_of_ble_eq_true rfl) (Nat.le_of_ble_eq_true rfl) dL_payEach_79 (⟨by rw [pqL, if_neg hE, if_neg hF, if_pos c69], rfl⟩)
      · skip
        refine lv_iload hx hb dL_payEach_72 (lv_at hl 1 rfl) ?_
        refine lv_goto (tgt := 79) hx hb dL_payEach_74 (by decide) ?_
        exact sg_iret hx hb hr rfl hlocks hP hD hS (Nat.le_of_ble_eq_true rfl) (Nat.le_of_ble_eq_true rfl) dL_payEach_79 (⟨by rw [pqL, if_neg hE, if_neg hF, if_neg c69], rfl⟩)
    · have hF : nI w4 - nI w2 ≤ 0 := by rw [Int32.le_iff_toInt_le]; rw [Int32.lt_iff_toInt_lt] at c58; omega
      refine lv_iconst (v := nI 0) hx hb dL_payEach_61 (by decide) ?_
      refine lv_goto (tgt := 79) hx hb dL_payEach_62 (by decide) ?_
      exact sg_iret hx hb hr rfl hlocks hP hD hS (Nat.le_of_ble_eq_true rfl) (Nat.le_of_ble_eq_true rfl) dL_payEach_79 (⟨by rw [pqL, if_neg hE, if_pos hF], rfl⟩)
  · have hE : t - 1 < o + 24 ∨ t - 1 < 6 * (q % 10) + 5 + 12 := Decidable.byContradiction (fun z => c21 (if_neg z))
    refine lv_aload_n hx hb dL_payEach_24 rfl (lv_at hl 2 rfl) ?_
    refine lv_bipush (v := nI 6) hx hb dL_payEach_25 (by decide) ?_
    refine lv_iload hx hb dL_payEach_27 (lv_at hl 5 rfl) ?_
    refine lv_bipush (v := nI 10) hx hb dL_payEach_29 (by decide) ?_
    refine lw_irem (a := q) (b := 10) hx hb dL_payEach_31 (by omega) (by decide) (by decide) ?_
    refine lw_imul (a := 6) (b := q % 10) hx hb dL_payEach_32 ?_
    refine lv_iconst (v := nI 5) hx hb dL_payEach_33 (by decide) ?_
    refine lw_iadd (a := 6 * (q % 10)) (b := 5) hx hb dL_payEach_34 ?_
    refine lw_iald hx hb hK hP hG.a1 (k := (6 * (q % 10)) + 5) (by omega) (v := nI w1) (e1) dL_payEach_35 ?_
    refine lv_aload_n hx hb dL_payEach_36 rfl (lv_at hl 3 rfl) ?_
    refine lv_iload hx hb dL_payEach_37 (lv_at hl 5 rfl) ?_
    refine lw_iald hx hb hK hP hG.a5 (k := q) (by omega) (v := nI w2) (e2) dL_payEach_39 ?_
    refine lv_isub hx hb dL_payEach_40 ?_
    exact sg_iret hx hb hr rfl hlocks hP hD hS (Nat.le_of_ble_eq_true rfl) (Nat.le_of_ble_eq_true rfl) dL_payEach_41 (⟨by rw [pqL, if_pos hE], rfl⟩)
