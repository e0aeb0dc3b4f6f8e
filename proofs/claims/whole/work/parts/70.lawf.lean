/-! THE CLAIM OUT OF ONE WALK OF THE LAW'S BODY. Your part is whole_start (and what it stands on); all else here is the same for every law, but numbers. -/
def R_law : String := "LookbackPlanLaw"
def lw_P (b : Addr) (xs : List Int32) (args : Array Value) (s : State) : Prop := args = #[.ref b] ∧ s.IntsAt b xs ∧ xs.length ≤ 1536 ∧ (Jvm.Cond.and given_1 narrow_1).before args s = true
def lw_Q (_ : Array Value) (s : State) (o : Outcome) (t : State) : Prop := o = .returned (some (.int 1)) ∧ Framed s o t [] 601024 7293034
def lw_Z (below : List Frame) (a : Array Value) (s : State) : State → Prop := fun t => ∃ o, t.status = .running ∧ Ended t below o ∧ lw_Q a s o t
/-- the law's own end, with 1 on the stack, nothing written that was there before, its room as the claim has it -/
theorem lw_ret {p : Program} {l : Launch} {e : Env} {s : State} {m : MethodId} {below : List Frame} {meth : Method} {c : Code} {b : Nat} (hx : p.tables.exec = Jvm.exec) (hb : c.code = code) (hr : meth.sig.returnType = ret) (hlocks : meth.locks = false) {pc : Nat} {H : Heap} {ls : Array Slot} (hdg : decode code pc = .ok (.ireturn, 1)) : W p l e room_1 s m #[Value.ref b] below meth c H [] 601024 7293034 (lw_Z below #[Value.ref b] s) (F0 m pc ls [.int 1]) := by
  intro T hT X
  obtain ⟨fs, hret, hrun, hended, hW, hframe⟩ := X.leave (v := some (.int 1)) (hlocks := hlocks) (fun h => by rw [hr] at h; cases h)
  have hmeth' : T.vm.method? m = some meth := X.method'
  refine ⟨T.setFrames fs, ?_, .returned (some (.int 1)), hrun, hended, rfl, ⟨_, rfl⟩, hW, hframe⟩
  jvm_step X.here [X.here.top, hx, hb, hdg, hmeth', hr, ret, narrow_b1]
  (try refine ⟨rfl, ?_⟩); (try refine ⟨rfl, ?_⟩)
  first | (intro acts; rw [hret _ acts rfl rfl rfl]) | rw [hret _ _ rfl rfl rfl]
  exact Steps.refl _
/-- what holds at the law's entry: the machine, the code, the tables' words (any of lw_tbl by 'hts w (by decide +kernel)'), the script of L ints xs at the cell b, what the Statement gives of the start (any of its parts by flat_of_before) -/
def lw_At (p : Program) (s : State) (m : MethodId) (meth : Method) (c : Code) (b L : Nat) (xs : Nat → Int32) : Prop :=
  p.tables.exec = Jvm.exec ∧ c.code = code ∧ meth.sig.returnType = ret ∧ c.maxLocals = 8 ∧ s.vm.findClass R_law = some m.cls ∧ (∀ w ∈ lw_tbl, w.before #[Value.ref b] s = true) ∧ va_X b L xs s s.heap ∧ b < s.heap.size ∧ meth.locks = false ∧ (Jvm.Cond.and given_1 narrow_1).before #[Value.ref b] s = true
theorem lw_cont {p : Program} {l : Launch} {e : Env} {s : State} {m : MethodId} {below : List Frame} {meth : Method} {cd : Code} {D : va_G} {Y : Nat → ClassId} {b x ou c L : Nat} {xs : Nat → Int32} {ad : Nat → Nat} {Q : State → Prop} (hE : lwE p l s m cd D Y b L xs)
    (ih : ∀ (M : MS) (σ : sg_W) (H : Heap) (locs : List Loc) (ls : Array Slot), LW Y x ou ad M (c + 1) σ → sg_P D σ H → sg_D (fun q : Nat => s.heap.size ≤ q) σ → va_S (fun q : Nat => s.heap.size ≤ q) s.heap H locs → lv_has ls 8 (lw5 b x ou ad (nI (3 * (c + 1)))) → W p l e room_1 s m #[Value.ref b] below meth cd H locs (20 + 6 * (c + 1)) (398 + 50 * (c + 1)) Q (F0 m 23 ls [])) :
    lwK p l e s m below meth cd D Y b x ou ad c (nI (3 * c)) (20 + 6 * c) (398 + 50 * c) Q := by
  obtain ⟨hx, hb, hml, hown, hts, hX, hbl, hK, hN, hC, hXs, hfl⟩ := hE
  intro M' σ' H' locs' ls' hW hP hD hS hl
  have hl : lv_has ls' 8 [(0, .ref b), (1, .ref x), (2, .ref (ad 0)), (3, .ref ou), (4, .int (nI (3 * c)))] := hl
  refine lv_iinc (v := nI (3 * (c + 1))) (lv' := [(4, .int (nI (3 * (c + 1)))), (0, .ref b), (1, .ref x), (2, .ref (ad 0)), (3, .ref ou)]) hx hb dL_law_1335 hl (k := 4) rfl (by rw [show Int32.ofInt 3 = nI 3 from rfl, nI_add, show 3 * c + 3 = 3 * (c + 1) by omega]) (by decide) rfl (fun ls hl => ?_)
  refine lv_goto (tgt := 23) hx hb dL_law_1338 (by decide) ?_
  refine W.widen (k := 20 + 6 * (c + 1)) (n := 398 + 50 * (c + 1)) (by omega) (by omega) ?_
  exact ih M' σ' H' locs' ls hW hP hD hS (lv_sub hl [1, 2, 3, 4, 0] rfl)
set_option maxHeartbeats 4000000 in
set_option maxRecDepth 100000 in
theorem law_loop {p : Program} {l : Launch} {e : Env} {s : State} {m : MethodId} {below : List Frame} {meth : Method} {cd : Code} {D : va_G} {Y : Nat → ClassId} {b x ou L : Nat} {xs : Nat → Int32} {ad : Nat → Nat} (hE : lwE p l s m cd D Y b L xs) (hL : L ≤ 1536) (hr : meth.sig.returnType = ret) (hlocks : meth.locks = false) :
    ∀ (n c : Nat), 3 * c ≤ L → L + 1 ≤ 3 * c + n → ∀ (M : MS) (σ : sg_W) (H : Heap) (locs : List Loc) (ls : Array Slot), LW Y x ou ad M c σ → sg_P D σ H → sg_D (fun q : Nat => s.heap.size ≤ q) σ → va_S (fun q : Nat => s.heap.size ≤ q) s.heap H locs → lv_has ls 8 (lw5 b x ou ad (nI (3 * c))) → W p l e room_1 s m #[Value.ref b] below meth cd H locs (20 + 6 * c) (398 + 50 * c) (lw_Z below #[Value.ref b] s) (F0 m 23 ls []) := by
  obtain ⟨hx, hb, hml, hown, hts, hX, hbl, hK, hN, hC, hXs, hfl⟩ := id hE
  have hbA : ¬ (fun q : Nat => s.heap.size ≤ q) b := Nat.not_le.mpr hbl
  intro n
  induction n with
  | zero =>
    intro c h1 h2
    exact absurd h2 (by omega)
  | succ n ih =>
    intro c h1 h2 M σ H locs ls hW hP hD hS hl
    have hl : lv_has ls 8 [(0, .ref b), (1, .ref x), (2, .ref (ad 0)), (3, .ref ou), (4, .int (nI (3 * c)))] := hl
    refine lv_iload hx hb dL_law_23 (lv_at hl 4 rfl) ?_
    refine lv_aload_n hx hb dL_law_25 rfl (lv_at hl 0 rfl) ?_
    refine va_slen hx hb hX hbl hbA hS dL_law_26 ?_
    refine lv_iconst (v := 3) hx hb dL_law_27 (by decide) ?_
    refine lv_isub hx hb dL_law_28 ?_
    refine lv_icmp_gt (tgt := 1341) hx hb dL_law_29 (by decide) (fun c9 => ?_) (fun c9 => ?_)
    · refine lv_iconst (v := 1) hx hb dL_law_1341 (by decide) ?_
      refine va_forget (fun q hq => hS.2.2 q hq) ?_
      refine W.widen (k := 601024) (n := 7293034) (by omega) (by omega) ?_
      exact lw_ret hx hb hr hlocks dL_law_1342
    · have h3 : 3 * c + 3 ≤ L := by
        rcases Nat.lt_or_ge L 3 with q | q
        · exfalso
          refine c9 ?_
          rw [Int32.lt_iff_toInt_lt, nI_toInt (by omega)]
          rcases (show L = 0 ∨ L = 1 ∨ L = 2 by omega) with e | e | e <;> rw [e]
          · show (-3 : Int) < _
            omega
          · show (-2 : Int) < _
            omega
          · show (-1 : Int) < _
            omega
        · have e : Int32.ofNat L - 3 = nI (L - 3) := pk_sub (a := L) (b := 3) q
          rw [e, nI_ltI (by omega) (by omega)] at c9
          omega
      have hc : c < 512 := by omega
      have k0 : vp_in (nI (3 * c)) L := vp_in_nI (by omega) (by omega)
      have k1 : vp_in (nI (3 * c) + 1) L := by rw [nI_1]; exact vp_in_nI (by omega) (by omega)
      have k2 : vp_in (nI (3 * c) + 2) L := by rw [show (2 : Int32) = nI 2 from rfl, nI_add]; exact vp_in_nI (by omega) (by omega)
      have kK := lw_cont (x := x) (ou := ou) (ad := ad) (c := c) (below := below) (meth := meth) (e := e) (Q := lw_Z below #[Value.ref b] s) hE (fun M σ H locs ls a1 a2 a3 a4 a5 => ih (c + 1) (by omega) (by omega) M σ H locs ls a1 a2 a3 a4 a5)
      refine lv_aload_n hx hb dL_law_32 rfl (lv_at hl 0 rfl) ?_
      refine lv_iload hx hb dL_law_33 (lv_at hl 4 rfl) ?_
      refine va_sld hx hb hX hbl hbA hS k0 dL_law_35 ?_
      refine lv_bipush (v := 31) hx hb dL_law_36 (by decide) ?_
      refine lv_iand hx hb dL_law_38 ?_
      obtain ⟨j, hj, ej⟩ := pk_andE (xs (nI (3 * c)).toNatClampNeg) (m := 31) 5 rfl
      rw [ej]
      have hce : 20 + 6 * c + 6 ≤ 601024 := by omega
      have hsl : 398 + 50 * c + 50 ≤ 7293034 := by omega
      rcases (show j = 0 ∨ j = 1 ∨ j = 2 ∨ j = 3 ∨ j = 4 ∨ j = 5 ∨ j = 6 ∨ j = 7 ∨ j = 8 ∨ j = 9 ∨ j = 10 ∨ j = 11 ∨ j = 12 ∨ j = 13 ∨ j = 14 ∨ j = 15 ∨ j = 16 ∨ j = 17 ∨ j = 18 ∨ j = 19 ∨ j = 20 ∨ 21 ≤ j by omega) with rfl | rfl | rfl | rfl | rfl | rfl | rfl | rfl | rfl | rfl | rfl | rfl | rfl | rfl | rfl | rfl | rfl | rfl | rfl | rfl | rfl | hj21
      · refine lv_tableIn (off := 97) (tgt := 136) hx hb dL_law_39 (by decide) (by decide) rfl (by decide) ?_
        exact lc_next hE hW hc hP hD hS hl hce hsl k1 k2 kK
      · refine lv_tableIn (off := 153) (tgt := 192) hx hb dL_law_39 (by decide) (by decide) rfl (by decide) ?_
        exact lc_month hE hW hc hP hD hS hl hce hsl k1 k2 kK
      · refine lv_tableIn (off := 166) (tgt := 205) hx hb dL_law_39 (by decide) (by decide) rfl (by decide) ?_
        exact lc_ceiling hE hW hc hP hD hS hl hce hsl k1 k2 kK
      · refine lv_tableIn (off := 222) (tgt := 261) hx hb dL_law_39 (by decide) (by decide) rfl (by decide) ?_
        exact lc_join hE hW hc hP hD hS hl hce hsl k1 k2 kK
      · refine lv_tableIn (off := 278) (tgt := 317) hx hb dL_law_39 (by decide) (by decide) rfl (by decide) ?_
        exact lc_rate hE hW hc hP hD hS hl hce hsl k1 k2 kK
      · refine lv_tableIn (off := 346) (tgt := 385) hx hb dL_law_39 (by decide) (by decide) rfl (by decide) ?_
        exact lc_slip hE hW hc hP hD hS hl hce hsl k1 k2 kK
      · refine lv_tableIn (off := 414) (tgt := 453) hx hb dL_law_39 (by decide) (by decide) rfl (by decide) ?_
        exact lc_leave hE hW hc hP hD hS hl hce hsl k1 k2 kK
      · refine lv_tableIn (off := 470) (tgt := 509) hx hb dL_law_39 (by decide) (by decide) rfl (by decide) ?_
        exact lc_money hE hW hc hP hD hS hl hce hsl k1 k2 kK
      · refine lv_tableIn (off := 526) (tgt := 565) hx hb dL_law_39 (by decide) (by decide) rfl (by decide) ?_
        exact lc_offerMonth hE hW hc hP hD hS hl hce hsl k1 k2 kK
      · refine lv_tableIn (off := 582) (tgt := 621) hx hb dL_law_39 (by decide) (by decide) rfl (by decide) ?_
        exact lc_offerPrice hE hW hc hP hD hS hl hce hsl k1 k2 kK
      · refine lv_tableIn (off := 638) (tgt := 677) hx hb dL_law_39 (by decide) (by decide) rfl (by decide) ?_
        exact lc_resets hE hW hc hP hD hS hl hce hsl k1 k2 kK
      · refine lv_tableIn (off := 694) (tgt := 733) hx hb dL_law_39 (by decide) (by decide) rfl (by decide) ?_
        exact lc_shares hE hW hc hP hD hS hl hce hsl k1 k2 kK
      · refine lv_tableIn (off := 750) (tgt := 789) hx hb dL_law_39 (by decide) (by decide) rfl (by decide) ?_
        exact lc_bought hE hW hc hP hD hS hl hce hsl k1 k2 kK
      · refine lv_tableIn (off := 818) (tgt := 857) hx hb dL_law_39 (by decide) (by decide) rfl (by decide) ?_
        exact lc_paidEach hE hW hc hP hD hS hl hce hsl k1 k2 kK
      · refine lv_tableIn (off := 886) (tgt := 925) hx hb dL_law_39 (by decide) (by decide) rfl (by decide) ?_
        exact lc_counted hE hW hc hP hD hS hl hce hsl k1 k2 kK
      · refine lv_tableIn (off := 953) (tgt := 992) hx hb dL_law_39 (by decide) (by decide) rfl (by decide) ?_
        exact lc_traced hE hW hc hP hD hS hl hce hsl k1 k2 kK
      · refine lv_tableIn (off := 1008) (tgt := 1047) hx hb dL_law_39 (by decide) (by decide) rfl (by decide) ?_
        exact lc_kept hE hW hc hP hD hS hl hce hsl k1 k2 kK
      · refine lv_tableIn (off := 1063) (tgt := 1102) hx hb dL_law_39 (by decide) (by decide) rfl (by decide) ?_
        exact lc_sell hE hW hc hP hD hS hl hce hsl k1 k2 kK
      · refine lv_tableIn (off := 1131) (tgt := 1170) hx hb dL_law_39 (by decide) (by decide) rfl (by decide) ?_
        exact lc_pay hE hW hc hP hD hS hl hce hsl k1 k2 kK
      · refine lv_tableIn (off := 1186) (tgt := 1225) hx hb dL_law_39 (by decide) (by decide) rfl (by decide) ?_
        exact lc_gain hE hW hc hP hD hS hl hce hsl k1 k2 kK
      · refine lv_tableIn (off := 1241) (tgt := 1280) hx hb dL_law_39 (by decide) (by decide) rfl (by decide) ?_
        exact lc_gainNow hE hW hc hP hD hS hl hce hsl k1 k2 kK
      · refine lv_tableOut (tgt := 1335) hx hb dL_law_39 (Or.inr (by rw [nI_toInt (by omega)]; omega)) (by decide) ?_
        obtain ⟨aM, N, aO, aL, aC, P, t, f, hQ, hR, h, ho, hM⟩ := hW
        refine W.widen (k := 20 + 6 * c + 6) (n := 398 + 50 * c + 50) (by omega) (by omega) ?_
        exact kK M σ H locs ls ⟨aM, N, aO, aL, aC, P, t, f, hQ, hR, h.mon (by omega), ho, hM⟩ hP hD hS hl
