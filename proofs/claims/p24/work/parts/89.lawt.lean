/-! THE CLAIM OUT OF ONE WALK OF THE LAW'S BODY. Your part is whole_start (and what it stands on); all else here is the same for every law, but numbers. -/
def R_law : String := "LookbackPlanLaw"
def lw_P (b : Addr) (xs : List Int32) (args : Array Value) (s : State) : Prop := args = #[.ref b] ∧ s.IntsAt b xs ∧ xs.length ≤ 260 ∧ (Jvm.Cond.and given_1 narrow_1).before args s = true
def lw_Q (_ : Array Value) (s : State) (o : Outcome) (t : State) : Prop := o = .returned (some (.int 1)) ∧ Framed s o t [] 600172 7300668
def lw_Z (below : List Frame) (a : Array Value) (s : State) : State → Prop := fun t => ∃ o, t.status = .running ∧ Ended t below o ∧ lw_Q a s o t
/-- the law's own end, with 1 on the stack, nothing written that was there before, its room as the claim has it -/
theorem lw_ret {p : Program} {l : Launch} {e : Env} {s : State} {m : MethodId} {below : List Frame} {meth : Method} {c : Code} {b : Nat} (hx : p.tables.exec = Jvm.exec) (hb : c.code = code) (hr : meth.sig.returnType = ret) (hlocks : meth.locks = false) {pc : Nat} {H : Heap} {ls : Array Slot} (hdg : decode code pc = .ok (.ireturn, 1)) : W p l e room_1 s m #[Value.ref b] below meth c H [] 600172 7300668 (lw_Z below #[Value.ref b] s) (F0 m pc ls [.int 1]) := by
  intro T hT X
  obtain ⟨fs, hret, hrun, hended, hW, hframe⟩ := X.leave (v := some (.int 1)) (hlocks := hlocks) (fun h => by rw [hr] at h; cases h)
  have hmeth' : T.vm.method? m = some meth := X.method'
  refine ⟨T.setFrames fs, ?_, .returned (some (.int 1)), hrun, hended, rfl, ⟨_, rfl⟩, hW, hframe⟩
  jvm_step X.here [X.here.top, hx, hb, hdg, hmeth', hr, ret, narrow_b1]
  (try refine ⟨rfl, ?_⟩); (try refine ⟨rfl, ?_⟩)
  first | (intro acts; rw [hret _ acts rfl rfl rfl]) | rw [hret _ _ rfl rfl rfl]
  exact Steps.refl _
/-- what holds at the law's entry: the machine, the code, the tables' words (any of lw_tbl by 'hts w (by decide +kernel)'), the script of L ints xs at the cell b, what the Statement gives of the start (any of its parts by flat_of_before) -/
def lw_At (p : Program) (s : State) (m : MethodId) (meth : Method) (c : Code) (b L : Nat) (xs : Nat → Int32) : Prop :=
  p.tables.exec = Jvm.exec ∧ c.code = code ∧ meth.sig.returnType = ret ∧ c.maxLocals = 15 ∧ s.vm.findClass R_law = some m.cls ∧ (∀ w ∈ lw_tbl, w.before #[Value.ref b] s = true) ∧ va_X b L xs s s.heap ∧ b < s.heap.size ∧ meth.locks = false ∧ (Jvm.Cond.and given_1 narrow_1).before #[Value.ref b] s = true
set_option maxHeartbeats 8000000 in
set_option maxRecDepth 100000 in
theorem law_loop {p : Program} {l : Launch} {e : Env} {s : State} {m : MethodId} {below : List Frame} {meth : Method} {cd9 : Code} {D : va_G} {Y : Nat → ClassId} {b x L : Nat} {xs : Nat → Int32} {ad : Nat → Nat} (hx : p.tables.exec = Jvm.exec) (hb : cd9.code = cL_law) (hml : cd9.maxLocals = 15) (hown : s.vm.findClass RL = some m.cls) (hts : ∀ w ∈ wsL_law, w.before #[Value.ref b] s = true) (hSc : va_X b L xs s s.heap) (hbl : b < s.heap.size) (hK : sg_K D Y s) (hN : sg_N s) (hC : lh_N s) (hX : sg_X (fun q : Nat => s.heap.size ≤ q) s s.heap) (hfl : l.stackTraces = false) (hL6 : L ≤ 260) (hr : meth.sig.returnType = ret) (hlocks : meth.locks = false) {σ : sg_W} {H : Heap} {locs : List Loc} {ls : Array Slot} (hI0 : LI Y x ad 0 σ) (hP : sg_P D σ H) (hD : sg_D (fun q : Nat => s.heap.size ≤ q) σ) (hS : va_S (fun q : Nat => s.heap.size ≤ q) s.heap H locs) (hl : lv_has ls 15 [(0, .ref b), (1, .ref x), (2, .ref (ad 0)), (3, .ref (ad 1)), (4, .ref (ad 2)), (5, .ref (ad 3)), (6, .ref (ad 4)), (7, .ref (ad 5)), (8, .ref (ad 6)), (9, .ref (ad 7)), (10, .int (nI 0))]) : W p l e room_1 s m #[Value.ref b] below meth cd9 H locs 10 278 (lw_Z below #[Value.ref b] s) (F0 m 61 ls []) := by
  have hA : ∀ q : Nat, s.heap.size ≤ q → (fun q : Nat => s.heap.size ≤ q) q := fun _ z => z
  have hbA : ¬ (fun q : Nat => s.heap.size ≤ q) b := Nat.not_le.mpr hbl
  refine sg_loop (D := D) (H0 := s.heap) (T := Nat) 61 15 (fun n1 i σ' c' s' => n1 + i = 160 ∧ LI Y x ad i σ' ∧ c' = 10 + 106 * i ∧ s' = 278 + 650 * i) (fun i => [(0, .ref b), (1, .ref x), (2, .ref (ad 0)), (3, .ref (ad 1)), (4, .ref (ad 2)), (5, .ref (ad 3)), (6, .ref (ad 4)), (7, .ref (ad 5)), (8, .ref (ad 6)), (9, .ref (ad 7)), (10, .int (nI i))]) ?_ (160) (0) _ _ _ _ _ _ (⟨rfl, hI0, rfl, rfl⟩) hP hD hS (lv_sub hl [0, 1, 2, 3, 4, 5, 6, 7, 8, 9, 10] rfl)
  intro n1 i σ' cells slots H locs ls ih hI hP hD hS hl
  obtain ⟨hn0, hLI, rfl, rfl⟩ := hI
  obtain ⟨G, M, N, t, hXX, hG, hLR⟩ := hLI
  have hl : lv_has ls 15 [(0, .ref b), (1, .ref x), (2, .ref (ad 0)), (3, .ref (ad 1)), (4, .ref (ad 2)), (5, .ref (ad 3)), (6, .ref (ad 4)), (7, .ref (ad 5)), (8, .ref (ad 6)), (9, .ref (ad 7)), (10, .int (nI i))] := hl
  refine lv_iload hx hb dL_law_61 (lv_at hl 10 rfl) ?_
  refine lv_sipush (v := nI 160) hx hb dL_law_63 (by decide) ?_
  refine lw_icmp_ge (tgt := 297) (a := i) (b := 160) hx hb dL_law_66 (by decide) (by omega) (by omega) (fun c66 => ?_) (fun c66 => ?_)
  · skip
    refine lv_iconst (v := 1) hx hb dL_law_297 (by decide) ?_
    refine va_forget (fun q hq => hS.2.2 q hq) ?_
    refine W.widen (k := 600172) (n := 7300668) (by omega) (by omega) ?_
    exact lw_ret hx hb hr hlocks dL_law_298
  · skip
    refine lv_aload_n hx hb dL_law_69 rfl (lv_at hl 0 rfl) ?_
    refine lv_iload hx hb dL_law_70 (lv_at hl 10 rfl) ?_
    refine lv_bipush (v := nI 97) hx hb dL_law_72 (by decide) ?_
    refine lw_irem (a := i) (b := 97) hx hb dL_law_74 (by omega) (by decide) (by decide) ?_
    refine cl_calli hP hS hA (va_runS (As := [.ref b, .int (nI (i % 97))]) (rest := []) ⟨hx, hb, hml, hown, hts⟩ (c_L_cell l b L (i % 97) H.size xs (by omega) (by omega)) (va_cwS 2 hts gL_law_L_cell rfl rfl rfl (by decide +kernel) ⟨(Nat.le_of_ble_eq_true rfl), (Nat.le_of_ble_eq_true rfl)⟩) ⟨cl_blind, fun U hU hW => ⟨rfl, by rw [hU], by rw [hU]; exact (hSc.kept (hS.2.1 b hbl hbA)).moved hW.alike, Nat.lt_of_lt_of_le hbl hS.1⟩⟩ rfl rfl hl.1 rfl (lv_room (Nat.le_of_ble_eq_true rfl)) dL_law_75 ⟨by show 10 + 106 * i + 0 ≤ 600172; omega, by show 278 + 650 * i + 0 ≤ 7300668; omega⟩) (fun r9 H locs hP hS => ?_)
    refine lv_iload hx hb dL_law_78 (lv_at hl 10 rfl) ?_
    refine lv_sipush (v := nI 7919) hx hb dL_law_80 (by decide) ?_
    refine lw_imul (a := i) (b := 7919) hx hb dL_law_83 ?_
    refine lv_ixor hx hb dL_law_84 ?_
    refine lv_topi (fun v84 _ => ?_)
    refine lv_istore (lv' := [(11, .int v84), (0, .ref b), (1, .ref x), (2, .ref (ad 0)), (3, .ref (ad 1)), (4, .ref (ad 2)), (5, .ref (ad 3)), (6, .ref (ad 4)), (7, .ref (ad 5)), (8, .ref (ad 6)), (9, .ref (ad 7)), (10, .int (nI i))]) hx hb dL_law_85 hl (by decide) rfl (fun ls hl => ?_)
    refine lv_iload hx hb dL_law_87 (lv_at hl 0 rfl) ?_
    refine lv_iconst (v := nI 4) hx hb dL_law_89 (by decide) ?_
    refine lv_ishr hx hb dL_law_90 ?_
    refine lv_topi (fun v90 _ => ?_)
    refine lv_istore (lv' := [(12, .int v90), (11, .int v84), (0, .ref b), (1, .ref x), (2, .ref (ad 0)), (3, .ref (ad 1)), (4, .ref (ad 2)), (5, .ref (ad 3)), (6, .ref (ad 4)), (7, .ref (ad 5)), (8, .ref (ad 6)), (9, .ref (ad 7)), (10, .int (nI i))]) hx hb dL_law_91 hl (by decide) rfl (fun ls hl => ?_)
    refine lv_iload hx hb dL_law_93 (lv_at hl 1 rfl) ?_
    refine lv_bipush (v := nI 16) hx hb dL_law_95 (by decide) ?_
    refine sg_calli hD hS hA (va_runS (As := [.int v84, .int (nI 16)]) (rest := []) ⟨hx, hb, hml, hown, hts⟩ (c_L_some l D Y _ _ v84 16 (by omega) (by omega)) (va_cwS 2 hts gL_law_L_some rfl rfl rfl (by decide +kernel) ⟨(Nat.le_of_ble_eq_true rfl), (Nat.le_of_ble_eq_true rfl)⟩) (sg_preS hK hP hD hN hX hS hA) rfl rfl hl.1 rfl (lv_room (Nat.le_of_ble_eq_true rfl)) dL_law_97 ⟨by show 10 + 106 * i + 0 + 0 ≤ 600172; omega, by show 278 + 650 * i + 0 + 0 ≤ 7300668; omega⟩) (fun r9 σ' H locs hw9 hP hD hS => ?_)
    obtain ⟨w97, hw97, rfl, rfl⟩ := hw9
    refine lv_istore (lv' := [(13, .int (nI w97)), (12, .int v90), (11, .int v84), (0, .ref b), (1, .ref x), (2, .ref (ad 0)), (3, .ref (ad 1)), (4, .ref (ad 2)), (5, .ref (ad 3)), (6, .ref (ad 4)), (7, .ref (ad 5)), (8, .ref (ad 6)), (9, .ref (ad 7)), (10, .int (nI i))]) hx hb dL_law_100 hl (by decide) rfl (fun ls hl => ?_)
    refine sg_cutwi (D := D) hS (j := 252) (ls := ls) (rest := []) (10 + 106 * i + 6) (278 + 650 * i + 50) (fun x9 σ' => x9 = nI 1 ∧ LI Y x ad (i + 1) σ') (fun x9 σ' H locs hj9 hP hD hS => ?_) (fun k252 => ?_)
    · obtain ⟨rfl, hLI⟩ := hj9
      refine lv_istore (lv' := [(14, .int (nI 1)), (13, .int (nI w97)), (12, .int v90), (11, .int v84), (0, .ref b), (1, .ref x), (2, .ref (ad 0)), (3, .ref (ad 1)), (4, .ref (ad 2)), (5, .ref (ad 3)), (6, .ref (ad 4)), (7, .ref (ad 5)), (8, .ref (ad 6)), (9, .ref (ad 7)), (10, .int (nI i))]) hx hb dL_law_252 hl (by decide) rfl (fun ls hl => ?_)
      refine lv_iload hx hb dL_law_254 (lv_at hl 0 rfl) ?_
      refine lw_if_eq (tgt := 289) (a := 1) hx hb dL_law_256 (by decide) (by omega) (fun c256 => ?_) (fun c256 => ?_)
      · exfalso; omega
      · skip
        refine lv_iload hx hb dL_law_259 (lv_at hl 14 rfl) ?_
        refine lv_iconst (v := nI 3) hx hb dL_law_261 (by decide) ?_
        refine lw_irem (a := i) (b := 3) hx hb dL_law_262 (by omega) (by decide) (by decide) ?_
        refine lw_if_ne (tgt := 291) (a := i % 3) hx hb dL_law_263 (by decide) (by omega) (fun c263 => ?_) (fun c263 => ?_)
        · skip
          refine lv_iinc (v := nI (i + 1)) (lv' := [(10, .int (nI (i + 1))), (14, .int (nI 1)), (13, .int (nI w97)), (12, .int v90), (11, .int v84), (0, .ref b), (1, .ref x), (2, .ref (ad 0)), (3, .ref (ad 1)), (4, .ref (ad 2)), (5, .ref (ad 3)), (6, .ref (ad 4)), (7, .ref (ad 5)), (8, .ref (ad 6)), (9, .ref (ad 7))]) hx hb dL_law_291 hl (k := 14) rfl (nI_1 _) (by decide) rfl (fun ls hl => ?_)
          refine lv_goto (tgt := 61) hx hb dL_law_294 (by decide) ?_
          refine W.widen (k := 10 + 106 * (i + 1)) (n := 278 + 650 * (i + 1)) (by omega) (by omega) ?_
          exact ih (n1 - 1) (i + 1) _ _ _ _ _ _ (by omega) ⟨by omega, hLI, rfl, rfl⟩ hP hD hS (lv_sub hl [5, 6, 7, 8, 9, 10, 11, 12, 13, 14, 0] rfl)
        · obtain ⟨G2, M2, N2, t2, hXX2, hG2, hLR2⟩ := id hLI
          refine lv_aload_n hx hb dL_law_266 rfl (lv_at hl 5 rfl) ?_
          refine lv_iload hx hb dL_law_267 (lv_at hl 2 rfl) ?_
          refine lv_aload_n hx hb dL_law_269 rfl (lv_at hl 6 rfl) ?_
          refine lv_aload_n hx hb dL_law_270 rfl (lv_at hl 7 rfl) ?_
          refine lv_aload hx hb dL_law_271 (lv_at hl 8 rfl) ?_
          refine lv_aload hx hb dL_law_273 (lv_at hl 9 rfl) ?_
          refine lv_aload hx hb dL_law_275 (lv_at hl 10 rfl) ?_
          refine lv_aload hx hb dL_law_277 (lv_at hl 11 rfl) ?_
          refine lv_aload hx hb dL_law_279 (lv_at hl 12 rfl) ?_
          refine lv_aload hx hb dL_law_281 (lv_at hl 13 rfl) ?_
          refine sg_calli hD hS hA (va_runS (As := [.ref x, .int v90, .ref (ad 0), .ref (ad 1), .ref (ad 2), .ref (ad 3), .ref (ad 4), .ref (ad 5), .ref (ad 6), .ref (ad 7)]) (rest := []) ⟨hx, hb, hml, hown, hts⟩ (c_L_tells l hfl D Y _ _ ad x G2 M2 N2 t2 (i + 1) v90 hXX2 hG2 hLR2 (by omega)) (va_cwS 10 hts gL_law_L_tells rfl rfl rfl (by decide +kernel) ⟨(Nat.le_of_ble_eq_true rfl), (Nat.le_of_ble_eq_true rfl)⟩) (lh_preS hK hP hD hN hC hX hS hA) rfl rfl hl.1 rfl (lv_room (Nat.le_of_ble_eq_true rfl)) dL_law_283 ⟨by show 10 + 106 * i + 6 + 100 ≤ 600172; omega, by show 278 + 650 * i + 50 + 600 ≤ 7300668; omega⟩) (fun r9 σ' H locs hw9 hP hD hS => ?_)
          obtain ⟨rfl, rfl⟩ := hw9
          refine lw_if_ne (tgt := 291) (a := 1) hx hb dL_law_286 (by decide) (by omega) (fun c286 => ?_) (fun c286 => ?_)
          · skip
            refine lv_iinc (v := nI (i + 1)) (lv' := [(10, .int (nI (i + 1))), (14, .int (nI 1)), (13, .int (nI w97)), (12, .int v90), (11, .int v84), (0, .ref b), (1, .ref x), (2, .ref (ad 0)), (3, .ref (ad 1)), (4, .ref (ad 2)), (5, .ref (ad 3)), (6, .ref (ad 4)), (7, .ref (ad 5)), (8, .ref (ad 6)), (9, .ref (ad 7))]) hx hb dL_law_291 hl (k := 14) rfl (nI_1 _) (by decide) rfl (fun ls hl => ?_)
            refine lv_goto (tgt := 61) hx hb dL_law_294 (by decide) ?_
            refine W.widen (k := 10 + 106 * (i + 1)) (n := 278 + 650 * (i + 1)) (by omega) (by omega) ?_
            exact ih (n1 - 1) (i + 1) _ _ _ _ _ _ (by omega) ⟨by omega, hLI, rfl, rfl⟩ hP hD hS (lv_sub hl [5, 6, 7, 8, 9, 10, 11, 12, 13, 14, 0] rfl)
          · exfalso; omega
    · skip
      refine lv_iload hx hb dL_law_102 (lv_at hl 13 rfl) ?_
      refine lv_iconst (v := nI 2) hx hb dL_law_104 (by decide) ?_
      refine lw_icmp_ge (tgt := 141) (a := i) (b := 2) hx hb dL_law_105 (by decide) (by omega) (by omega) (fun c105 => ?_) (fun c105 => ?_)
      · skip
        refine lv_iload hx hb dL_law_141 (lv_at hl 0 rfl) ?_
        refine lv_iconst (v := nI 5) hx hb dL_law_143 (by decide) ?_
        refine lw_icmp_ge (tgt := 172) (a := w97) (b := 5) hx hb dL_law_144 (by decide) (by omega) (by omega) (fun c144 => ?_) (fun c144 => ?_)
        · skip
          refine lv_iload hx hb dL_law_172 (lv_at hl 0 rfl) ?_
          refine lv_bipush (v := nI 9) hx hb dL_law_174 (by decide) ?_
          refine lw_icmp_ge (tgt := 203) (a := w97) (b := 9) hx hb dL_law_176 (by decide) (by omega) (by omega) (fun c176 => ?_) (fun c176 => ?_)
          · skip
            refine lv_iload hx hb dL_law_203 (lv_at hl 0 rfl) ?_
            refine lv_bipush (v := nI 14) hx hb dL_law_205 (by decide) ?_
            refine lw_icmp_ge (tgt := 234) (a := w97) (b := 14) hx hb dL_law_207 (by decide) (by omega) (by omega) (fun c207 => ?_) (fun c207 => ?_)
            · skip
              refine lv_aload_n hx hb dL_law_234 rfl (lv_at hl 4 rfl) ?_
              refine lv_iload hx hb dL_law_235 (lv_at hl 1 rfl) ?_
              refine lv_aload_n hx hb dL_law_237 rfl (lv_at hl 5 rfl) ?_
              refine lv_aload_n hx hb dL_law_238 rfl (lv_at hl 6 rfl) ?_
              refine lv_aload hx hb dL_law_239 (lv_at hl 7 rfl) ?_
              refine lv_aload hx hb dL_law_241 (lv_at hl 9 rfl) ?_
              refine lv_aload hx hb dL_law_243 (lv_at hl 10 rfl) ?_
              refine lv_aload hx hb dL_law_245 (lv_at hl 11 rfl) ?_
              refine lv_aload hx hb dL_law_247 (lv_at hl 12 rfl) ?_
              refine sg_calli hD hS hA (va_runS (As := [.ref x, .int v90, .ref (ad 0), .ref (ad 1), .ref (ad 2), .ref (ad 4), .ref (ad 5), .ref (ad 6), .ref (ad 7)]) (rest := []) ⟨hx, hb, hml, hown, hts⟩ (c_L_sells l hfl D Y _ _ ad x G M N t i v90 hXX hG hLR (by omega)) (va_cwS 9 hts gL_law_L_sells rfl rfl rfl (by decide +kernel) ⟨(Nat.le_of_ble_eq_true rfl), (Nat.le_of_ble_eq_true rfl)⟩) (lh_preS hK hP hD hN hC hX hS hA) rfl rfl hl.1 rfl (lv_room (Nat.le_of_ble_eq_true rfl)) dL_law_249 ⟨by show 10 + 106 * i + 0 + 0 + 3 ≤ 600172; omega, by show 278 + 650 * i + 0 + 0 + 18 ≤ 7300668; omega⟩) (fun r9 σ' H locs hw9 hP hD hS => ?_)
              obtain ⟨rfl, hLI⟩ := hw9
              refine W.widen (k := 10 + 106 * i + 6) (n := 278 + 650 * i + 50) (by omega) (by omega) ?_
              exact k252 _ _ _ _ (⟨rfl, hLI⟩) hP hD hS
            · skip
              refine lv_aload_n hx hb dL_law_210 rfl (lv_at hl 4 rfl) ?_
              refine lv_iconst (v := nI 5) hx hb dL_law_211 (by decide) ?_
              refine lv_iload hx hb dL_law_212 (lv_at hl 1 rfl) ?_
              refine lv_aload_n hx hb dL_law_214 rfl (lv_at hl 5 rfl) ?_
              refine lv_aload_n hx hb dL_law_215 rfl (lv_at hl 6 rfl) ?_
              refine lv_aload hx hb dL_law_216 (lv_at hl 7 rfl) ?_
              refine lv_aload hx hb dL_law_218 (lv_at hl 8 rfl) ?_
              refine lv_aload hx hb dL_law_220 (lv_at hl 9 rfl) ?_
              refine lv_aload hx hb dL_law_222 (lv_at hl 10 rfl) ?_
              refine lv_aload hx hb dL_law_224 (lv_at hl 11 rfl) ?_
              refine lv_aload hx hb dL_law_226 (lv_at hl 12 rfl) ?_
              refine sg_calli hD hS hA (va_runS (As := [.ref x, .int (nI 5), .int v90, .ref (ad 0), .ref (ad 1), .ref (ad 2), .ref (ad 3), .ref (ad 4), .ref (ad 5), .ref (ad 6), .ref (ad 7)]) (rest := []) ⟨hx, hb, hml, hown, hts⟩ (c_L_goes l hfl D Y _ _ ad x G M N t i v90 5 (by omega) hXX hG hLR (by omega)) (va_cwS 11 hts gL_law_L_goes rfl rfl rfl (by decide +kernel) ⟨(Nat.le_of_ble_eq_true rfl), (Nat.le_of_ble_eq_true rfl)⟩) (lh_preS hK hP hD hN hC hX hS hA) rfl rfl hl.1 rfl (lv_room (Nat.le_of_ble_eq_true rfl)) dL_law_228 ⟨by show 10 + 106 * i + 0 + 0 + 6 ≤ 600172; omega, by show 278 + 650 * i + 0 + 0 + 50 ≤ 7300668; omega⟩) (fun r9 σ' H locs hw9 hP hD hS => ?_)
              obtain ⟨rfl, hLI⟩ := hw9
              refine lv_goto (tgt := 252) hx hb dL_law_231 (by decide) ?_
              exact k252 _ _ _ _ (⟨rfl, hLI⟩) hP hD hS
          · skip
            refine lv_aload_n hx hb dL_law_179 rfl (lv_at hl 4 rfl) ?_
            refine lv_iconst (v := nI 0) hx hb dL_law_180 (by decide) ?_
            refine lv_iload hx hb dL_law_181 (lv_at hl 1 rfl) ?_
            refine lv_aload_n hx hb dL_law_183 rfl (lv_at hl 5 rfl) ?_
            refine lv_aload_n hx hb dL_law_184 rfl (lv_at hl 6 rfl) ?_
            refine lv_aload hx hb dL_law_185 (lv_at hl 7 rfl) ?_
            refine lv_aload hx hb dL_law_187 (lv_at hl 8 rfl) ?_
            refine lv_aload hx hb dL_law_189 (lv_at hl 9 rfl) ?_
            refine lv_aload hx hb dL_law_191 (lv_at hl 10 rfl) ?_
            refine lv_aload hx hb dL_law_193 (lv_at hl 11 rfl) ?_
            refine lv_aload hx hb dL_law_195 (lv_at hl 12 rfl) ?_
            refine sg_calli hD hS hA (va_runS (As := [.ref x, .int (nI 0), .int v90, .ref (ad 0), .ref (ad 1), .ref (ad 2), .ref (ad 3), .ref (ad 4), .ref (ad 5), .ref (ad 6), .ref (ad 7)]) (rest := []) ⟨hx, hb, hml, hown, hts⟩ (c_L_goes l hfl D Y _ _ ad x G M N t i v90 0 (by omega) hXX hG hLR (by omega)) (va_cwS 11 hts gL_law_L_goes rfl rfl rfl (by decide +kernel) ⟨(Nat.le_of_ble_eq_true rfl), (Nat.le_of_ble_eq_true rfl)⟩) (lh_preS hK hP hD hN hC hX hS hA) rfl rfl hl.1 rfl (lv_room (Nat.le_of_ble_eq_true rfl)) dL_law_197 ⟨by show 10 + 106 * i + 0 + 0 + 6 ≤ 600172; omega, by show 278 + 650 * i + 0 + 0 + 50 ≤ 7300668; omega⟩) (fun r9 σ' H locs hw9 hP hD hS => ?_)
            obtain ⟨rfl, hLI⟩ := hw9
            refine lv_goto (tgt := 252) hx hb dL_law_200 (by decide) ?_
            exact k252 _ _ _ _ (⟨rfl, hLI⟩) hP hD hS
        · skip
          refine lv_aload_n hx hb dL_law_147 rfl (lv_at hl 4 rfl) ?_
          refine lv_iload hx hb dL_law_148 (lv_at hl 0 rfl) ?_
          refine lv_iload hx hb dL_law_150 (lv_at hl 1 rfl) ?_
          refine lv_aload_n hx hb dL_law_152 rfl (lv_at hl 5 rfl) ?_
          refine lv_aload_n hx hb dL_law_153 rfl (lv_at hl 6 rfl) ?_
          refine lv_aload hx hb dL_law_154 (lv_at hl 7 rfl) ?_
          refine lv_aload hx hb dL_law_156 (lv_at hl 8 rfl) ?_
          refine lv_aload hx hb dL_law_158 (lv_at hl 9 rfl) ?_
          refine lv_aload hx hb dL_law_160 (lv_at hl 10 rfl) ?_
          refine lv_aload hx hb dL_law_162 (lv_at hl 11 rfl) ?_
          refine lv_aload hx hb dL_law_164 (lv_at hl 12 rfl) ?_
          refine sg_calli hD hS hA (va_runS (As := [.ref x, .int (nI w97), .int v90, .ref (ad 0), .ref (ad 1), .ref (ad 2), .ref (ad 3), .ref (ad 4), .ref (ad 5), .ref (ad 6), .ref (ad 7)]) (rest := []) ⟨hx, hb, hml, hown, hts⟩ (c_L_goes l hfl D Y _ _ ad x G M N t i v90 w97 (by omega) hXX hG hLR (by omega)) (va_cwS 11 hts gL_law_L_goes rfl rfl rfl (by decide +kernel) ⟨(Nat.le_of_ble_eq_true rfl), (Nat.le_of_ble_eq_true rfl)⟩) (lh_preS hK hP hD hN hC hX hS hA) rfl rfl hl.1 rfl (lv_room (Nat.le_of_ble_eq_true rfl)) dL_law_166 ⟨by show 10 + 106 * i + 0 + 0 + 6 ≤ 600172; omega, by show 278 + 650 * i + 0 + 0 + 50 ≤ 7300668; omega⟩) (fun r9 σ' H locs hw9 hP hD hS => ?_)
          obtain ⟨rfl, hLI⟩ := hw9
          refine lv_goto (tgt := 252) hx hb dL_law_169 (by decide) ?_
          exact k252 _ _ _ _ (⟨rfl, hLI⟩) hP hD hS
      · skip
        refine lv_aload_n hx hb dL_law_108 rfl (lv_at hl 4 rfl) ?_
        refine lv_iload hx hb dL_law_109 (lv_at hl 13 rfl) ?_
        refine lw_if_ne (tgt := 118) (a := i) hx hb dL_law_111 (by decide) (by omega) (fun c111 => ?_) (fun c111 => ?_)
        · skip
          refine lv_iconst (v := nI 2) hx hb dL_law_118 (by decide) ?_
          refine lv_iload hx hb dL_law_119 (lv_at hl 1 rfl) ?_
          refine lv_aload_n hx hb dL_law_121 rfl (lv_at hl 5 rfl) ?_
          refine lv_aload_n hx hb dL_law_122 rfl (lv_at hl 6 rfl) ?_
          refine lv_aload hx hb dL_law_123 (lv_at hl 7 rfl) ?_
          refine lv_aload hx hb dL_law_125 (lv_at hl 8 rfl) ?_
          refine lv_aload hx hb dL_law_127 (lv_at hl 9 rfl) ?_
          refine lv_aload hx hb dL_law_129 (lv_at hl 10 rfl) ?_
          refine lv_aload hx hb dL_law_131 (lv_at hl 11 rfl) ?_
          refine lv_aload hx hb dL_law_133 (lv_at hl 12 rfl) ?_
          refine sg_calli hD hS hA (va_runS (As := [.ref x, .int (nI 2), .int v90, .ref (ad 0), .ref (ad 1), .ref (ad 2), .ref (ad 3), .ref (ad 4), .ref (ad 5), .ref (ad 6), .ref (ad 7)]) (rest := []) ⟨hx, hb, hml, hown, hts⟩ (c_L_goes l hfl D Y _ _ ad x G M N t i v90 2 (by omega) hXX hG hLR (by omega)) (va_cwS 11 hts gL_law_L_goes rfl rfl rfl (by decide +kernel) ⟨(Nat.le_of_ble_eq_true rfl), (Nat.le_of_ble_eq_true rfl)⟩) (lh_preS hK hP hD hN hC hX hS hA) rfl rfl hl.1 rfl (lv_room (Nat.le_of_ble_eq_true rfl)) dL_law_135 ⟨by show 10 + 106 * i + 0 + 0 + 6 ≤ 600172; omega, by show 278 + 650 * i + 0 + 0 + 50 ≤ 7300668; omega⟩) (fun r9 σ' H locs hw9 hP hD hS => ?_)
          obtain ⟨rfl, hLI⟩ := hw9
          refine lv_goto (tgt := 252) hx hb dL_law_138 (by decide) ?_
          exact k252 _ _ _ _ (⟨rfl, hLI⟩) hP hD hS
        · skip
          refine lv_iconst (v := nI 0) hx hb dL_law_114 (by decide) ?_
          refine lv_goto (tgt := 119) hx hb dL_law_115 (by decide) ?_
          refine lv_iload hx hb dL_law_119 (lv_at hl 1 rfl) ?_
          refine lv_aload_n hx hb dL_law_121 rfl (lv_at hl 5 rfl) ?_
          refine lv_aload_n hx hb dL_law_122 rfl (lv_at hl 6 rfl) ?_
          refine lv_aload hx hb dL_law_123 (lv_at hl 7 rfl) ?_
          refine lv_aload hx hb dL_law_125 (lv_at hl 8 rfl) ?_
          refine lv_aload hx hb dL_law_127 (lv_at hl 9 rfl) ?_
          refine lv_aload hx hb dL_law_129 (lv_at hl 10 rfl) ?_
          refine lv_aload hx hb dL_law_131 (lv_at hl 11 rfl) ?_
          refine lv_aload hx hb dL_law_133 (lv_at hl 12 rfl) ?_
          refine sg_calli hD hS hA (va_runS (As := [.ref x, .int (nI 0), .int v90, .ref (ad 0), .ref (ad 1), .ref (ad 2), .ref (ad 3), .ref (ad 4), .ref (ad 5), .ref (ad 6), .ref (ad 7)]) (rest := []) ⟨hx, hb, hml, hown, hts⟩ (c_L_goes l hfl D Y _ _ ad x G M N t i v90 0 (by omega) hXX hG hLR (by omega)) (va_cwS 11 hts gL_law_L_goes rfl rfl rfl (by decide +kernel) ⟨(Nat.le_of_ble_eq_true rfl), (Nat.le_of_ble_eq_true rfl)⟩) (lh_preS hK hP hD hN hC hX hS hA) rfl rfl hl.1 rfl (lv_room (Nat.le_of_ble_eq_true rfl)) dL_law_135 ⟨by show 10 + 106 * i + 0 + 0 + 6 ≤ 600172; omega, by show 278 + 650 * i + 0 + 0 + 50 ≤ 7300668; omega⟩) (fun r9 σ' H locs hw9 hP hD hS => ?_)
          obtain ⟨rfl, hLI⟩ := hw9
          refine lv_goto (tgt := 252) hx hb dL_law_138 (by decide) ?_
          exact k252 _ _ _ _ (⟨rfl, hLI⟩) hP hD hS
