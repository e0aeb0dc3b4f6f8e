section
-- ===== PART A: goes FIRST, ahead of the names: the tables' words, and 'selects' of the private methods out of them =====
/-- a private method of a class that the tables say can be made, by its rows of tables_1 -/
def lw_okq (q : MethodName × Nat) : Prop := (q.1.cls ≠ "java/lang/invoke/MethodHandle" ∧ q.1.cls ≠ "java/lang/invoke/VarHandle") ∧ Cond.instantiable q.1.cls q.2 ∈ tables_1 ∧ Cond.privateMethod q.1 ∈ tables_1 ∧ Cond.instanceMethod q.1 ∈ tables_1
theorem lw_p0 : lw_okq (⟨"java/lang/Throwable", "fillInStackTrace", "(I)Ljava/lang/Throwable;"⟩, 6) := ⟨⟨by decide +kernel, by decide +kernel⟩, List.mem_of_getElem? (i := 92) (by decide +kernel), List.mem_of_getElem? (i := 90) (by decide +kernel), List.mem_of_getElem? (i := 91) (by decide +kernel)⟩
theorem lw_p1 : lw_okq (⟨"LookbackPlan", "buyForAll", "()V"⟩, 5) := ⟨⟨by decide +kernel, by decide +kernel⟩, List.mem_of_getElem? (i := 13) (by decide +kernel), List.mem_of_getElem? (i := 141) (by decide +kernel), List.mem_of_getElem? (i := 142) (by decide +kernel)⟩
theorem lw_p2 : lw_okq (⟨"LookbackPlan$Member", "buyShares", "(III)V"⟩, 14) := ⟨⟨by decide +kernel, by decide +kernel⟩, List.mem_of_getElem? (i := 147) (by decide +kernel), List.mem_of_getElem? (i := 145) (by decide +kernel), List.mem_of_getElem? (i := 146) (by decide +kernel)⟩
theorem lw_p3 : lw_okq (⟨"LookbackPlan$Member", "countedIn", "(I)J"⟩, 14) := ⟨⟨by decide +kernel, by decide +kernel⟩, List.mem_of_getElem? (i := 147) (by decide +kernel), List.mem_of_getElem? (i := 159) (by decide +kernel), List.mem_of_getElem? (i := 160) (by decide +kernel)⟩
theorem lw_p4 : lw_okq (⟨"LookbackPlan$Member", "putLot", "(LLookbackPlan$Lot;)V"⟩, 14) := ⟨⟨by decide +kernel, by decide +kernel⟩, List.mem_of_getElem? (i := 147) (by decide +kernel), List.mem_of_getElem? (i := 198) (by decide +kernel), List.mem_of_getElem? (i := 199) (by decide +kernel)⟩
theorem lw_p5 : lw_okq (⟨"LookbackPlan$Member", "addCounted", "(IJ)V"⟩, 14) := ⟨⟨by decide +kernel, by decide +kernel⟩, List.mem_of_getElem? (i := 147) (by decide +kernel), List.mem_of_getElem? (i := 202) (by decide +kernel), List.mem_of_getElem? (i := 203) (by decide +kernel)⟩
theorem lw_p6 : lw_okq (⟨"LookbackPlan$Member", "renewOffer", "(II)V"⟩, 14) := ⟨⟨by decide +kernel, by decide +kernel⟩, List.mem_of_getElem? (i := 147) (by decide +kernel), List.mem_of_getElem? (i := 206) (by decide +kernel), List.mem_of_getElem? (i := 207) (by decide +kernel)⟩
theorem lw_p7 : lw_okq (⟨"LookbackPlan", "memberOrThrow", "(I)LLookbackPlan$Member;"⟩, 5) := ⟨⟨by decide +kernel, by decide +kernel⟩, List.mem_of_getElem? (i := 13) (by decide +kernel), List.mem_of_getElem? (i := 300) (by decide +kernel), List.mem_of_getElem? (i := 301) (by decide +kernel)⟩
theorem lw_p8 : lw_okq (⟨"LookbackPlan$Member", "takeSlip", "(I)I"⟩, 14) := ⟨⟨by decide +kernel, by decide +kernel⟩, List.mem_of_getElem? (i := 147) (by decide +kernel), List.mem_of_getElem? (i := 333) (by decide +kernel), List.mem_of_getElem? (i := 334) (by decide +kernel)⟩
theorem lw_p9 : lw_okq (⟨"LookbackPlan$Member", "giveBack", "()J"⟩, 14) := ⟨⟨by decide +kernel, by decide +kernel⟩, List.mem_of_getElem? (i := 147) (by decide +kernel), List.mem_of_getElem? (i := 344) (by decide +kernel), List.mem_of_getElem? (i := 345) (by decide +kernel)⟩
theorem lw_p10 : lw_okq (⟨"LookbackPlan$Member", "sharesHeld", "()I"⟩, 14) := ⟨⟨by decide +kernel, by decide +kernel⟩, List.mem_of_getElem? (i := 147) (by decide +kernel), List.mem_of_getElem? (i := 383) (by decide +kernel), List.mem_of_getElem? (i := 384) (by decide +kernel)⟩
theorem lw_p11 : lw_okq (⟨"LookbackPlan$Member", "lotOf", "(I)LLookbackPlan$Lot;"⟩, 14) := ⟨⟨by decide +kernel, by decide +kernel⟩, List.mem_of_getElem? (i := 147) (by decide +kernel), List.mem_of_getElem? (i := 398) (by decide +kernel), List.mem_of_getElem? (i := 399) (by decide +kernel)⟩
theorem lw_p12 : lw_okq (⟨"LookbackPlan$Member", "sellOldest", "(III)I"⟩, 14) := ⟨⟨by decide +kernel, by decide +kernel⟩, List.mem_of_getElem? (i := 147) (by decide +kernel), List.mem_of_getElem? (i := 443) (by decide +kernel), List.mem_of_getElem? (i := 444) (by decide +kernel)⟩
theorem lw_p13 : lw_okq (⟨"LookbackPlan$Lot", "payEach", "(II)J"⟩, 7) := ⟨⟨by decide +kernel, by decide +kernel⟩, List.mem_of_getElem? (i := 166) (by decide +kernel), List.mem_of_getElem? (i := 447) (by decide +kernel), List.mem_of_getElem? (i := 448) (by decide +kernel)⟩
theorem lw_p14 : lw_okq (⟨"LookbackPlan$Lot", "isEarly", "(I)Z"⟩, 7) := ⟨⟨by decide +kernel, by decide +kernel⟩, List.mem_of_getElem? (i := 166) (by decide +kernel), List.mem_of_getElem? (i := 451) (by decide +kernel), List.mem_of_getElem? (i := 452) (by decide +kernel)⟩
theorem lw_p15 : lw_okq (⟨"LookbackPlan$Lot", "gainEach", "(II)J"⟩, 7) := ⟨⟨by decide +kernel, by decide +kernel⟩, List.mem_of_getElem? (i := 166) (by decide +kernel), List.mem_of_getElem? (i := 459) (by decide +kernel), List.mem_of_getElem? (i := 460) (by decide +kernel)⟩
def lw_privs_1 : List (MethodName × Nat) := [(⟨"java/lang/Throwable", "fillInStackTrace", "(I)Ljava/lang/Throwable;"⟩, 6), (⟨"LookbackPlan", "buyForAll", "()V"⟩, 5), (⟨"LookbackPlan$Member", "buyShares", "(III)V"⟩, 14), (⟨"LookbackPlan$Member", "countedIn", "(I)J"⟩, 14), (⟨"LookbackPlan$Member", "putLot", "(LLookbackPlan$Lot;)V"⟩, 14), (⟨"LookbackPlan$Member", "addCounted", "(IJ)V"⟩, 14), (⟨"LookbackPlan$Member", "renewOffer", "(II)V"⟩, 14), (⟨"LookbackPlan", "memberOrThrow", "(I)LLookbackPlan$Member;"⟩, 5), (⟨"LookbackPlan$Member", "takeSlip", "(I)I"⟩, 14), (⟨"LookbackPlan$Member", "giveBack", "()J"⟩, 14), (⟨"LookbackPlan$Member", "sharesHeld", "()I"⟩, 14), (⟨"LookbackPlan$Member", "lotOf", "(I)LLookbackPlan$Lot;"⟩, 14), (⟨"LookbackPlan$Member", "sellOldest", "(III)I"⟩, 14), (⟨"LookbackPlan$Lot", "payEach", "(II)J"⟩, 7), (⟨"LookbackPlan$Lot", "isEarly", "(I)Z"⟩, 7), (⟨"LookbackPlan$Lot", "gainEach", "(II)J"⟩, 7)]
theorem lw_r1 : ∀ q ∈ lw_privs_1, lw_okq q := List.forall_mem_cons.mpr ⟨lw_p0, List.forall_mem_cons.mpr ⟨lw_p1, List.forall_mem_cons.mpr ⟨lw_p2, List.forall_mem_cons.mpr ⟨lw_p3, List.forall_mem_cons.mpr ⟨lw_p4, List.forall_mem_cons.mpr ⟨lw_p5, List.forall_mem_cons.mpr ⟨lw_p6, List.forall_mem_cons.mpr ⟨lw_p7, List.forall_mem_cons.mpr ⟨lw_p8, List.forall_mem_cons.mpr ⟨lw_p9, List.forall_mem_cons.mpr ⟨lw_p10, List.forall_mem_cons.mpr ⟨lw_p11, List.forall_mem_cons.mpr ⟨lw_p12, List.forall_mem_cons.mpr ⟨lw_p13, List.forall_mem_cons.mpr ⟨lw_p14, List.forall_mem_cons.mpr ⟨lw_p15, fun _ h => absurd h List.not_mem_nil⟩⟩⟩⟩⟩⟩⟩⟩⟩⟩⟩⟩⟩⟩⟩⟩
theorem lw_p16 : lw_okq (⟨"LookbackPlan$Member", "gainIfAllSold", "(II)J"⟩, 14) := ⟨⟨by decide +kernel, by decide +kernel⟩, List.mem_of_getElem? (i := 147) (by decide +kernel), List.mem_of_getElem? (i := 486) (by decide +kernel), List.mem_of_getElem? (i := 487) (by decide +kernel)⟩
theorem lw_p17 : lw_okq (⟨"LookbackPlanModel", "mayBoth", "(ZZ)Z"⟩, 20) := ⟨⟨by decide +kernel, by decide +kernel⟩, List.mem_of_getElem? (i := 490) (by decide +kernel), List.mem_of_getElem? (i := 572) (by decide +kernel), List.mem_of_getElem? (i := 573) (by decide +kernel)⟩
theorem lw_p18 : lw_okq (⟨"LookbackPlanModel", "buy", "(I)V"⟩, 20) := ⟨⟨by decide +kernel, by decide +kernel⟩, List.mem_of_getElem? (i := 490) (by decide +kernel), List.mem_of_getElem? (i := 576) (by decide +kernel), List.mem_of_getElem? (i := 577) (by decide +kernel)⟩
theorem lw_p19 : lw_okq (⟨"LookbackPlanModel", "countedIn", "(II)J"⟩, 20) := ⟨⟨by decide +kernel, by decide +kernel⟩, List.mem_of_getElem? (i := 490) (by decide +kernel), List.mem_of_getElem? (i := 580) (by decide +kernel), List.mem_of_getElem? (i := 581) (by decide +kernel)⟩
theorem lw_p20 : lw_okq (⟨"LookbackPlanModel", "may", "(Z)Z"⟩, 20) := ⟨⟨by decide +kernel, by decide +kernel⟩, List.mem_of_getElem? (i := 490) (by decide +kernel), List.mem_of_getElem? (i := 593) (by decide +kernel), List.mem_of_getElem? (i := 594) (by decide +kernel)⟩
theorem lw_p21 : lw_okq (⟨"LookbackPlanModel", "isMember", "(I)Z"⟩, 20) := ⟨⟨by decide +kernel, by decide +kernel⟩, List.mem_of_getElem? (i := 490) (by decide +kernel), List.mem_of_getElem? (i := 605) (by decide +kernel), List.mem_of_getElem? (i := 606) (by decide +kernel)⟩
theorem lw_p22 : lw_okq (⟨"LookbackPlanModel", "isStaying", "(I)Z"⟩, 20) := ⟨⟨by decide +kernel, by decide +kernel⟩, List.mem_of_getElem? (i := 490) (by decide +kernel), List.mem_of_getElem? (i := 609) (by decide +kernel), List.mem_of_getElem? (i := 610) (by decide +kernel)⟩
theorem lw_p23 : lw_okq (⟨"LookbackPlanModel", "mayAll", "(ZZZ)Z"⟩, 20) := ⟨⟨by decide +kernel, by decide +kernel⟩, List.mem_of_getElem? (i := 490) (by decide +kernel), List.mem_of_getElem? (i := 613) (by decide +kernel), List.mem_of_getElem? (i := 614) (by decide +kernel)⟩
theorem lw_p24 : lw_okq (⟨"LookbackPlanModel", "sharesOf", "(I)I"⟩, 20) := ⟨⟨by decide +kernel, by decide +kernel⟩, List.mem_of_getElem? (i := 490) (by decide +kernel), List.mem_of_getElem? (i := 646) (by decide +kernel), List.mem_of_getElem? (i := 647) (by decide +kernel)⟩
theorem lw_p25 : lw_okq (⟨"LookbackPlanModel", "payOf", "(I)I"⟩, 20) := ⟨⟨by decide +kernel, by decide +kernel⟩, List.mem_of_getElem? (i := 490) (by decide +kernel), List.mem_of_getElem? (i := 675) (by decide +kernel), List.mem_of_getElem? (i := 676) (by decide +kernel)⟩
theorem lw_p26 : lw_okq (⟨"LookbackPlanModel", "isEarly", "(I)Z"⟩, 20) := ⟨⟨by decide +kernel, by decide +kernel⟩, List.mem_of_getElem? (i := 490) (by decide +kernel), List.mem_of_getElem? (i := 679) (by decide +kernel), List.mem_of_getElem? (i := 680) (by decide +kernel)⟩
theorem lw_p27 : lw_okq (⟨"LookbackPlanModel", "gainOf", "(II)J"⟩, 20) := ⟨⟨by decide +kernel, by decide +kernel⟩, List.mem_of_getElem? (i := 490) (by decide +kernel), List.mem_of_getElem? (i := 683) (by decide +kernel), List.mem_of_getElem? (i := 684) (by decide +kernel)⟩
def lw_privs_2 : List (MethodName × Nat) := [(⟨"LookbackPlan$Member", "gainIfAllSold", "(II)J"⟩, 14), (⟨"LookbackPlanModel", "mayBoth", "(ZZ)Z"⟩, 20), (⟨"LookbackPlanModel", "buy", "(I)V"⟩, 20), (⟨"LookbackPlanModel", "countedIn", "(II)J"⟩, 20), (⟨"LookbackPlanModel", "may", "(Z)Z"⟩, 20), (⟨"LookbackPlanModel", "isMember", "(I)Z"⟩, 20), (⟨"LookbackPlanModel", "isStaying", "(I)Z"⟩, 20), (⟨"LookbackPlanModel", "mayAll", "(ZZZ)Z"⟩, 20), (⟨"LookbackPlanModel", "sharesOf", "(I)I"⟩, 20), (⟨"LookbackPlanModel", "payOf", "(I)I"⟩, 20), (⟨"LookbackPlanModel", "isEarly", "(I)Z"⟩, 20), (⟨"LookbackPlanModel", "gainOf", "(II)J"⟩, 20)]
theorem lw_r2 : ∀ q ∈ lw_privs_2, lw_okq q := List.forall_mem_cons.mpr ⟨lw_p16, List.forall_mem_cons.mpr ⟨lw_p17, List.forall_mem_cons.mpr ⟨lw_p18, List.forall_mem_cons.mpr ⟨lw_p19, List.forall_mem_cons.mpr ⟨lw_p20, List.forall_mem_cons.mpr ⟨lw_p21, List.forall_mem_cons.mpr ⟨lw_p22, List.forall_mem_cons.mpr ⟨lw_p23, List.forall_mem_cons.mpr ⟨lw_p24, List.forall_mem_cons.mpr ⟨lw_p25, List.forall_mem_cons.mpr ⟨lw_p26, List.forall_mem_cons.mpr ⟨lw_p27, fun _ h => absurd h List.not_mem_nil⟩⟩⟩⟩⟩⟩⟩⟩⟩⟩⟩⟩
def lw_privs : List (MethodName × Nat) := lw_privs_1 ++ (lw_privs_2)
def lw_tbl : List Cond := k2_sels lw_privs ++ tables_1
theorem lw_privs_ok : ∀ q ∈ lw_privs, lw_okq q := by
  show ∀ q ∈ lw_privs_1 ++ (lw_privs_2), lw_okq q
  exact List.forall_mem_append.mpr ⟨lw_r1, lw_r2⟩
end
section
/-! ===== BEGIN words of one list among another's, by their places ===== -/
theorem goodIn_r {big : List Cond} (ws : List Cond) (ps : List Nat) (hp : ws = ps.filterMap (fun i => big[i]?)) (h : ws.all goodWord = true) : GoodIn big ws := by
  intro w hw
  have h1 := List.all_eq_true.mp h w hw
  rw [hp] at hw
  obtain ⟨i, -, hi⟩ := List.mem_filterMap.mp hw
  have hm : w ∈ big := by first | exact List.mem_of_getElem? hi | exact List.getElem?_mem hi
  exact ⟨hm, good_of_word h1⟩
theorem goodIn_app {big a b : List Cond} (ha : GoodIn big a) (hb : GoodIn big b) : GoodIn big (a ++ b) := fun w h => (List.mem_append.mp h).elim (ha w) (hb w)
theorem goodIn_ca {big a b : List Cond} {c : Cond} (ha : GoodIn big (c :: a)) (hb : GoodIn big b) : GoodIn big (c :: (a ++ b)) := fun w h => (List.mem_cons.mp h).elim (fun e => ha w (List.mem_cons.mpr (Or.inl e))) (fun h => (List.mem_append.mp h).elim (fun h => ha w (List.mem_cons.mpr (Or.inr h))) (hb w))
theorem goodIn_sub {big ws : List Cond} (hm : ∀ w ∈ ws, w ∈ big) (h : ws.all goodWord = true) : GoodIn big ws := fun w hw => ⟨hm w hw, good_of_word (List.all_eq_true.mp h w hw)⟩
/-! ===== END ===== -/

/-! ===== BEGIN exceptions that leave a method, and their catching by the caller (launches without stack traces) ===== -/
section VXA
/-! The laws vx_back, vx_callV, vx_callS, vx_callSW, vx_throw0, vx_throwS follow proofs of the library, with one case more: JvmDerived/Free/Laws.lean (Back.of_free), Shelf42/LK1.lean (callV, callS), Shelf/KitTraced.lean (throwNew0V, throwNewS). -/
/-- where a method has thrown q: the class by its name, the cell, what was written, the world -/
def vx_T (XC : String → State → State → Prop) (st : State) (q : Addr) (t : State) (mc ms : Nat) (free : Addr → Prop) : Prop :=
  ∃ (E : String) (ce : Cell) (L : List Loc), XC E st t ∧ t.heap[q]? = some ce ∧ ce.vm = .none ∧ st.vm.findClass E = some ce.cls ∧ st.WarmedH t.vm ∧ st.sameButNew ({ t with vm := st.vm } : State) L mc ms ∧ ∀ z ∈ L, free z.base
def vx_Q (Qc : Array Value → State → Outcome → State → Prop) (XC : String → State → State → Prop) (mc ms : Nat) (free : Addr → Prop) : Array Value → State → Outcome → State → Prop := fun a st o t =>
  (Qc a st o t ∧ ∃ L, FrameEnd st o t L mc ms ∧ ∀ q ∈ L, free q.base) ∨ ∃ q, o = .threw q ∧ vx_T XC st q t mc ms free
/-- a callee that returns or throws -/
def vx_Met (l : Launch) (y : MethodName) (ws : List Cond) (rm : Room) (Pc : Array Value → State → Prop) (Qc : Array Value → State → Outcome → State → Prop) (XC : String → State → State → Prop) (mc ms : Nat) (free : Addr → Prop) : Prop :=
  MetFree l y (headSpec ws rm) Pc (fun _ _ _ _ _ => True) (vx_Q Qc XC mc ms free)
def vx_Post (XC : String → State → State → Prop) (mc ms : Nat) (free : Addr → Prop) : Pt → Array Value → Addr → Pt → Prop := fun A a q B =>
  ∃ (g : JFrame) (mk : MethodId) (t : State) (L : List Loc) (E : String) (ce : Cell), B.U.heap = t.heap ∧ B.U.vm = t.vm ∧ XC E (A.U.calling g mk a) t ∧ t.heap[q]? = some ce ∧ ce.vm = .none ∧ A.U.vm.findClass E = some ce.cls ∧ B.locs = A.locs ++ L ∧ (∀ z ∈ L, free z.base) ∧ B.cells = A.cells + mc ∧ B.slots = A.slots + ms
def vx_Back (l : Launch) (R : Room) (p : Program) (e : Env) (below : List Frame) (s : State) (sargs : Array Value) (y : MethodName) (len W9 : Nat)
    (Pre : Pt → Array Value → Prop) (Post : Pt → Array Value → Option Value → Pt → Prop) (PostX : Pt → Array Value → Addr → Pt → Prop) : Prop :=
  ∀ (m : MethodId) (meth : Method) (c : Code) (A : Pt) (g : JFrame) (ig : Instr) (mk : MethodId) (a : Array Value),
    Stand p l e R s m sargs below meth c A.U A.locs A.cells A.slots → g.method = m → g.locals.size = c.maxLocals → decode c.code g.pc = .ok (ig, len) →
    2 * g.monitorRoom + (g.stack.map fun v => v.category).sum ≤ W9 → A.U.methodNamed? y = some mk → Pre A a →
    (∃ (v : Option Value) (B : Pt), Stand p l e R s m sargs below meth c B.U B.locs B.cells B.slots ∧ Post A a v B ∧
      Steps p.tables e below (doInvoke e (A.U.setTop g) [] mk a).1 (B.U.setTop { g with pc := g.pc + len, stack := v.toList ++ g.stack })) ∨
    (∃ (q : Addr) (B : Pt), Stand p l e R s m sargs below meth c B.U B.locs B.cells B.slots ∧ PostX A a q B ∧
      Steps p.tables e below (doInvoke e (A.U.setTop g) [] mk a).1 ((B.U.setTop g).pushFrame (.throwing q)))
section Payer
variable {l : Launch} {R : Room} {p : Program} {e : Env} {below : List Frame} {s : State} {sargs : Array Value} {y : MethodName} {len W9 : Nat}
theorem vx_back {ws : List Cond} {rm : Room} {Pc : Array Value → State → Prop} {Qc : Array Value → State → Outcome → State → Prop} {XC : String → State → State → Prop} {mc ms : Nat} {free : Addr → Prop} {bytes : ByteArray} {maxL : Nat} {ret : Option FieldType}
    (hM : vx_Met l y ws rm Pc Qc XC mc ms free) (hblind : FrameBlind Pc) (hrc : rm.cells = mc) (hrs : rm.slots = ms)
    (hframes : rm.frames + 1 ≤ R.frames) (hlocals : W9 + (maxL + 11) + rm.locals ≤ R.locals)
    (hws : ∀ w ∈ ws, ∀ a' U, s.WarmedH U.vm → w.before a' U = true) (hcode : Cond.code y bytes maxL ret ∈ ws) (hinit : ∀ a' U, s.WarmedH U.vm → (Cond.initialized y.cls).before a' U = true) :
    vx_Back l R p e below s sargs y len W9 (PreOf R mc ms Pc) (PostOf Qc mc ms free) (vx_Post XC mc ms free) := by
  intro m meth c A g ig mk a X hg hsize hdg hW hn hp
  have h1 : (headSpec ws rm).pre.before a A.U = true := atoms_intro fun w hw => hws w hw _ _ X.warmed
  have h2 : (Cond.code y bytes maxL ret).before a A.U = true := hws _ hcode _ _ X.warmed
  have h3 : (Cond.initialized y.cls).before a A.U = true := hinit _ _ X.warmed
  have h4 : A.cells + (headSpec ws rm).room.cells ≤ R.cells := by rw [show (headSpec ws rm).room.cells = mc from hrc]; exact hp.1
  have h5 : A.slots + (headSpec ws rm).room.slots ≤ R.slots := by rw [show (headSpec ws rm).room.slots = ms from hrs]; exact hp.2.1
  have hPc : Pc a (A.U.calling g mk a) := hblind _ _ _ _ hp.2.2
  obtain ⟨U, Ls, c0, s0⟩ := A
  dsimp only [Pt.U, Pt.locs, Pt.cells, Pt.slots] at h1 h2 h3 h4 h5 X hn hPc ⊢
  obtain ⟨methY, cY, hmY, hcY, -, hlY, -, -, -, -⟩ := Cond.code_spec hn h2
  obtain ⟨kY, hkY, -⟩ := className_of_methodNamed hn
  have hinitY : kY.init = .initialized := Cond.initialized_spec (findClass_of_methodNamed hn) hkY h3
  have h : At U g.method c below := by rw [hg]; exact X.here
  have hlocals9 : W9 + (maxL + 11) + (headSpec ws rm).room.locals ≤ R.locals := hlocals
  have happ : (headSpec ws rm).appliesLoose y e.platform (U.calling g mk a) = true :=
    Spec.appliesLoose_calling (g := g) h hdg hn hkY hinitY
      (X.room_calling (g := g) (R' := (headSpec ws rm).room) hsize hmY hcY hframes (by rw [hlY]; omega) h4 h5) h1
  obtain ⟨mid, hmid⟩ := h.above
  have hfr : (U.setTop g).frames = (.java g :: mid) ++ below := by rw [State.frames_setTop' g h.top, hmid]; rfl
  obtain ⟨o, s₂, hsteps, -, hend, hq⟩ := Steps.callFree hM p X.admits X.cas X.clock (acts := []) hfr happ hPc trivial
  have hq' : vx_Q Qc XC mc ms free a (U.calling g mk a) o s₂ := hq
  rw [State.frames_setTop' g h.top] at hend
  obtain ⟨g₀, hg0⟩ := Option.isSome_iff_exists.mp h.top
  obtain ⟨r, hr⟩ := State.topJava?_eq_some.mp hg0
  have hr' : (({ U with heap := s₂.heap, slotsUsed := s₂.slotsUsed } : State).setVm s₂.vm).frames = .java g₀ :: r := hr
  rcases hq' with ⟨hqc, L, hfe, hL⟩ | ⟨q, rfl, E, ce, L, hx, hce, hcv, hcl, hW₂, hsm, hL⟩
  · obtain ⟨⟨v, rfl⟩, hW₂, e2, q2, q3, q4, q5, q6⟩ := id hfe
    have e3 : s₂ = ({ (U.calling g mk a).setFrames s₂.frames with heap := s₂.heap, slotsUsed := s₂.slotsUsed } : State).setVm s₂.vm := by
      have : s₂ = ({ s₂ with vm := (U.calling g mk a).vm } : State).setVm s₂.vm := rfl
      rw [e2] at this
      exact this
    obtain ⟨c₂, i₂, len₂, hc₂, hd₂, hf₂⟩ := hend
    have hW' : U.WarmedH s₂.vm := hW₂
    have hcc : c₂ = c := by
      have h1 : s₂.code? g.method = U.code? g.method := by
        rw [State.code?_eq, State.code?_eq, hW'.alike.method?]
      exact Option.some.inj (hc₂.symm.trans (h1.trans h.code))
    subst hcc
    have hlen : len₂ = len := by rw [hdg] at hd₂; cases hd₂; rfl
    subst hlen
    have hs₂ : s₂ = (({ U with heap := s₂.heap, slotsUsed := s₂.slotsUsed } : State).setVm s₂.vm).setTop { g with pc := g.pc + len₂, stack := v.toList ++ g.stack } := by
      refine e3.trans ?_
      rw [hf₂, State.calling_eq h.top, State.setFrames_setFrames, State.setTop_of_frames _ hr', hr]
      rfl
    have hsame : U.sameButNew ({ U with heap := s₂.heap, slotsUsed := s₂.slotsUsed } : State) L mc ms := by
      refine ⟨?_, q2, q3, q4, q5, q6⟩
      obtain ⟨t, ht, -⟩ := State.frames_cons hr
      show ({ U with heap := s₂.heap, slotsUsed := s₂.slotsUsed } : State) = { U.setFrames U.frames with heap := s₂.heap, slotsUsed := s₂.slotsUsed }
      rw [State.setFrames_self ht]
    subst hg
    refine Or.inl ⟨v, ⟨(({ U with heap := s₂.heap, slotsUsed := s₂.slotsUsed } : State).setVm s₂.vm), Ls ++ L, c0 + mc, s0 + ms⟩,
      ⟨X.admits, X.cas, X.clock, X.frames, X.room, X.hears, X.method, X.code, (X.here.setHeapUsed s₂.heap s₂.slotsUsed).setVm hW'.alike, X.tail, State.WarmedH.trans X.warmed hW', X.limits, X.bytes, X.same.trans (hsame.setVm s.vm)⟩,
      ⟨g, mk, s₂, L, rfl, rfl, hqc, rfl, hL, rfl, rfl⟩, ?_⟩
    show Steps p.tables e below _ ((({ U with heap := s₂.heap, slotsUsed := s₂.slotsUsed } : State).setVm s₂.vm).setTop { g with pc := g.pc + len₂, stack := v.toList ++ g.stack })
    rw [← hs₂]
    exact hsteps
  · obtain ⟨e2, q2, q3, q4, q5, q6⟩ := id hsm
    have e3 : s₂ = ({ (U.calling g mk a).setFrames s₂.frames with heap := s₂.heap, slotsUsed := s₂.slotsUsed } : State).setVm s₂.vm := by
      have : s₂ = ({ s₂ with vm := (U.calling g mk a).vm } : State).setVm s₂.vm := rfl
      rw [e2] at this
      exact this
    have hf₂ : s₂.frames = .throwing q :: .java g :: U.frames.tail := hend
    have hW' : U.WarmedH s₂.vm := hW₂
    have hs₂ : s₂ = ((({ U with heap := s₂.heap, slotsUsed := s₂.slotsUsed } : State).setVm s₂.vm).setTop g).pushFrame (.throwing q) := by
      refine e3.trans ?_
      rw [hf₂, State.calling_eq h.top, State.setFrames_setFrames, State.pushFrame, State.frames_setTop _ hr', State.setTop_of_frames _ hr', State.setFrames_setFrames, hr]
      rfl
    have hsame : U.sameButNew ({ U with heap := s₂.heap, slotsUsed := s₂.slotsUsed } : State) L mc ms := by
      refine ⟨?_, q2, q3, q4, q5, q6⟩
      obtain ⟨t, ht, -⟩ := State.frames_cons hr
      show ({ U with heap := s₂.heap, slotsUsed := s₂.slotsUsed } : State) = { U.setFrames U.frames with heap := s₂.heap, slotsUsed := s₂.slotsUsed }
      rw [State.setFrames_self ht]
    subst hg
    refine Or.inr ⟨q, ⟨(({ U with heap := s₂.heap, slotsUsed := s₂.slotsUsed } : State).setVm s₂.vm), Ls ++ L, c0 + mc, s0 + ms⟩,
      ⟨X.admits, X.cas, X.clock, X.frames, X.room, X.hears, X.method, X.code, (X.here.setHeapUsed s₂.heap s₂.slotsUsed).setVm hW'.alike, X.tail, State.WarmedH.trans X.warmed hW', X.limits, X.bytes, X.same.trans (hsame.setVm s.vm)⟩,
      ⟨g, mk, s₂, L, E, ce, rfl, rfl, hx, hce, hcv, hcl, rfl, hL, rfl, rfl⟩, ?_⟩
    show Steps p.tables e below _ (((({ U with heap := s₂.heap, slotsUsed := s₂.slotsUsed } : State).setVm s₂.vm).setTop g).pushFrame (.throwing q))
    rw [← hs₂]
    exact hsteps
end Payer
section Calls
variable {p : Program} {l : Launch} {e : Env} {R : Room} {s : State} {m : MethodId} {args : Array Value} {below : List Frame} {meth : Method} {c : Code} {T : State} {locs : List Loc} {cells slots : Nat}
theorem vx_callV (X : Stand p l e R s m args below meth c T locs cells slots) (hexec : p.tables.exec = Jvm.exec) {own C : String} {index : Nat} {y : MethodName} {bytes : ByteArray} {maxL : Nat} {ret : Option FieldType}
    (hown : s.vm.findClass own = some m.cls) (hlink : (Cond.methodLink own index y).before args s = true) (hinst : (Cond.instanceMethod y).before args s = true) (hsel : (Cond.selects C y y).before args s = true)
    (hcode : (Cond.code y bytes maxL ret).before args s = true) (hy : y.cls ≠ "java/lang/invoke/MethodHandle" ∧ y.cls ≠ "java/lang/invoke/VarHandle")
    {W9 : Nat} {Pre : Pt → Array Value → Prop} {Post : Pt → Array Value → Option Value → Pt → Prop} {PostX : Pt → Array Value → Addr → Pt → Prop} (hK : vx_Back l R p e below s args y 3 W9 Pre Post PostX)
    {b : Addr} {cellB : Cell} (hcell : T.heap[b]? = some cellB) (hobj : cellB.vm.isStatics = false) (hcls : s.vm.findClass C = some cellB.cls)
    {g : JFrame} (hg : g.method = m) (hsize : g.locals.size = c.maxLocals) {argsL rest : List Value} (hlen : ∀ sig, parseMethodDescriptor y.desc = some sig → argsL.length = sig.parameters.length)
    (hstack : g.stack = argsL.reverse ++ .ref b :: rest) (hW : 2 * g.monitorRoom + (rest.map fun v => v.category).sum ≤ W9) (hdg : decode c.code g.pc = .ok (.invokevirtual index, 3))
    (hpre : ∀ vm₁, s.WarmedH vm₁ → Pre ⟨T.setVm vm₁, locs, cells, slots⟩ (Value.ref b :: argsL).toArray) :
    (∃ (v : Option Value) (vm₁ : Vm) (B : Pt), s.WarmedH vm₁ ∧ Stand p l e R s m args below meth c B.U B.locs B.cells B.slots ∧ Post ⟨T.setVm vm₁, locs, cells, slots⟩ (Value.ref b :: argsL).toArray v B ∧
      ∀ target, Steps p.tables e below (B.U.setTop { g with pc := g.pc + 3, stack := v.toList ++ rest }) target → Steps p.tables e below (T.setTop g) target) ∨
    (∃ (q : Addr) (vm₁ : Vm) (B : Pt), s.WarmedH vm₁ ∧ Stand p l e R s m args below meth c B.U B.locs B.cells B.slots ∧ PostX ⟨T.setVm vm₁, locs, cells, slots⟩ (Value.ref b :: argsL).toArray q B ∧
      Steps p.tables e below (T.setTop g) ((B.U.setTop { g with stack := rest }).pushFrame (.throwing q))) := by
  obtain ⟨mk, methM, hnamed, hmethM, hstM, habM⟩ := Cond.instanceMethod_spec hinst
  obtain ⟨methM', cM, hmethM', -, -, -, -, -, -, hsigM⟩ := Cond.code_spec hnamed hcode
  cases hmethM.symm.trans hmethM'
  obtain ⟨c2, r2, m2, q1, q2, q3, q4, kP, hkP, hkPi⟩ := Cond.selects_spec hsel
  cases hcls.symm.trans q1
  cases (State.methodFound?_of_named hnamed hy).symm.trans q2
  cases hnamed.symm.trans q3
  have hselP : selectMethod e.platform s.vm cellB.cls mk = .method mk := by rw [Launch.admits_selectMethod X.admits]; exact q4
  obtain ⟨vm₁, X₁, hstep₁⟩ := X.invokevirtual hexec hown hlink hnamed hmethM hstM hkP hkPi hy (a := b) (cell := cellB) hcell
    (fun z h => by rw [h] at hobj; cases hobj) hselP hmethM habM hkP hkPi (g := g) hg (argsL := argsL) (rest := rest) (hlen _ hsigM) hstack hdg
  rcases hK m meth c ⟨T.setVm vm₁, locs, cells, slots⟩ { g with stack := rest } (.invokevirtual index) mk (Value.ref b :: argsL).toArray X₁ hg hsize hdg hW (X₁.named hnamed) (hpre vm₁ X₁.warmed) with ⟨v, B, X', hpost, hsteps⟩ | ⟨q, B, X', hpost, hsteps⟩
  · exact Or.inl ⟨v, vm₁, B, X₁.warmed, X', hpost, fun target h => hstep₁ _ fun acts => by rw [doInvoke_state]; exact hsteps.trans h⟩
  · exact Or.inr ⟨q, vm₁, B, X₁.warmed, X', hpost, hstep₁ _ fun acts => by rw [doInvoke_state]; exact hsteps⟩
theorem vx_callS (X : Stand p l e R s m args below meth c T locs cells slots) (hexec : p.tables.exec = Jvm.exec) {own : String} {index : Nat} {y : MethodName} {bytes : ByteArray} {maxL : Nat} {ret : Option FieldType}
    (hown : s.vm.findClass own = some m.cls) (hlink : (Cond.methodLink own index y).before args s = true) (hstat : (Cond.static y).before args s = true) (hinit : (Cond.initialized y.cls).before args s = true)
    (hcode : (Cond.code y bytes maxL ret).before args s = true) (hy : y.cls ≠ "java/lang/invoke/MethodHandle" ∧ y.cls ≠ "java/lang/invoke/VarHandle")
    {W9 : Nat} {Pre : Pt → Array Value → Prop} {Post : Pt → Array Value → Option Value → Pt → Prop} {PostX : Pt → Array Value → Addr → Pt → Prop} (hK : vx_Back l R p e below s args y 3 W9 Pre Post PostX)
    {g : JFrame} (hg : g.method = m) (hsize : g.locals.size = c.maxLocals) {argsL rest : List Value} (hlen : ∀ sig, parseMethodDescriptor y.desc = some sig → argsL.length = sig.parameters.length)
    (hstack : g.stack = argsL.reverse ++ rest) (hW : 2 * g.monitorRoom + (rest.map fun v => v.category).sum ≤ W9) (hdg : decode c.code g.pc = .ok (.invokestatic index, 3))
    (hpre : ∀ vm₁, s.WarmedH vm₁ → Pre ⟨T.setVm vm₁, locs, cells, slots⟩ argsL.toArray) :
    (∃ (v : Option Value) (vm₁ : Vm) (B : Pt), s.WarmedH vm₁ ∧ Stand p l e R s m args below meth c B.U B.locs B.cells B.slots ∧ Post ⟨T.setVm vm₁, locs, cells, slots⟩ argsL.toArray v B ∧
      ∀ target, Steps p.tables e below (B.U.setTop { g with pc := g.pc + 3, stack := v.toList ++ rest }) target → Steps p.tables e below (T.setTop g) target) ∨
    (∃ (q : Addr) (vm₁ : Vm) (B : Pt), s.WarmedH vm₁ ∧ Stand p l e R s m args below meth c B.U B.locs B.cells B.slots ∧ PostX ⟨T.setVm vm₁, locs, cells, slots⟩ argsL.toArray q B ∧
      Steps p.tables e below (T.setTop g) ((B.U.setTop { g with stack := rest }).pushFrame (.throwing q))) := by
  obtain ⟨mk, hnamed⟩ := Cond.code_named hcode
  obtain ⟨methM, cM, hmethM, -, -, -, -, -, -, hsigM⟩ := Cond.code_spec hnamed hcode
  have hstatic : methM.isStatic = true := Cond.static_spec hnamed hmethM hstat
  obtain ⟨kP, hkP, -⟩ := className_of_methodNamed hnamed
  have hinitP : kP.init = .initialized := Cond.initialized_spec (findClass_of_methodNamed hnamed) hkP hinit
  obtain ⟨vm₁, X₁, hstep₁⟩ := X.invokestatic hexec hown hlink hnamed hmethM hstatic hkP hinitP hy (g := g) hg (argsL := argsL) (rest := rest) (hlen _ hsigM) hstack hdg
  rcases hK m meth c ⟨T.setVm vm₁, locs, cells, slots⟩ { g with stack := rest } (.invokestatic index) mk argsL.toArray X₁ hg hsize hdg hW (X₁.named hnamed) (hpre vm₁ X₁.warmed) with ⟨v, B, X', hpost, hsteps⟩ | ⟨q, B, X', hpost, hsteps⟩
  · exact Or.inl ⟨v, vm₁, B, X₁.warmed, X', hpost, fun target h => hstep₁ _ fun acts => by rw [doInvoke_state]; exact hsteps.trans h⟩
  · exact Or.inr ⟨q, vm₁, B, X₁.warmed, X', hpost, hstep₁ _ fun acts => by rw [doInvoke_state]; exact hsteps⟩
end Calls
theorem vx_cls {s : State} {T : State} {vm₁ : Vm} {E : String} {k : ClassId} (hW : s.WarmedH vm₁) (h : (T.setVm vm₁).vm.findClass E = some k) : s.vm.findClass E = some k := by
  have h1 : vm₁.findClass E = some k := h
  rw [hW.alike.findClass] at h1
  exact h1
/-- the method's frame g, with q thrown over it -/
def vx_W (p : Program) (l : Launch) (e : Env) (R : Room) (s : State) (m : MethodId) (args : Array Value) (below : List Frame) (meth : Method) (c : Code) (H : Heap) (locs : List Loc) (cells slots : Nat) (Q : State → Prop) (g : JFrame) (q : Addr) : Prop :=
  ∀ T : State, T.heap = H → Stand p l e R s m args below meth c T locs cells slots → ∃ t, Steps p.tables e below ((T.setTop g).pushFrame (.throwing q)) t ∧ Q t
def vx_Run (p : Program) (l : Launch) (e : Env) (R : Room) (s : State) (m : MethodId) (args : Array Value) (below : List Frame) (meth : Method) (c : Code) (H : Heap) (locs : List Loc) (cells slots mc ms : Nat) (g : JFrame) (rest : List Value) (Qa : State → Outcome → State → Prop) (XC : String → State → State → Prop) (free : Addr → Prop) : Prop :=
  ∀ T : State, T.heap = H → Stand p l e R s m args below meth c T locs cells slots →
    (∃ (v : Option Value) (st₀ t T' : State) (L : List Loc), st₀.heap = H ∧ Stand p l e R s m args below meth c T' (locs ++ L) (cells + mc) (slots + ms) ∧ (∀ q ∈ L, free q.base) ∧ T'.heap = t.heap ∧ T'.vm = t.vm ∧ Qa st₀ (.returned v) t ∧
      Goes p e below T g T' { g with pc := g.pc + 3, stack := v.toList ++ rest }) ∨
    (∃ (q : Addr) (st₀ t T' : State) (L : List Loc) (E : String) (ce : Cell), st₀.heap = H ∧ Stand p l e R s m args below meth c T' (locs ++ L) (cells + mc) (slots + ms) ∧ (∀ z ∈ L, free z.base) ∧ T'.heap = t.heap ∧ T'.vm = t.vm ∧ XC E st₀ t ∧ t.heap[q]? = some ce ∧ ce.vm = .none ∧ s.vm.findClass E = some ce.cls ∧
      Steps p.tables e below (T.setTop g) ((T'.setTop { g with stack := rest }).pushFrame (.throwing q)))
def vx_X {S : Type} (px : S → Prop) (B : String → S → State → Prop) (A : Nat → Prop) : String → State → State → Prop := fun E st t => ∃ u : S, px u ∧ B E u t ∧ va_F A st t
section Runs
variable {p : Program} {l : Launch} {e : Env} {R : Room} {s : State} {m : MethodId} {args : Array Value} {below : List Frame} {meth : Method} {c : Code} {H : Heap} {locs : List Loc} {cells slots : Nat}
variable {y : MethodName} {bytes cc : ByteArray} {maxL nL mc ms n index : Nat} {ret : Option FieldType} {ws : List Cond} {rm : Room} {Pc : Array Value → State → Prop} {Qc : Array Value → State → Outcome → State → Prop} {XC : String → State → State → Prop} {free : Addr → Prop} {Ts : List Cond} {own C : String} {b : Addr} {As rest : List Value} {g : JFrame}
theorem vx_callBack (cb : CallB R s args own index y bytes maxL ret ws rm mc ms n) (hM : vx_Met l y ws rm Pc Qc XC mc ms free) (hbl : FrameBlind Pc) : vx_Back l R p e below s args y 3 8 (PreOf R mc ms Pc) (PostOf Qc mc ms free) (vx_Post XC mc ms free) := by
  obtain ⟨hrc, hrs, hfr, hlo, hws, hcw, -, hini, -⟩ := cb
  exact vx_back (bytes := bytes) (maxL := maxL) (ret := ret) hM hbl hrc hrs hfr hlo hws hcw (fun a' U hW => word_at hW (Or.inl (by first | rfl | simp [Cond.onTables, Cond.keeps, Cond.steady])) hini)
theorem vx_runV (S : CallFix p m c cc nL s args Ts own) (hM : vx_Met l y ws rm Pc Qc XC mc ms free) (cw : CallW R s args own C index y bytes maxL ret ws rm mc ms n) (hp : PreV s H C b Pc As)
    (hg : g.method = m) (hn : As.length = n) (hsize : g.locals.size = nL) (hstack : g.stack = As.reverse ++ .ref b :: rest) (hW : 2 * g.monitorRoom + (rest.map fun v => v.category).sum ≤ 8) (hdg : decode cc g.pc = .ok (.invokevirtual index, 3)) (hf : cells + mc ≤ R.cells ∧ slots + ms ≤ R.slots) :
    vx_Run p l e R s m args below meth c H locs cells slots mc ms g rest (Qc (Value.ref b :: As).toArray) XC free := by
  have hK : vx_Back l R p e below s args y 3 8 (PreOf R mc ms Pc) (PostOf Qc mc ms free) (vx_Post XC mc ms free) := vx_callBack cw.1 hM hp.1
  obtain ⟨⟨-, -, -, -, -, -, hcode, -, hy, hlen, hl⟩, hin, hse⟩ := cw
  obtain ⟨hx, hb, hml, ho, -⟩ := S
  obtain ⟨-, ⟨cellB, hcB, hoB, hclB⟩, hPc⟩ := hp
  intro T hT X
  rcases vx_callV X hx (C := C) (bytes := bytes) (maxL := maxL) (ret := ret) ho hl hin hse hcode hy hK (by rw [hT]; exact hcB) hoB hclB hg (hsize.trans hml.symm) (argsL := As) (rest := rest) (fun sig h => hn.trans (hlen sig h)) hstack hW (by rw [hb]; exact hdg)
    (fun vm₁ hW₁ => ⟨hf.1, hf.2, hPc (T.setVm vm₁) hT hW₁⟩) with ⟨v, vm₁, ⟨U', l2, c2, s2⟩, hW₁, X', ⟨g', mk, t, L, e1, e2, hq, h1, hL, h2, h3⟩, st⟩ | ⟨q, vm₁, ⟨U', l2, c2, s2⟩, hW₁, X', ⟨g', mk, t, L, E, ce, e1, e2, hq, hce, hcv, hcl, h1, hL, h2, h3⟩, st⟩
  · dsimp only [Pt.U, Pt.locs, Pt.cells, Pt.slots] at X' e1 e2 h1 h2 h3 st
    subst h1; subst h2; subst h3
    exact Or.inl ⟨v, (T.setVm vm₁).calling g' mk (Value.ref b :: As).toArray, t, U', L, hT, X', hL, e1, e2, hq, st⟩
  · dsimp only [Pt.U, Pt.locs, Pt.cells, Pt.slots] at X' e1 e2 h1 h2 h3 st hcl
    subst h1; subst h2; subst h3
    exact Or.inr ⟨q, (T.setVm vm₁).calling g' mk (Value.ref b :: As).toArray, t, U', L, E, ce, hT, X', hL, e1, e2, hq, hce, hcv, vx_cls hW₁ hcl, st⟩
theorem vx_runS (S : CallFix p m c cc nL s args Ts own) (hM : vx_Met l y ws rm Pc Qc XC mc ms free) (cw : CallB R s args own index y bytes maxL ret ws rm mc ms n ∧ (Cond.static y).before args s = true) (hp : PreS s H Pc As)
    (hg : g.method = m) (hn : As.length = n) (hsize : g.locals.size = nL) (hstack : g.stack = As.reverse ++ rest) (hW : 2 * g.monitorRoom + (rest.map fun v => v.category).sum ≤ 8) (hdg : decode cc g.pc = .ok (.invokestatic index, 3)) (hf : cells + mc ≤ R.cells ∧ slots + ms ≤ R.slots) :
    vx_Run p l e R s m args below meth c H locs cells slots mc ms g rest (Qc As.toArray) XC free := by
  have hK : vx_Back l R p e below s args y 3 8 (PreOf R mc ms Pc) (PostOf Qc mc ms free) (vx_Post XC mc ms free) := vx_callBack cw.1 hM hp.1
  obtain ⟨⟨-, -, -, -, -, -, hcode, hini, hy, hlen, hl⟩, hstt⟩ := cw
  obtain ⟨hx, hb, hml, ho, -⟩ := S
  intro T hT X
  rcases vx_callS X hx (bytes := bytes) (maxL := maxL) (ret := ret) ho hl hstt hini hcode hy hK hg (hsize.trans hml.symm) (argsL := As) (rest := rest) (fun sig h => hn.trans (hlen sig h)) hstack hW (by rw [hb]; exact hdg)
    (fun vm₁ hW₁ => ⟨hf.1, hf.2, hp.2 (T.setVm vm₁) hT hW₁⟩) with ⟨v, vm₁, ⟨U', l2, c2, s2⟩, hW₁, X', ⟨g', mk, t, L, e1, e2, hq, h1, hL, h2, h3⟩, st⟩ | ⟨q, vm₁, ⟨U', l2, c2, s2⟩, hW₁, X', ⟨g', mk, t, L, E, ce, e1, e2, hq, hce, hcv, hcl, h1, hL, h2, h3⟩, st⟩
  · dsimp only [Pt.U, Pt.locs, Pt.cells, Pt.slots] at X' e1 e2 h1 h2 h3 st
    subst h1; subst h2; subst h3
    exact Or.inl ⟨v, (T.setVm vm₁).calling g' mk As.toArray, t, U', L, hT, X', hL, e1, e2, hq, st⟩
  · dsimp only [Pt.U, Pt.locs, Pt.cells, Pt.slots] at X' e1 e2 h1 h2 h3 st hcl
    subst h1; subst h2; subst h3
    exact Or.inr ⟨q, (T.setVm vm₁).calling g' mk As.toArray, t, U', L, E, ce, hT, X', hL, e1, e2, hq, hce, hcv, vx_cls hW₁ hcl, st⟩
end Runs
section Rows
variable {p : Program} {l : Launch} {e : Env} {R : Room} {s : State} {m : MethodId} {args : Array Value} {below : List Frame} {meth : Method} {c : Code} {H : Heap} {locs : List Loc} {cells slots : Nat} {Q : State → Prop}
variable {mc ms : Nat} {free : Addr → Prop} {A0 A1 : Nat → Prop} {H0 : Heap} {a : Array Value} {pc : Nat} {ls : Array Slot} {st0 rest : List Value}
theorem vx_keep {st₀ t T' : State} {L : List Loc} (h0 : st₀.heap = H) (e1 : T'.heap = t.heap) (hS : va_S A0 H0 H locs) (hA : ∀ q, q < H.size → A1 q → A0 q) (hf : ∀ q, free q → A0 q) (hL : ∀ q ∈ L, free q.base) (hF : va_F A1 st₀ t) :
    H.size ≤ T'.heap.size ∧ (∀ q : Nat, q < H.size → ¬ A1 q → T'.heap[q]? = H[q]?) ∧ va_S A0 H0 T'.heap (locs ++ L) := by
  obtain ⟨hz, hk⟩ := hF
  rw [h0] at hz hk
  exact ⟨by rw [e1]; exact hz, fun q h1 h2 => by rw [e1]; exact hk q h1 h2,
    ⟨Nat.le_trans hS.1 (by rw [e1]; exact hz), fun q h1 h2 => by rw [e1, hk q (Nat.lt_of_lt_of_le h1 hS.1) (fun z => h2 (hA q (Nat.lt_of_lt_of_le h1 hS.1) z))]; exact hS.2.1 q h1 h2, fun q hq => by
      rcases List.mem_append.mp hq with h | h
      · exact hS.2.2 q h
      · exact hf _ (hL q h)⟩⟩
theorem vx_calli {S SX : Type} {post : Int32 → S → Prop} {px : SX → Prop} {B : S → State → Prop} {BX : String → SX → State → Prop} {AX : Nat → Prop} (hr : vx_Run p l e R s m args below meth c H locs cells slots mc ms (F0 m pc ls st0) rest (va_Qi post B A1 a) (vx_X px BX AX) free) (hS : va_S A0 H0 H locs) (hA : ∀ q, q < H.size → A1 q → A0 q) (hf : ∀ q, free q → A0 q) (hAX : ∀ q, q < H.size → AX q → A0 q)
    (kx : ∀ (E : String) (ce : Cell) (q9 : Addr) (u : SX) (t : State) (H1 : Heap) (locs1 : List Loc), t.heap = H1 → s.vm.Alike t.vm → px u → BX E u t → H.size ≤ H1.size → (∀ q : Nat, q < H.size → ¬ AX q → H1[q]? = H[q]?) → va_S A0 H0 H1 locs1 → H1[q9]? = some ce → ce.vm = .none → s.vm.findClass E = some ce.cls → vx_W p l e R s m args below meth c H1 locs1 (cells + mc) (slots + ms) Q (F0 m pc ls rest) q9)
    (kk : ∀ (r : Int32) (u : S) (t : State) (H1 : Heap) (locs1 : List Loc), t.heap = H1 → s.vm.Alike t.vm → post r u → B u t → H.size ≤ H1.size → (∀ q : Nat, q < H.size → ¬ A1 q → H1[q]? = H[q]?) → va_S A0 H0 H1 locs1 → W p l e R s m args below meth c H1 locs1 (cells + mc) (slots + ms) Q (F0 m (pc + 3) ls (.int r :: rest))) : W p l e R s m args below meth c H locs cells slots Q (F0 m pc ls st0) := by
  intro T hT X
  rcases hr T hT X with ⟨v, st₀, t, T', L, h0, X', hL, e1, e2, ⟨⟨r, u, hv, hp, hb⟩, hF⟩, st⟩ | ⟨q, st₀, t, T', L, E, ce, h0, X', hL, e1, e2, ⟨u, hp, hb, hF⟩, hce, hcv, hcl, st⟩
  · cases hv
    obtain ⟨k1, k2, k3⟩ := vx_keep h0 e1 hS hA hf hL hF
    obtain ⟨t2, a1, b1⟩ := kk r u t T'.heap (locs ++ L) e1.symm (by rw [← e2]; exact X'.warmed.alike) hp hb k1 k2 k3 T' rfl X'
    exact ⟨t2, st t2 a1, b1⟩
  · obtain ⟨k1, k2, k3⟩ := vx_keep h0 e1 hS hAX hf hL hF
    obtain ⟨t2, a1, b1⟩ := kx E ce q u t T'.heap (locs ++ L) e1.symm (by rw [← e2]; exact X'.warmed.alike) hp hb k1 k2 k3 (by rw [e1]; exact hce) hcv hcl T' rfl X'
    exact ⟨t2, st.trans a1, b1⟩
theorem vx_calll {S SX : Type} {post : Int64 → S → Prop} {px : SX → Prop} {B : S → State → Prop} {BX : String → SX → State → Prop} {AX : Nat → Prop} (hr : vx_Run p l e R s m args below meth c H locs cells slots mc ms (F0 m pc ls st0) rest (va_Ql post B A1 a) (vx_X px BX AX) free) (hS : va_S A0 H0 H locs) (hA : ∀ q, q < H.size → A1 q → A0 q) (hf : ∀ q, free q → A0 q) (hAX : ∀ q, q < H.size → AX q → A0 q)
    (kx : ∀ (E : String) (ce : Cell) (q9 : Addr) (u : SX) (t : State) (H1 : Heap) (locs1 : List Loc), t.heap = H1 → s.vm.Alike t.vm → px u → BX E u t → H.size ≤ H1.size → (∀ q : Nat, q < H.size → ¬ AX q → H1[q]? = H[q]?) → va_S A0 H0 H1 locs1 → H1[q9]? = some ce → ce.vm = .none → s.vm.findClass E = some ce.cls → vx_W p l e R s m args below meth c H1 locs1 (cells + mc) (slots + ms) Q (F0 m pc ls rest) q9)
    (kk : ∀ (r : Int64) (u : S) (t : State) (H1 : Heap) (locs1 : List Loc), t.heap = H1 → s.vm.Alike t.vm → post r u → B u t → H.size ≤ H1.size → (∀ q : Nat, q < H.size → ¬ A1 q → H1[q]? = H[q]?) → va_S A0 H0 H1 locs1 → W p l e R s m args below meth c H1 locs1 (cells + mc) (slots + ms) Q (F0 m (pc + 3) ls (.long r :: rest))) : W p l e R s m args below meth c H locs cells slots Q (F0 m pc ls st0) := by
  intro T hT X
  rcases hr T hT X with ⟨v, st₀, t, T', L, h0, X', hL, e1, e2, ⟨⟨r, u, hv, hp, hb⟩, hF⟩, st⟩ | ⟨q, st₀, t, T', L, E, ce, h0, X', hL, e1, e2, ⟨u, hp, hb, hF⟩, hce, hcv, hcl, st⟩
  · cases hv
    obtain ⟨k1, k2, k3⟩ := vx_keep h0 e1 hS hA hf hL hF
    obtain ⟨t2, a1, b1⟩ := kk r u t T'.heap (locs ++ L) e1.symm (by rw [← e2]; exact X'.warmed.alike) hp hb k1 k2 k3 T' rfl X'
    exact ⟨t2, st t2 a1, b1⟩
  · obtain ⟨k1, k2, k3⟩ := vx_keep h0 e1 hS hAX hf hL hF
    obtain ⟨t2, a1, b1⟩ := kx E ce q u t T'.heap (locs ++ L) e1.symm (by rw [← e2]; exact X'.warmed.alike) hp hb k1 k2 k3 (by rw [e1]; exact hce) hcv hcl T' rfl X'
    exact ⟨t2, st.trans a1, b1⟩
theorem vx_callf {S SX : Type} {post : UInt32 → S → Prop} {px : SX → Prop} {B : S → State → Prop} {BX : String → SX → State → Prop} {AX : Nat → Prop} (hr : vx_Run p l e R s m args below meth c H locs cells slots mc ms (F0 m pc ls st0) rest (va_Qf post B A1 a) (vx_X px BX AX) free) (hS : va_S A0 H0 H locs) (hA : ∀ q, q < H.size → A1 q → A0 q) (hf : ∀ q, free q → A0 q) (hAX : ∀ q, q < H.size → AX q → A0 q)
    (kx : ∀ (E : String) (ce : Cell) (q9 : Addr) (u : SX) (t : State) (H1 : Heap) (locs1 : List Loc), t.heap = H1 → s.vm.Alike t.vm → px u → BX E u t → H.size ≤ H1.size → (∀ q : Nat, q < H.size → ¬ AX q → H1[q]? = H[q]?) → va_S A0 H0 H1 locs1 → H1[q9]? = some ce → ce.vm = .none → s.vm.findClass E = some ce.cls → vx_W p l e R s m args below meth c H1 locs1 (cells + mc) (slots + ms) Q (F0 m pc ls rest) q9)
    (kk : ∀ (r : UInt32) (u : S) (t : State) (H1 : Heap) (locs1 : List Loc), t.heap = H1 → s.vm.Alike t.vm → post r u → B u t → H.size ≤ H1.size → (∀ q : Nat, q < H.size → ¬ A1 q → H1[q]? = H[q]?) → va_S A0 H0 H1 locs1 → W p l e R s m args below meth c H1 locs1 (cells + mc) (slots + ms) Q (F0 m (pc + 3) ls (.float r :: rest))) : W p l e R s m args below meth c H locs cells slots Q (F0 m pc ls st0) := by
  intro T hT X
  rcases hr T hT X with ⟨v, st₀, t, T', L, h0, X', hL, e1, e2, ⟨⟨r, u, hv, hp, hb⟩, hF⟩, st⟩ | ⟨q, st₀, t, T', L, E, ce, h0, X', hL, e1, e2, ⟨u, hp, hb, hF⟩, hce, hcv, hcl, st⟩
  · cases hv
    obtain ⟨k1, k2, k3⟩ := vx_keep h0 e1 hS hA hf hL hF
    obtain ⟨t2, a1, b1⟩ := kk r u t T'.heap (locs ++ L) e1.symm (by rw [← e2]; exact X'.warmed.alike) hp hb k1 k2 k3 T' rfl X'
    exact ⟨t2, st t2 a1, b1⟩
  · obtain ⟨k1, k2, k3⟩ := vx_keep h0 e1 hS hAX hf hL hF
    obtain ⟨t2, a1, b1⟩ := kx E ce q u t T'.heap (locs ++ L) e1.symm (by rw [← e2]; exact X'.warmed.alike) hp hb k1 k2 k3 (by rw [e1]; exact hce) hcv hcl T' rfl X'
    exact ⟨t2, st.trans a1, b1⟩
theorem vx_calld {S SX : Type} {post : UInt64 → S → Prop} {px : SX → Prop} {B : S → State → Prop} {BX : String → SX → State → Prop} {AX : Nat → Prop} (hr : vx_Run p l e R s m args below meth c H locs cells slots mc ms (F0 m pc ls st0) rest (va_Qd post B A1 a) (vx_X px BX AX) free) (hS : va_S A0 H0 H locs) (hA : ∀ q, q < H.size → A1 q → A0 q) (hf : ∀ q, free q → A0 q) (hAX : ∀ q, q < H.size → AX q → A0 q)
    (kx : ∀ (E : String) (ce : Cell) (q9 : Addr) (u : SX) (t : State) (H1 : Heap) (locs1 : List Loc), t.heap = H1 → s.vm.Alike t.vm → px u → BX E u t → H.size ≤ H1.size → (∀ q : Nat, q < H.size → ¬ AX q → H1[q]? = H[q]?) → va_S A0 H0 H1 locs1 → H1[q9]? = some ce → ce.vm = .none → s.vm.findClass E = some ce.cls → vx_W p l e R s m args below meth c H1 locs1 (cells + mc) (slots + ms) Q (F0 m pc ls rest) q9)
    (kk : ∀ (r : UInt64) (u : S) (t : State) (H1 : Heap) (locs1 : List Loc), t.heap = H1 → s.vm.Alike t.vm → post r u → B u t → H.size ≤ H1.size → (∀ q : Nat, q < H.size → ¬ A1 q → H1[q]? = H[q]?) → va_S A0 H0 H1 locs1 → W p l e R s m args below meth c H1 locs1 (cells + mc) (slots + ms) Q (F0 m (pc + 3) ls (.double r :: rest))) : W p l e R s m args below meth c H locs cells slots Q (F0 m pc ls st0) := by
  intro T hT X
  rcases hr T hT X with ⟨v, st₀, t, T', L, h0, X', hL, e1, e2, ⟨⟨r, u, hv, hp, hb⟩, hF⟩, st⟩ | ⟨q, st₀, t, T', L, E, ce, h0, X', hL, e1, e2, ⟨u, hp, hb, hF⟩, hce, hcv, hcl, st⟩
  · cases hv
    obtain ⟨k1, k2, k3⟩ := vx_keep h0 e1 hS hA hf hL hF
    obtain ⟨t2, a1, b1⟩ := kk r u t T'.heap (locs ++ L) e1.symm (by rw [← e2]; exact X'.warmed.alike) hp hb k1 k2 k3 T' rfl X'
    exact ⟨t2, st t2 a1, b1⟩
  · obtain ⟨k1, k2, k3⟩ := vx_keep h0 e1 hS hAX hf hL hF
    obtain ⟨t2, a1, b1⟩ := kx E ce q u t T'.heap (locs ++ L) e1.symm (by rw [← e2]; exact X'.warmed.alike) hp hb k1 k2 k3 (by rw [e1]; exact hce) hcv hcl T' rfl X'
    exact ⟨t2, st.trans a1, b1⟩
theorem vx_callv {S SX : Type} {post : S → Prop} {px : SX → Prop} {B : S → State → Prop} {BX : String → SX → State → Prop} {AX : Nat → Prop} (hr : vx_Run p l e R s m args below meth c H locs cells slots mc ms (F0 m pc ls st0) rest (va_Qv post B A1 a) (vx_X px BX AX) free) (hS : va_S A0 H0 H locs) (hA : ∀ q, q < H.size → A1 q → A0 q) (hf : ∀ q, free q → A0 q) (hAX : ∀ q, q < H.size → AX q → A0 q)
    (kx : ∀ (E : String) (ce : Cell) (q9 : Addr) (u : SX) (t : State) (H1 : Heap) (locs1 : List Loc), t.heap = H1 → s.vm.Alike t.vm → px u → BX E u t → H.size ≤ H1.size → (∀ q : Nat, q < H.size → ¬ AX q → H1[q]? = H[q]?) → va_S A0 H0 H1 locs1 → H1[q9]? = some ce → ce.vm = .none → s.vm.findClass E = some ce.cls → vx_W p l e R s m args below meth c H1 locs1 (cells + mc) (slots + ms) Q (F0 m pc ls rest) q9)
    (kk : ∀ (u : S) (t : State) (H1 : Heap) (locs1 : List Loc), t.heap = H1 → s.vm.Alike t.vm → post u → B u t → H.size ≤ H1.size → (∀ q : Nat, q < H.size → ¬ A1 q → H1[q]? = H[q]?) → va_S A0 H0 H1 locs1 → W p l e R s m args below meth c H1 locs1 (cells + mc) (slots + ms) Q (F0 m (pc + 3) ls (rest))) : W p l e R s m args below meth c H locs cells slots Q (F0 m pc ls st0) := by
  intro T hT X
  rcases hr T hT X with ⟨v, st₀, t, T', L, h0, X', hL, e1, e2, ⟨⟨u, hv, hp, hb⟩, hF⟩, st⟩ | ⟨q, st₀, t, T', L, E, ce, h0, X', hL, e1, e2, ⟨u, hp, hb, hF⟩, hce, hcv, hcl, st⟩
  · cases hv
    obtain ⟨k1, k2, k3⟩ := vx_keep h0 e1 hS hA hf hL hF
    obtain ⟨t2, a1, b1⟩ := kk u t T'.heap (locs ++ L) e1.symm (by rw [← e2]; exact X'.warmed.alike) hp hb k1 k2 k3 T' rfl X'
    exact ⟨t2, st t2 a1, b1⟩
  · obtain ⟨k1, k2, k3⟩ := vx_keep h0 e1 hS hAX hf hL hF
    obtain ⟨t2, a1, b1⟩ := kx E ce q u t T'.heap (locs ++ L) e1.symm (by rw [← e2]; exact X'.warmed.alike) hp hb k1 k2 k3 (by rw [e1]; exact hce) hcv hcl T' rfl X'
    exact ⟨t2, st.trans a1, b1⟩
/-- caught by the row x of this method's table; the rows ahead don't take it -/
theorem vx_catch {own name : String} {E : String} {ce : Cell} {q : Addr} (hown : s.vm.findClass own = some m.cls) (pre : List ExceptionTableEntry) (x : ExceptionTableEntry) (suf : List ExceptionTableEntry) (hsplit : c.exceptionTable.toList = pre ++ x :: suf)
    (hpass : ∀ z ∈ pre, covers z pc = false ∨ (z.catchType ≠ 0 ∧ ∃ nm : String, (Cond.classLink own z.catchType nm).before args s = true ∧ va_Nc E nm s)) (hx : covers x pc = true) (h0 : x.catchType ≠ 0)
    (hlink : (Cond.classLink own x.catchType name).before args s = true) (hcast : (Cond.castable E name).before args s = true) (hcell : H[q]? = some ce) (hv : ce.vm = .none) (hcl : s.vm.findClass E = some ce.cls)
    (kk : W p l e R s m args below meth c H locs cells slots Q (F0 m x.handlerPc ls [.ref q])) : vx_W p l e R s m args below meth c H locs cells slots Q (F0 m pc ls rest) q := by
  intro T hT X
  have hpl : e.platform.magicAccessors = ({} : Platform).magicAccessors := by rw [X.admits.platform]
  obtain ⟨c3, c4, hc3, hc4, hasg⟩ := Cond.castable_spec hcast
  cases Option.some.inj (hc3.symm.trans hcl)
  obtain ⟨c5, hc5, hcl5⟩ := Cond.classLink_spec hown hlink e.platform hpl
  cases Option.some.inj (hc4.symm.trans hc5)
  obtain ⟨vm', X', st⟩ := X.thenCaughtThrough q (g := F0 m pc ls rest) rfl (Steps.refl _) (by rw [hT]; exact hcell) (by rw [hv]; rfl) (by obtain ⟨k9, h9, -⟩ := Vm.findClass_spec hcl; exact ⟨k9, h9⟩) pre x suf hsplit
    (fun z hz => by
      rcases hpass z hz with h | ⟨hz0, nm, hl1, hn1⟩
      · exact Or.inl h
      · obtain ⟨c6, hc6, hcl6⟩ := Cond.classLink_spec hown hl1 e.platform hpl
        obtain ⟨a8, b8, h1, h2, h3⟩ := hn1
        cases Option.some.inj (h1.symm.trans hcl)
        cases Option.some.inj (h2.symm.trans hc6)
        exact Or.inr ⟨hz0, _, hcl6, h3⟩) hx (Or.inr ⟨h0, c4, hcl5, hasg⟩)
  obtain ⟨t, a1, b1⟩ := kk (T.setVm vm') hT X'
  exact ⟨t, st.trans a1, b1⟩
end Rows
section Ends
variable {p : Program} {l : Launch} {e : Env} {R : Room} {s : State} {m : MethodId} {args : Array Value} {below : List Frame} {meth : Method} {c : Code} {H : Heap} {locs : List Loc} {cells slots : Nat} {Q : State → Prop}
variable {mc ms : Nat} {free : Addr → Prop} {A0 A1 : Nat → Prop} {H0 : Heap} {a : Array Value} {ls : Array Slot} {st0 rest : List Value}
variable {Qc : Array Value → State → Outcome → State → Prop} {XC : String → State → State → Prop}
/-- what a body that may throw owes at its end -/
def vx_MQ (below : List Frame) (Qc : Array Value → State → Outcome → State → Prop) (XC : String → State → State → Prop) (a : Array Value) (s : State) (mc ms : Nat) (free : Addr → Prop) : State → Prop := fun t =>
  ∃ o, t.status = .running ∧ Ended t below o ∧ vx_Q Qc XC mc ms free a s o t
theorem vx_ret {g : JFrame} {mc ms : Nat} (k : W p l e R s m args below meth c H locs cells slots (MQ below Qc args s mc ms free) g) : W p l e R s m args below meth c H locs cells slots (vx_MQ below Qc XC args s mc ms free) g := by
  intro T hT X
  obtain ⟨t, a1, o, b1, b2, b3, b4⟩ := k T hT X
  exact ⟨t, a1, o, b1, b2, Or.inl ⟨b3, b4⟩⟩
/-- not caught here: it goes on to the caller -/
theorem vx_widen {g : JFrame} {q : Addr} {k n : Nat} (h1 : cells ≤ k) (h2 : slots ≤ n) (kk : vx_W p l e R s m args below meth c H locs k n Q g q) : vx_W p l e R s m args below meth c H locs cells slots Q g q := fun T hT X => kk T hT (stand_widen X h1 h2)
theorem vx_out {pc : Nat} {E : String} {ce : Cell} {q : Addr} {mc ms : Nat} (hout : ∀ x ∈ c.exceptionTable.toList, covers x pc = false) (hlocks : meth.locks = false) (hcell : H[q]? = some ce) (hv : ce.vm = .none) (hcl : s.vm.findClass E = some ce.cls)
    (hx : ∀ t : State, t.heap = H → s.vm.Alike t.vm → XC E s t) (hf : ∀ z ∈ locs, free z.base) (hc : cells ≤ mc) (hs : slots ≤ ms) :
    vx_W p l e R s m args below meth c H locs cells slots (vx_MQ below Qc XC args s mc ms free) (F0 m pc ls rest) q := by
  intro T hT X
  obtain ⟨st1, hrun, hend, hW, hsm⟩ := X.leaveThrown q (g := F0 m pc ls rest) rfl rfl rfl hout hlocks
  have hcell9 : (T.setFrames (.throwing q :: below)).heap[q]? = some ce := by
    show T.heap[q]? = some ce
    rw [hT]; exact hcell
  exact ⟨_, st1, .threw q, hrun, hend, Or.inr ⟨q, rfl, E, ce, locs, hx _ hT hW.alike, hcell9, hv, hcl, hW, hsm.mono hc hs, hf⟩⟩
theorem vx_frame {U : State} {k n : Nat} (h : s.sameButNew ({ U with vm := s.vm } : State) locs k n) : s.heap.size ≤ U.heap.size ∧ ∀ q : Nat, q < s.heap.size → (∀ z ∈ locs, z.base ≠ q) → U.heap[q]? = s.heap[q]? := by
  obtain ⟨-, h2, -, -, -, h6⟩ := h
  refine ⟨h2, fun q hq hz => ?_⟩
  obtain ⟨c9, e1, e2, e3, e4⟩ := h6 q _ (Array.getElem?_eq_getElem hq)
  have hs : c9.slots = (s.heap[q]).slots := Array.ext_getElem? fun i => e4 i fun hm => hz _ hm rfl
  have h9 : c9 = s.heap[q] := by
    rw [hs] at e2
    exact e2
  have e5 : U.heap[q]? = some c9 := e1
  rw [e5, h9, Array.getElem?_eq_getElem hq]
/-- the words of a throw but the four that speak of the heap -/
def vx_no (w : Cond) : Bool := decide (w ≠ .isRef (.static Bundle.tN "UNASSIGNED_STACK" Bundle.steD)) && decide (w ≠ .isRef (.static Bundle.tN "SUPPRESSED_SENTINEL" Bundle.listD)) && decide (w ≠ .laysStatic Bundle.tN "UNASSIGNED_STACK" Bundle.steD) && decide (w ≠ .laysStatic Bundle.tN "SUPPRESSED_SENTINEL" Bundle.listD)
def vx_at0 (own : String) (ic : Nat) (X : String) (names : List String) : List Cond := (Bundle.ownAtoms0 own ic X names).filter vx_no
def vx_atS (own : String) (ic : Nat) (X : String) (names : List String) : List Cond := (Bundle.ownAtoms own ic X names).filter vx_no
/-- a word that the tables alone decide, or a good one -/
def vx_ot (w : Cond) : Bool := w.onTables || goodWord w
theorem vx_ot_at {args a' : Array Value} {s U : State} {w : Cond} (hW : s.WarmedH U.vm) (hvm : s.vm = U.vm) (hg : vx_ot w = true) (h : w.before args s = true) : w.before a' U = true := by
  simp only [vx_ot, Bool.or_eq_true] at hg
  rcases hg with hg | hg
  · exact va_tabs hg hvm h
  · exact word_at hW (good_of_word hg) h
/-- a list's words: the good ones out of the method's own list, the others by premises of their own -/
theorem vx_hat {args : Array Value} {s : State} {L B : List Cond} (h1 : ∀ w ∈ L.filter goodWord, w.before args s = true) (h2 : ∀ w ∈ L.filter (fun w => !goodWord w), w ∈ B) (h3 : ∀ w ∈ B, w.before args s = true) : ∀ w ∈ L, w.before args s = true := by
  intro w hw
  by_cases g : goodWord w = true
  · exact h1 w (List.mem_filter.mpr ⟨hw, g⟩)
  · refine h3 w (h2 w (List.mem_filter.mpr ⟨hw, ?_⟩))
    show (!goodWord w) = true
    cases hgw : goodWord w
    · rfl
    · exact absurd hgw g
theorem vx_c {args : Array Value} {s : State} {w : Cond} {B : List Cond} (h : w.before args s = true) (t : ∀ w ∈ B, w.before args s = true) : ∀ w' ∈ w :: B, w'.before args s = true := fun w' h' => (List.mem_cons.mp h').elim (fun e => by rw [e]; exact h) (t w')
theorem vx_n {args : Array Value} {s : State} : ∀ w ∈ ([] : List Cond), w.before args s = true := fun _ h => nomatch h
theorem vx_own {args : Array Value} {s : State} {L : List Cond} (h1 : ∀ w ∈ L.filter vx_no, w.before args s = true)
    (hU : (Cond.isRef (.static Bundle.tN "UNASSIGNED_STACK" Bundle.steD)).before args s = true) (hN : (Cond.isRef (.static Bundle.tN "SUPPRESSED_SENTINEL" Bundle.listD)).before args s = true)
    (lU : (Cond.laysStatic Bundle.tN "UNASSIGNED_STACK" Bundle.steD).before args s = true) (lN : (Cond.laysStatic Bundle.tN "SUPPRESSED_SENTINEL" Bundle.listD).before args s = true) : ∀ w ∈ L, w.before args s = true := by
  intro w hw
  by_cases e1 : w = .isRef (.static Bundle.tN "UNASSIGNED_STACK" Bundle.steD)
  · rw [e1]; exact hU
  · by_cases e2 : w = .isRef (.static Bundle.tN "SUPPRESSED_SENTINEL" Bundle.listD)
    · rw [e2]; exact hN
    · by_cases e3 : w = .laysStatic Bundle.tN "UNASSIGNED_STACK" Bundle.steD
      · rw [e3]; exact lU
      · by_cases e4 : w = .laysStatic Bundle.tN "SUPPRESSED_SENTINEL" Bundle.listD
        · rw [e4]; exact lN
        · exact h1 w (List.mem_filter.mpr ⟨hw, by unfold vx_no; rw [decide_eq_true e1, decide_eq_true e2, decide_eq_true e3, decide_eq_true e4]; rfl⟩)
/-- where a static field lies, its class's statics cell in H -/
def vx_L (C n d : String) (A : Nat → Prop) (U : State) (H : Heap) : Prop := ∃ (c : ClassId) (k : Class) (i : Nat) (f : Field) (a : Nat) (cell : Cell), U.vm.findClass C = some c ∧ U.fieldFound? C n d = some (c, k, i, f) ∧ f.isStatic = true ∧ k.statics = some a ∧ H[a]? = some cell ∧ cell.vm.isStatics = true ∧ cell.cls = c ∧ f.slot < cell.slots.size ∧ k.staticTypes[f.slot]? = some f.type ∧ ¬ A a
theorem vx_L.moved {C n d : String} {A : Nat → Prop} {u U : State} {H : Heap} (hvm : u.vm.Alike U.vm) (h : vx_L C n d A u H) : vx_L C n d A U H := by
  obtain ⟨c, k, i, f, a, cell, h1, h2, h3, h4, h5, h6, h7, h8, h9, h10⟩ := h
  obtain ⟨k', hi', he⟩ := State.fieldFound?_setVm hvm h2
  exact ⟨c, k', i, f, a, cell, by rw [hvm.findClass]; exact h1, hi', h3, by rw [he]; exact h4, h5, h6, h7, h8, by rw [he]; exact h9, h10⟩
theorem vx_L.kept {C n d : String} {A : Nat → Prop} {U : State} {H H1 : Heap} (h : vx_L C n d A U H) (hq : ∀ a : Nat, a < H.size → ¬ A a → H1[a]? = H[a]?) : vx_L C n d A U H1 := by
  obtain ⟨c, k, i, f, a, cell, h1, h2, h3, h4, h5, h6, h7, h8, h9, h10⟩ := h
  exact ⟨c, k, i, f, a, cell, h1, h2, h3, h4, by rw [hq a (Array.getElem?_eq_some_iff.mp h5).1 h10]; exact h5, h6, h7, h8, h9, h10⟩
theorem vx_L.narrow {C n d : String} {A B : Nat → Prop} {U : State} {H : Heap} (h : vx_L C n d A U H) (hAB : ∀ q, B q → A q) : vx_L C n d B U H := by
  obtain ⟨c, k, i, f, a, cell, h1, h2, h3, h4, h5, h6, h7, h8, h9, h10⟩ := h
  exact ⟨c, k, i, f, a, cell, h1, h2, h3, h4, h5, h6, h7, h8, h9, fun z => h10 (hAB _ z)⟩
theorem vx_L.word {C n d : String} {A : Nat → Prop} {s : State} {args : Array Value} (h : vx_L C n d A s s.heap) : (Cond.laysStatic C n d).before args s = true := by
  obtain ⟨c, k, i, f, a, cell, h1, h2, h3, h4, h5, h6, h7, h8, h9, -⟩ := h
  show (Cond.laysStatic C n d).holds args s none s [] = true
  exact Cond.laysStatic_of h1 h2 h3 h4 h5 h6 h7 h8 h9
/-- .. and what it holds: null or some reference -/
def vx_Zq (C n d : String) (A : Nat → Prop) (U : State) (H : Heap) : Prop := va_Zq C n d A U H ∧ vx_L C n d A U H
theorem vx_Zq.moved {C n d : String} {A : Nat → Prop} {u U : State} {H : Heap} (hvm : u.vm.Alike U.vm) (h : vx_Zq C n d A u H) : vx_Zq C n d A U H := ⟨va_Zq.moved hvm h.1, vx_L.moved hvm h.2⟩
theorem vx_Zq.kept {C n d : String} {A : Nat → Prop} {U : State} {H H1 : Heap} (h : vx_Zq C n d A U H) (hq : ∀ a : Nat, a < H.size → ¬ A a → H1[a]? = H[a]?) : vx_Zq C n d A U H1 := ⟨va_Zq.kept h.1 hq, vx_L.kept h.2 hq⟩
theorem vx_Zq.narrow {C n d : String} {A B : Nat → Prop} {U : State} {H : Heap} (h : vx_Zq C n d A U H) (hAB : ∀ q, B q → A q) : vx_Zq C n d B U H := ⟨va_Zq.narrow h.1 hAB, vx_L.narrow h.2 hAB⟩
theorem vx_Zqof {args : Array Value} {s : State} {C n d : String} {A : Nat → Prop} (hl : (Cond.laysStatic C n d).before args s = true) (hini : (Cond.initialized C).before args s = true) (h : (Cond.isRef (.static C n d)).before args s = true) (hA : ∀ a : Nat, a < s.heap.size → ¬ A a) : vx_Zq C n d A s s.heap := by
  refine ⟨va_Zqof hl hini h hA, ?_⟩
  obtain ⟨c, k, i, f, a, cell, h1, h2, h3, h4, h5, h6, h7, h8, h9⟩ := Cond.laysStatic_spec hl
  exact ⟨c, k, i, f, a, cell, h1, h2, h3, h4, h5, h6, h7, h8, h9, hA a (Array.getElem?_eq_some_iff.mp h5).1⟩
theorem vx_isRef {C n d : String} {v : Value} {A : Nat → Prop} {s : State} {args : Array Value} (h : va_Z C n d v A s s.heap) (hv : v.isRef = true) : (Cond.isRef (.static C n d)).before args s = true := by
  obtain ⟨cf, kf, fi, f, a, cell, h1, h2, h3, h4, h5, h6, h7, -⟩ := h
  have he : (Term.static C n d).eval args s none [] s = some v := by
    simp [Term.eval, State.fieldNamed?, h1, h2, h4, h5, h6, h7]
  simp only [Cond.before, Cond.holds, Cond.value, he]
  cases v <;> simp_all [Value.isRef]
theorem vx_isRefq {C n d : String} {A : Nat → Prop} {s : State} {args : Array Value} (h : va_Zq C n d A s s.heap) : (Cond.isRef (.static C n d)).before args s = true := by
  rcases h with h | ⟨t, h⟩
  · exact vx_isRef h rfl
  · exact vx_isRef h rfl
/-- the same frame, seen from here: as if the method were called anew in this heap -/
theorem vx_rebase {T : State} (X : Stand p l e R s m args below meth c T locs cells slots) {R' : Room} (hf : R'.frames ≤ R.frames) (hl : R'.locals ≤ R.locals) (hc : cells + R'.cells ≤ R.cells) (hs : slots + R'.slots ≤ R.slots) :
    Stand p l e R' ((T.setVm s.vm).setFrames (.invoking m args :: below)) m args below meth c T [] 0 0 := by
  have htop : (T.setVm s.vm).topJava?.isSome := X.here.top
  have hF : ((T.setVm s.vm).setFrames (.invoking m args :: below)).frames = .invoking m args :: below := State.frames_setFrames _ (State.cur_lt_of_top htop)
  obtain ⟨g₀, hg0⟩ := Option.isSome_iff_exists.mp htop
  obtain ⟨r, hr⟩ := State.topJava?_eq_some.mp hg0
  have hl9 : e.platform.stackLimits (T.setVm s.vm).me = e.platform.stackLimits s.me := X.limits
  have hb9 : (T.setVm s.vm).me.stackBytes = s.me.stackBytes := X.bytes
  refine ⟨X.admits, X.cas, X.clock, hF, ?_, X.hears, X.method, X.code, X.here, X.tail, X.warmed, ?_, ?_, ?_⟩
  · have h := X.room
    have hU : ((T.setVm s.vm).setFrames (.invoking m args :: below)).localsInUse = s.localsInUse := by
      rw [State.localsInUse_invoking hF (meth := meth) (c := c) X.method X.code, State.localsInUse_invoking X.frames X.method X.code]
    simp only [State.hasRoom, Bool.and_eq_true, decide_eq_true_eq] at h ⊢
    obtain ⟨⟨⟨⟨h1, h2, h3, h4, h5, h6⟩, h7⟩, h8⟩, h9⟩ := h
    rw [X.frames, List.length_cons] at h2 h3
    have q1 := X.heapSize
    have q2 := X.used
    simp only [hF, hU, List.length_cons, State.stackLimits_setFrames, State.stackBytes_setFrames, hl9, hb9]
    refine ⟨⟨⟨⟨by omega, by omega, by omega, by omega, by omega, h6⟩, ?_⟩, ?_⟩, X.book⟩
    · show T.heap.size + R'.cells ≤ e.platform.maxCells
      omega
    · show T.slotsUsed + R'.slots ≤ e.platform.maxSlots
      omega
  · rw [State.stackLimits_setFrames]; rfl
  · rw [State.stackBytes_setFrames]; rfl
  · refine ⟨?_, Nat.le_refl _, Nat.le_refl _, ?_, ?_, fun a c9 h9 => ⟨c9, h9, rfl, rfl, fun _ _ => rfl⟩⟩
    · obtain ⟨t, ht, -⟩ := State.frames_cons hr
      show T.setVm s.vm = { ((T.setVm s.vm).setFrames (.invoking m args :: below)).setFrames (T.setVm s.vm).frames with heap := T.heap, slotsUsed := T.slotsUsed }
      rw [State.setFrames_setFrames, State.setFrames_self ht]
      rfl
    · show T.slotsUsed = T.slotsUsed + ((T.heap.toList.drop T.heap.size).map (·.slots.size)).sum
      rw [List.drop_eq_nil_of_le (Nat.le_of_eq Array.length_toList)]
      rfl
    · show ((T.heap.toList.drop T.heap.size).map (·.slots.size)).sum ≤ 0
      rw [List.drop_eq_nil_of_le (Nat.le_of_eq Array.length_toList)]
      exact Nat.le_refl _
/-- 'throw new E()': new; dup; invokespecial; athrow -/
theorem vx_throw0 {cc : ByteArray} {pc : Nat} (hexec : p.tables.exec = Jvm.exec) (hb : c.code = cc) (hl : l.stackTraces = false) {own cls : String} {names : List String} {ik ic mc ms : Nat} {A : Nat → Prop}
    (hown : s.vm.findClass own = some m.cls) (hcls : Bundle.fit cls = true) (hnames : ∀ n ∈ names, Bundle.fit n = true)
    (hk : (Cond.classLink own ik cls).before args s = true) (hini : (Cond.initialized cls).before args s = true) (hat : ∀ w ∈ vx_at0 own ic cls names, w.before args s = true)
    (hgood : ∀ w ∈ Cond.classLink own ik cls :: Cond.initialized cls :: vx_at0 own ic cls names, vx_ot w = true)
    (hU : vx_Zq Bundle.tN "UNASSIGNED_STACK" Bundle.steD A s s.heap) (hN : vx_Zq Bundle.tN "SUPPRESSED_SENTINEL" Bundle.listD A s s.heap) (hS : va_S A s.heap H locs) (hsize : ls.size = c.maxLocals)
    (d0 : decode cc pc = .ok (.new ik, 3)) (d3 : decode cc (pc + 3) = .ok (.dup, 1)) (d4 : decode cc (pc + 4) = .ok (.invokespecial ic, 3)) (d7 : decode cc (pc + 7) = .ok (.athrow, 1))
    (hout : ∀ x ∈ c.exceptionTable.toList, covers x (pc + 7) = false)
    (hRframes : names.length + 3 < R.frames) (hRlocals : (rest.map fun v => v.category).sum + (13 * (names.length + 1) + 42) ≤ R.locals) (hRcells : cells + 1 ≤ R.cells) (hRslots : slots + 6 ≤ R.slots) (hlocks : meth.locks = false)
    (hx : ∀ t : State, s.vm.Alike t.vm → H.size ≤ t.heap.size → (∀ q : Nat, q < H.size → t.heap[q]? = H[q]?) → XC cls s t)
    (hf : ∀ z ∈ locs, free z.base) (hc : cells + 1 ≤ mc) (hs : slots + 6 ≤ ms) :
    W p l e R s m args below meth c H locs cells slots (vx_MQ below Qc XC args s mc ms free) (F0 m pc ls rest) := by
  intro T hT X
  have htr : e.platform.stackTraces = false := (show e.platform.stackTraces = l.stackTraces by rw [X.admits.platform]).trans hl
  have Y := vx_rebase X (R' := { frames := R.frames, locals := R.locals, cells := 1, slots := 6 }) (Nat.le_refl _) (Nat.le_refl _) hRcells hRslots
  obtain ⟨s', hA⟩ : ∃ z, z = (T.setVm s.vm).setFrames (.invoking m args :: below) := ⟨_, rfl⟩
  rw [← hA] at Y
  have hvm : s'.vm = s.vm := by rw [hA]; rfl
  have hhp : s'.heap = H := by rw [hA]; exact hT
  have hW0 : s.WarmedH s'.vm := by rw [hvm]; exact State.WarmedH.refl s
  have hat' : ∀ w ∈ vx_at0 own ic cls names, w.before args s' = true := fun w hw => vx_ot_at hW0 hvm.symm (hgood w (List.mem_cons_of_mem _ (List.mem_cons_of_mem _ hw))) (hat w hw)
  have hk' : (Cond.classLink own ik cls).before args s' = true := vx_ot_at hW0 hvm.symm (hgood _ List.mem_cons_self) hk
  have hini' : (Cond.initialized cls).before args s' = true := vx_ot_at hW0 hvm.symm (hgood _ (List.mem_cons_of_mem _ List.mem_cons_self)) hini
  have hU' : vx_Zq Bundle.tN "UNASSIGNED_STACK" Bundle.steD A s' s'.heap := by rw [hhp]; exact vx_Zq.moved hW0.alike (hU.kept hS.2.1)
  have hN' : vx_Zq Bundle.tN "SUPPRESSED_SENTINEL" Bundle.listD A s' s'.heap := by rw [hhp]; exact vx_Zq.moved hW0.alike (hN.kept hS.2.1)
  have h : ∀ w ∈ Bundle.ownAtoms0 own ic cls names, w.before args s' = true := vx_own hat' (vx_isRefq hU'.1) (vx_isRefq hN'.1) hU'.2.word hN'.2.word
  have hown' : s'.vm.findClass own = some m.cls := by rw [hvm]; exact hown
  have hins : (Cond.instantiable cls 6).before args s' = true := h _ (by simp [Bundle.ownAtoms0])
  obtain ⟨vm₁, cX, kX, hfX, hkX, -, -, X₁, st1⟩ := Y.newCold hexec (own := own) (C := cls) (index := ik) (n := 6) hown' hk' hins hini'
    (g := F0 m pc ls rest) rfl (by rw [hb]; exact d0) (Nat.le_refl _) (Nat.le_refl _)
  generalize hT1 : (T.setVm vm₁).pushCell { cls := cX, slots := kX.instanceTypes.map defaultValue, vm := .none } = T1 at X₁ st1
  have hcat : (Value.ref T.heap.size).category = 1 := rfl
  have hcellA : T1.heap[T.heap.size]? = some (freshCell cX kX) := by rw [← hT1]; exact State.heap_pushCell_size _ _
  have d3' : decode c.code (pc + 3) = .ok (.dup, 1) := by rw [hb]; exact d3
  obtain ⟨U, hsteps, hrun, hend, hW, hsame, ce, hce, hO⟩ := X₁.ctorThrow0 hexec htr (own := own) (cls := cls) (names := names) (ic := ic) hown' hcls hnames h (fun x hx => nomatch hx) hfX hkX hcellA (by rw [hhp, hT]; exact Nat.le_refl _)
    (g := { method := m, pc := pc + 4, locals := ls, stack := .ref T.heap.size :: .ref T.heap.size :: rest, locked := none }) rfl hsize rfl rfl (rest := rest) rfl
    (by rw [hb]; exact d4) (by rw [hb]; exact d7) hout hRframes (by simp only [List.map_cons, List.sum_cons, hcat]; omega) hlocks
  obtain ⟨f1, f2⟩ := vx_frame hsame
  rw [hhp] at f1 f2
  have hWs : s.WarmedH U.vm := State.WarmedH.trans hW0 hW
  have hcl : s.vm.findClass cls = some ce.cls := by
    have h9 := hO.cls
    rw [hvm] at h9
    exact h9
  have hall : s.sameButNew ({ U with vm := s.vm } : State) locs mc ms := by
    subst hA
    obtain ⟨e1, e2⟩ := hsame
    rw [State.setFrames_setFrames] at e1
    have h2 : (T.setVm s.vm).sameButNew ({ U with vm := s.vm } : State) [] (0 + 1) (0 + 6) := ⟨e1, e2⟩
    have h3 := X.same.trans h2
    rw [List.append_nil] at h3
    exact h3.mono hc hs
  refine ⟨U, ?_, .threw T.heap.size, hrun, hend, Or.inr ⟨T.heap.size, rfl, cls, ce, locs, hx U hWs.alike f1 (fun q hq => f2 q hq (fun z hz => nomatch hz)), hce, hO.vm, hcl, hWs, hall, hf⟩⟩
  refine st1 _ ?_
  show Steps p.tables e below (T1.setTop { method := m, pc := pc + 3, locals := ls, stack := .ref T.heap.size :: rest, locked := none }) _
  jvm_step X₁.here [X₁.here.top, hexec, d3', Value.category]
  exact hsteps
/-- 'throw new E("text")': new; dup; ldc; invokespecial; athrow -/
theorem vx_throwS {cc : ByteArray} {pc : Nat} (hexec : p.tables.exec = Jvm.exec) (hb : c.code = cc) (hl : l.stackTraces = false) {own cls text : String} {names : List String} {ik is ic mc ms sa : Nat} {A : Nat → Prop}
    (hown : s.vm.findClass own = some m.cls) (hcls : Bundle.fit cls = true) (hnames : ∀ n ∈ names, Bundle.fit n = true)
    (hk : (Cond.classLink own ik cls).before args s = true) (hini : (Cond.initialized cls).before args s = true) (hstr : vk_R own is text sa s) (hat : ∀ w ∈ vx_atS own ic cls names, w.before args s = true)
    (hgood : ∀ w ∈ Cond.classLink own ik cls :: Cond.initialized cls :: vx_atS own ic cls names, vx_ot w = true)
    (hU : vx_Zq Bundle.tN "UNASSIGNED_STACK" Bundle.steD A s s.heap) (hN : vx_Zq Bundle.tN "SUPPRESSED_SENTINEL" Bundle.listD A s s.heap) (hS : va_S A s.heap H locs) (hsize : ls.size = c.maxLocals)
    (d0 : decode cc pc = .ok (.new ik, 3)) (d3 : decode cc (pc + 3) = .ok (.dup, 1)) (d4 : decode cc (pc + 4) = .ok (.ldc is, 2)) (d6 : decode cc (pc + 6) = .ok (.invokespecial ic, 3)) (d9 : decode cc (pc + 9) = .ok (.athrow, 1))
    (hout : ∀ x ∈ c.exceptionTable.toList, covers x (pc + 9) = false)
    (hRframes : names.length + 3 < R.frames) (hRlocals : (rest.map fun v => v.category).sum + (13 * (names.length + 1) + 43) ≤ R.locals) (hRcells : cells + 1 ≤ R.cells) (hRslots : slots + 6 ≤ R.slots) (hlocks : meth.locks = false)
    (hx : ∀ t : State, s.vm.Alike t.vm → H.size ≤ t.heap.size → (∀ q : Nat, q < H.size → t.heap[q]? = H[q]?) → XC cls s t)
    (hf : ∀ z ∈ locs, free z.base) (hc : cells + 1 ≤ mc) (hs : slots + 6 ≤ ms) :
    W p l e R s m args below meth c H locs cells slots (vx_MQ below Qc XC args s mc ms free) (F0 m pc ls rest) := by
  intro T hT X
  have htr : e.platform.stackTraces = false := (show e.platform.stackTraces = l.stackTraces by rw [X.admits.platform]).trans hl
  have Y := vx_rebase X (R' := { frames := R.frames, locals := R.locals, cells := 1, slots := 6 }) (Nat.le_refl _) (Nat.le_refl _) hRcells hRslots
  obtain ⟨s', hA⟩ : ∃ z, z = (T.setVm s.vm).setFrames (.invoking m args :: below) := ⟨_, rfl⟩
  rw [← hA] at Y
  have hvm : s'.vm = s.vm := by rw [hA]; rfl
  have hhp : s'.heap = H := by rw [hA]; exact hT
  have hW0 : s.WarmedH s'.vm := by rw [hvm]; exact State.WarmedH.refl s
  have hat' : ∀ w ∈ vx_atS own ic cls names, w.before args s' = true := fun w hw => vx_ot_at hW0 hvm.symm (hgood w (List.mem_cons_of_mem _ (List.mem_cons_of_mem _ hw))) (hat w hw)
  have hk' : (Cond.classLink own ik cls).before args s' = true := vx_ot_at hW0 hvm.symm (hgood _ List.mem_cons_self) hk
  have hini' : (Cond.initialized cls).before args s' = true := vx_ot_at hW0 hvm.symm (hgood _ (List.mem_cons_of_mem _ List.mem_cons_self)) hini
  have hU' : vx_Zq Bundle.tN "UNASSIGNED_STACK" Bundle.steD A s' s'.heap := by rw [hhp]; exact vx_Zq.moved hW0.alike (hU.kept hS.2.1)
  have hN' : vx_Zq Bundle.tN "SUPPRESSED_SENTINEL" Bundle.listD A s' s'.heap := by rw [hhp]; exact vx_Zq.moved hW0.alike (hN.kept hS.2.1)
  have h : ∀ w ∈ Bundle.ownAtoms own ic cls names, w.before args s' = true := vx_own hat' (vx_isRefq hU'.1) (vx_isRefq hN'.1) hU'.2.word hN'.2.word
  have hown' : s'.vm.findClass own = some m.cls := by rw [hvm]; exact hown
  have hins : (Cond.instantiable cls 6).before args s' = true := h _ (by simp [Bundle.ownAtoms])
  obtain ⟨vm₁, cX, kX, hfX, hkX, -, -, X₁, st1⟩ := Y.newCold hexec (own := own) (C := cls) (index := ik) (n := 6) hown' hk' hins hini'
    (g := F0 m pc ls rest) rfl (by rw [hb]; exact d0) (Nat.le_refl _) (Nat.le_refl _)
  generalize hT1 : (T.setVm vm₁).pushCell { cls := cX, slots := kX.instanceTypes.map defaultValue, vm := .none } = T1 at X₁ st1
  have hcat : (Value.ref T.heap.size).category = 1 := rfl
  have hcellA : T1.heap[T.heap.size]? = some (freshCell cX kX) := by rw [← hT1]; exact State.heap_pushCell_size _ _
  have d3' : decode c.code (pc + 3) = .ok (.dup, 1) := by rw [hb]; exact d3
  have d4' : decode c.code (pc + 4) = .ok (.ldc is, 2) := by rw [hb]; exact d4
  have hstr' : vk_R own is text sa s' := vk_R.warm hW0 hstr
  obtain ⟨U, hsteps, hrun, hend, hW, hsame, ce, hce, hO⟩ := X₁.ctorThrowS hexec htr (own := own) (cls := cls) (names := names) (ic := ic) hown' hcls hnames h (fun x hx => nomatch hx) hfX hkX hcellA (by rw [hhp, hT]; exact Nat.le_refl _) (msg := .ref sa) rfl
    (g := { method := m, pc := pc + 6, locals := ls, stack := .ref sa :: .ref T.heap.size :: .ref T.heap.size :: rest, locked := none }) rfl hsize rfl rfl (rest := rest) rfl
    (by rw [hb]; exact d6) (by rw [hb]; exact d9) hout hRframes (by simp only [List.map_cons, List.sum_cons, hcat]; omega) hlocks
  obtain ⟨f1, f2⟩ := vx_frame hsame
  rw [hhp] at f1 f2
  have hWs : s.WarmedH U.vm := State.WarmedH.trans hW0 hW
  have hcl : s.vm.findClass cls = some ce.cls := by
    have h9 := hO.cls
    rw [hvm] at h9
    exact h9
  have hall : s.sameButNew ({ U with vm := s.vm } : State) locs mc ms := by
    subst hA
    obtain ⟨e1, e2⟩ := hsame
    rw [State.setFrames_setFrames] at e1
    have h2 : (T.setVm s.vm).sameButNew ({ U with vm := s.vm } : State) [] (0 + 1) (0 + 6) := ⟨e1, e2⟩
    have h3 := X.same.trans h2
    rw [List.append_nil] at h3
    exact h3.mono hc hs
  refine ⟨U, ?_, .threw T.heap.size, hrun, hend, Or.inr ⟨T.heap.size, rfl, cls, ce, locs, hx U hWs.alike f1 (fun q hq => f2 q hq (fun z hz => nomatch hz)), hce, hO.vm, hcl, hWs, hall, hf⟩⟩
  refine st1 _ ?_
  show Steps p.tables e below (T1.setTop { method := m, pc := pc + 3, locals := ls, stack := .ref T.heap.size :: rest, locked := none }) _
  jvm_step X₁.here [X₁.here.top, hexec, d3', Value.category]
  exact X₁.ldcString hexec (own := own) (text := text) (index := is) (a := sa) hown' hstr'.1 hstr'.2
    (g := { method := m, pc := pc + 4, locals := ls, stack := .ref T.heap.size :: .ref T.heap.size :: rest, locked := none }) rfl d4' _ hsteps
/-- 'throw new E("text")', the text by a wide index -/
theorem vx_throwSW {cc : ByteArray} {pc : Nat} (hexec : p.tables.exec = Jvm.exec) (hb : c.code = cc) (hl : l.stackTraces = false) {own cls text : String} {names : List String} {ik is ic mc ms sa : Nat} {A : Nat → Prop}
    (hown : s.vm.findClass own = some m.cls) (hcls : Bundle.fit cls = true) (hnames : ∀ n ∈ names, Bundle.fit n = true)
    (hk : (Cond.classLink own ik cls).before args s = true) (hini : (Cond.initialized cls).before args s = true) (hstr : vk_R own is text sa s) (hat : ∀ w ∈ vx_atS own ic cls names, w.before args s = true)
    (hgood : ∀ w ∈ Cond.classLink own ik cls :: Cond.initialized cls :: vx_atS own ic cls names, vx_ot w = true)
    (hU : vx_Zq Bundle.tN "UNASSIGNED_STACK" Bundle.steD A s s.heap) (hN : vx_Zq Bundle.tN "SUPPRESSED_SENTINEL" Bundle.listD A s s.heap) (hS : va_S A s.heap H locs) (hsize : ls.size = c.maxLocals)
    (d0 : decode cc pc = .ok (.new ik, 3)) (d3 : decode cc (pc + 3) = .ok (.dup, 1)) (d4 : decode cc (pc + 4) = .ok (.ldc_w is, 3)) (d7 : decode cc (pc + 7) = .ok (.invokespecial ic, 3)) (d10 : decode cc (pc + 10) = .ok (.athrow, 1))
    (hout : ∀ x ∈ c.exceptionTable.toList, covers x (pc + 10) = false)
    (hRframes : names.length + 3 < R.frames) (hRlocals : (rest.map fun v => v.category).sum + (13 * (names.length + 1) + 43) ≤ R.locals) (hRcells : cells + 1 ≤ R.cells) (hRslots : slots + 6 ≤ R.slots) (hlocks : meth.locks = false)
    (hx : ∀ t : State, s.vm.Alike t.vm → H.size ≤ t.heap.size → (∀ q : Nat, q < H.size → t.heap[q]? = H[q]?) → XC cls s t)
    (hf : ∀ z ∈ locs, free z.base) (hc : cells + 1 ≤ mc) (hs : slots + 6 ≤ ms) :
    W p l e R s m args below meth c H locs cells slots (vx_MQ below Qc XC args s mc ms free) (F0 m pc ls rest) := by
  intro T hT X
  have htr : e.platform.stackTraces = false := (show e.platform.stackTraces = l.stackTraces by rw [X.admits.platform]).trans hl
  have Y := vx_rebase X (R' := { frames := R.frames, locals := R.locals, cells := 1, slots := 6 }) (Nat.le_refl _) (Nat.le_refl _) hRcells hRslots
  obtain ⟨s', hA⟩ : ∃ z, z = (T.setVm s.vm).setFrames (.invoking m args :: below) := ⟨_, rfl⟩
  rw [← hA] at Y
  have hvm : s'.vm = s.vm := by rw [hA]; rfl
  have hhp : s'.heap = H := by rw [hA]; exact hT
  have hW0 : s.WarmedH s'.vm := by rw [hvm]; exact State.WarmedH.refl s
  have hat' : ∀ w ∈ vx_atS own ic cls names, w.before args s' = true := fun w hw => vx_ot_at hW0 hvm.symm (hgood w (List.mem_cons_of_mem _ (List.mem_cons_of_mem _ hw))) (hat w hw)
  have hk' : (Cond.classLink own ik cls).before args s' = true := vx_ot_at hW0 hvm.symm (hgood _ List.mem_cons_self) hk
  have hini' : (Cond.initialized cls).before args s' = true := vx_ot_at hW0 hvm.symm (hgood _ (List.mem_cons_of_mem _ List.mem_cons_self)) hini
  have hU' : vx_Zq Bundle.tN "UNASSIGNED_STACK" Bundle.steD A s' s'.heap := by rw [hhp]; exact vx_Zq.moved hW0.alike (hU.kept hS.2.1)
  have hN' : vx_Zq Bundle.tN "SUPPRESSED_SENTINEL" Bundle.listD A s' s'.heap := by rw [hhp]; exact vx_Zq.moved hW0.alike (hN.kept hS.2.1)
  have h : ∀ w ∈ Bundle.ownAtoms own ic cls names, w.before args s' = true := vx_own hat' (vx_isRefq hU'.1) (vx_isRefq hN'.1) hU'.2.word hN'.2.word
  have hown' : s'.vm.findClass own = some m.cls := by rw [hvm]; exact hown
  have hins : (Cond.instantiable cls 6).before args s' = true := h _ (by simp [Bundle.ownAtoms])
  obtain ⟨vm₁, cX, kX, hfX, hkX, -, -, X₁, st1⟩ := Y.newCold hexec (own := own) (C := cls) (index := ik) (n := 6) hown' hk' hins hini'
    (g := F0 m pc ls rest) rfl (by rw [hb]; exact d0) (Nat.le_refl _) (Nat.le_refl _)
  generalize hT1 : (T.setVm vm₁).pushCell { cls := cX, slots := kX.instanceTypes.map defaultValue, vm := .none } = T1 at X₁ st1
  have hcat : (Value.ref T.heap.size).category = 1 := rfl
  have hcellA : T1.heap[T.heap.size]? = some (freshCell cX kX) := by rw [← hT1]; exact State.heap_pushCell_size _ _
  have d3' : decode c.code (pc + 3) = .ok (.dup, 1) := by rw [hb]; exact d3
  have d4' : decode c.code (pc + 4) = .ok (.ldc_w is, 3) := by rw [hb]; exact d4
  have hstr' : vk_R own is text sa s' := vk_R.warm hW0 hstr
  obtain ⟨U, hsteps, hrun, hend, hW, hsame, ce, hce, hO⟩ := X₁.ctorThrowS hexec htr (own := own) (cls := cls) (names := names) (ic := ic) hown' hcls hnames h (fun x hx => nomatch hx) hfX hkX hcellA (by rw [hhp, hT]; exact Nat.le_refl _) (msg := .ref sa) rfl
    (g := { method := m, pc := pc + 7, locals := ls, stack := .ref sa :: .ref T.heap.size :: .ref T.heap.size :: rest, locked := none }) rfl hsize rfl rfl (rest := rest) rfl
    (by rw [hb]; exact d7) (by rw [hb]; exact d10) hout hRframes (by simp only [List.map_cons, List.sum_cons, hcat]; omega) hlocks
  obtain ⟨f1, f2⟩ := vx_frame hsame
  rw [hhp] at f1 f2
  have hWs : s.WarmedH U.vm := State.WarmedH.trans hW0 hW
  have hcl : s.vm.findClass cls = some ce.cls := by
    have h9 := hO.cls
    rw [hvm] at h9
    exact h9
  have hall : s.sameButNew ({ U with vm := s.vm } : State) locs mc ms := by
    subst hA
    obtain ⟨e1, e2⟩ := hsame
    rw [State.setFrames_setFrames] at e1
    have h2 : (T.setVm s.vm).sameButNew ({ U with vm := s.vm } : State) [] (0 + 1) (0 + 6) := ⟨e1, e2⟩
    have h3 := X.same.trans h2
    rw [List.append_nil] at h3
    exact h3.mono hc hs
  refine ⟨U, ?_, .threw T.heap.size, hrun, hend, Or.inr ⟨T.heap.size, rfl, cls, ce, locs, hx U hWs.alike f1 (fun q hq => f2 q hq (fun z hz => nomatch hz)), hce, hO.vm, hcl, hWs, hall, hf⟩⟩
  refine st1 _ ?_
  show Steps p.tables e below (T1.setTop { method := m, pc := pc + 3, locals := ls, stack := .ref T.heap.size :: rest, locked := none }) _
  jvm_step X₁.here [X₁.here.top, hexec, d3', Value.category]
  exact X₁.ldcStringW hexec (own := own) (text := text) (index := is) (a := sa) hown' hstr'.1 hstr'.2
    (g := { method := m, pc := pc + 4, locals := ls, stack := .ref T.heap.size :: .ref T.heap.size :: rest, locked := none }) rfl d4' _ hsteps
end Ends
section Bodies
variable {l : Launch}
theorem vx_ofW {y : MethodName} {ws ws' : List Cond} {rm : Room} {Pc : Array Value → State → Prop} {Qc : Array Value → State → Outcome → State → Prop} {XC : String → State → State → Prop} {mc ms : Nat} {free : Addr → Prop} {cc : ByteArray} {maxL : Nat} {ret : Option FieldType}
    (hy : plainName y.cls = true) (hw : ws = Cond.code y cc maxL ret :: ws')
    (body : ∀ p e s m args below meth c s₁, BodyLoose p l y (headSpec ws rm) cc maxL ret e s m args below meth c s₁ → c.maxLocals = maxL → (∀ x ∈ c.exceptionTable.toList, False) → Pc args s →
      W p l e (headSpec ws rm).room s m args below meth c s.heap [] 0 0 (vx_MQ below Qc XC args s mc ms free) (entryFrame m args maxL)) : vx_Met l y ws rm Pc Qc XC mc ms free := by
  refine MetFree.of_bodyS (code := cc) (maxLocals := maxL) (ret := ret) hy ?_ ?_
  · intro args s m h hn
    obtain ⟨meth, c, h1, h2, h3, h4, h5, h6, -, -⟩ := Cond.code_spec hn (atoms_spec (ws := ws) h _ (by rw [hw]; exact List.mem_cons_self))
    exact ⟨meth, c, h1, h2, h3, h4, h5, h6⟩
  · intro p e s m args below meth c s₁ B hml hP _
    have hh0 : s₁.heap = s.heap := by rw [B.state]; rfl
    have ht : ∀ x ∈ c.exceptionTable.toList, False := by
      obtain ⟨meth9, c9, h1, h2, -, -, -, -, h7, -⟩ := Cond.code_spec B.named (atoms_spec (ws := ws) B.pre _ (by rw [hw]; exact List.mem_cons_self))
      cases Option.some.inj (h1.symm.trans B.method)
      cases Option.some.inj (h2.symm.trans (Stand.of_body B).code)
      intro x hx
      rw [Array.isEmpty_iff.mp h7] at hx
      cases hx
    obtain ⟨t, a1, o, b1, b2, b3⟩ := body p e s m args below meth c s₁ B hml ht hP s₁ hh0 (Stand.of_body B)
    exact ⟨t, o, a1, b1, b2, b3⟩
/-- the table of a body with handlers -/
theorem vx_table {p : Program} {x y : MethodName} {S : Spec} {cc bytes : ByteArray} {maxL maxL' : Nat} {ret ret' : Option FieldType} {e : Env} {s s₁ : State} {m : MethodId} {args : Array Value} {below : List Frame} {meth : Method} {c : Code} {hh : List (Nat × Nat × Nat × Nat)}
    (B : BodyLoose p l y S cc maxL ret e s m args below meth c s₁) (h : (Cond.codeWith y bytes maxL' ret' hh).before args s = true) : c.exceptionTable.toList = tableOf hh := by
  obtain ⟨m9, meth9, c9, hn9, h1, h2, -, -, h6, -⟩ := Cond.codeWith_spec h
  cases Option.some.inj (hn9.symm.trans B.named)
  cases Option.some.inj (h1.symm.trans B.method)
  cases Option.some.inj (h2.symm.trans (Stand.of_body B).code)
  rw [← h6, table_eq]
end Bodies
end VXA
/-! ===== END ===== -/
/-! ===== BEGIN a static call of a method with an exception table ===== -/
section VXS
variable {p : Program} {l : Launch} {e : Env} {R : Room} {s : State} {m : MethodId} {args : Array Value} {below : List Frame} {meth : Method} {c : Code} {T : State} {H : Heap} {locs : List Loc} {cells slots : Nat}
abbrev vx_CSW (R : Room) (s : State) (args : Array Value) (own : String) (index : Nat) (y : MethodName) (bytes : ByteArray) (maxL : Nat) (ret : Option FieldType) (hh : List (Nat × Nat × Nat × Nat)) (ws : List Cond) (rm : Room) (mc ms n : Nat) : Prop :=
  (rm.cells = mc ∧ rm.slots = ms ∧ rm.frames + 1 ≤ R.frames ∧ 8 + (maxL + 11) + rm.locals ≤ R.locals ∧ (∀ w ∈ ws, ∀ (a' : Array Value) (U : State), s.WarmedH U.vm → w.before a' U = true) ∧ Cond.codeWith y bytes maxL ret hh ∈ ws) ∧
  (Cond.codeWith y bytes maxL ret hh).before args s = true ∧ (Cond.initialized y.cls).before args s = true ∧ (y.cls ≠ "java/lang/invoke/MethodHandle" ∧ y.cls ≠ "java/lang/invoke/VarHandle") ∧
  (∀ sig, parseMethodDescriptor y.desc = some sig → n = sig.parameters.length) ∧ (Cond.methodLink own index y).before args s = true ∧ (Cond.static y).before args s = true
theorem vx_cwSW {own : String} {index maxL mc ms : Nat} {y : MethodName} {bytes : ByteArray} {ret : Option FieldType} {hh : List (Nat × Nat × Nat × Nat)} {Ts ws ws' : List Cond} {rm : Room} (n : Nat) (ht : ∀ w ∈ Ts, w.before args s = true) (hT : GoodIn Ts (va_wsS own index y ws)) (hw : ws = Cond.codeWith y bytes maxL ret hh :: ws') (hrc : rm.cells = mc) (hrs : rm.slots = ms)
    (hd : y.cls ≠ "java/lang/invoke/MethodHandle" ∧ y.cls ≠ "java/lang/invoke/VarHandle" ∧ (parseMethodDescriptor y.desc).map (fun d => d.parameters.length) = some n) (hR : rm.frames + 1 ≤ R.frames ∧ 8 + (maxL + 11) + rm.locals ≤ R.locals) :
    vx_CSW R s args own index y bytes maxL ret hh ws rm mc ms n := by
  have ok : ∀ w ∈ va_wsS own index y ws, w.before args s = true := fun w h => ht w (hT w h).1
  have hG : GoodIn Ts ws := fun w h => hT w (by unfold va_wsS; exact List.mem_append_right _ h)
  have hc : Cond.codeWith y bytes maxL ret hh ∈ ws := by rw [hw]; exact List.mem_cons_self
  refine ⟨⟨hrc, hrs, hR.1, hR.2, pay_in ht hG, hc⟩, ht _ (hG _ hc).1, ok _ (by simp [va_wsS]), ⟨hd.1, hd.2.1⟩, fun sig h => ?_, ok _ (by simp [va_wsS]), ok _ (by simp [va_wsS])⟩
  have h2 := hd.2.2
  rw [h] at h2
  exact (Option.some.inj h2).symm
theorem vx_callSW (X : Stand p l e R s m args below meth c T locs cells slots) (hexec : p.tables.exec = Jvm.exec) {own : String} {index : Nat} {y : MethodName} {bytes : ByteArray} {maxL : Nat} {ret : Option FieldType} {hh : List (Nat × Nat × Nat × Nat)}
    (hown : s.vm.findClass own = some m.cls) (hlink : (Cond.methodLink own index y).before args s = true) (hstat : (Cond.static y).before args s = true) (hinit : (Cond.initialized y.cls).before args s = true)
    (hcode : (Cond.codeWith y bytes maxL ret hh).before args s = true) (hy : y.cls ≠ "java/lang/invoke/MethodHandle" ∧ y.cls ≠ "java/lang/invoke/VarHandle")
    {W9 : Nat} {Pre : Pt → Array Value → Prop} {Post : Pt → Array Value → Option Value → Pt → Prop} (hK : Back l R p e below s args y 3 W9 Pre Post)
    {g : JFrame} (hg : g.method = m) (hsize : g.locals.size = c.maxLocals) {argsL rest : List Value} (hlen : ∀ sig, parseMethodDescriptor y.desc = some sig → argsL.length = sig.parameters.length)
    (hstack : g.stack = argsL.reverse ++ rest) (hW : 2 * g.monitorRoom + (rest.map fun v => v.category).sum ≤ W9) (hdg : decode c.code g.pc = .ok (.invokestatic index, 3))
    (hpre : ∀ vm₁, s.WarmedH vm₁ → Pre ⟨T.setVm vm₁, locs, cells, slots⟩ argsL.toArray) :
    ∃ (v : Option Value) (vm₁ : Vm) (B : Pt), s.WarmedH vm₁ ∧ Stand p l e R s m args below meth c B.U B.locs B.cells B.slots ∧ Post ⟨T.setVm vm₁, locs, cells, slots⟩ argsL.toArray v B ∧
      ∀ target, Steps p.tables e below (B.U.setTop { g with pc := g.pc + 3, stack := v.toList ++ rest }) target → Steps p.tables e below (T.setTop g) target := by
  obtain ⟨mk, methM, cM, hnamed, hmethM, -, -, -, -, -, -, hsigM⟩ := Cond.codeWith_spec hcode
  have hstatic : methM.isStatic = true := Cond.static_spec hnamed hmethM hstat
  obtain ⟨kP, hkP, -⟩ := className_of_methodNamed hnamed
  have hinitP : kP.init = .initialized := Cond.initialized_spec (findClass_of_methodNamed hnamed) hkP hinit
  obtain ⟨vm₁, X₁, hstep₁⟩ := X.invokestatic hexec hown hlink hnamed hmethM hstatic hkP hinitP hy (g := g) hg (argsL := argsL) (rest := rest) (hlen _ hsigM) hstack hdg
  obtain ⟨v, B, X', hpost, hsteps⟩ := hK m meth c ⟨T.setVm vm₁, locs, cells, slots⟩ { g with stack := rest } (.invokestatic index) mk argsL.toArray X₁ hg hsize hdg hW (X₁.named hnamed) (hpre vm₁ X₁.warmed)
  exact ⟨v, vm₁, B, X₁.warmed, X', hpost, fun target h => hstep₁ _ fun acts => by rw [doInvoke_state]; exact hsteps.trans h⟩
theorem vx_runSW {y : MethodName} {bytes cc : ByteArray} {maxL nL mc ms n index : Nat} {ret : Option FieldType} {hh : List (Nat × Nat × Nat × Nat)} {ws : List Cond} {rm : Room} {Pc : Array Value → State → Prop} {Qc : Array Value → State → Outcome → State → Prop} {free : Addr → Prop} {Ts : List Cond} {own : String} {As rest : List Value} {g : JFrame}
    (S : CallFix p m c cc nL s args Ts own) (hM : Met l y ws rm Pc Qc mc ms free) (cw : vx_CSW R s args own index y bytes maxL ret hh ws rm mc ms n) (hp : PreS s H Pc As)
    (hg : g.method = m) (hn : As.length = n) (hsize : g.locals.size = nL) (hstack : g.stack = As.reverse ++ rest) (hW : 2 * g.monitorRoom + (rest.map fun v => v.category).sum ≤ 8) (hdg : decode cc g.pc = .ok (.invokestatic index, 3)) (hf : cells + mc ≤ R.cells ∧ slots + ms ≤ R.slots) :
    va_Run p l e R s m args below meth c H locs cells slots mc ms g rest (Qc As.toArray) (free) := by
  obtain ⟨⟨hrc, hrs, hfr, hlo, hws, hcw⟩, hcode, hini, hy, hlen, hl, hstt⟩ := cw
  have hK : Back l R p e below s args y 3 8 (PreOf R mc ms Pc) (PostOf Qc mc ms free) := va_backW (hh := hh) (bytes := bytes) (maxL := maxL) (ret := ret) hM hp.1 hrc hrs hfr hlo hws hcw (fun a' U hW => word_at hW (Or.inl (by first | rfl | simp [Cond.onTables, Cond.keeps, Cond.steady])) hini)
  obtain ⟨hx, hb, hml, ho, -⟩ := S
  intro T hT X
  obtain ⟨v, vm₁, ⟨U', l2, c2, s2⟩, hW₁, X', ⟨g', mk, t, L, e1, e2, hq, h1, hL, h2, h3⟩, st⟩ := vx_callSW X hx (hh := hh) (bytes := bytes) (maxL := maxL) (ret := ret) ho hl hstt hini hcode hy hK hg (hsize.trans hml.symm) (argsL := As) (rest := rest) (fun sig h => hn.trans (hlen sig h)) hstack hW (by rw [hb]; exact hdg)
    (fun vm₁ hW₁ => ⟨hf.1, hf.2, hp.2 (T.setVm vm₁) hT hW₁⟩)
  dsimp only [Pt.U, Pt.locs, Pt.cells, Pt.slots] at X' e1 e2 h1 h2 h3 st
  subst h1; subst h2; subst h3
  exact ⟨v, (T.setVm vm₁).calling g' mk As.toArray, t, U', L, hT, X', hL, e1, e2, hq, st⟩
/-- not caught here, past rows that name other classes: it goes on to the caller -/
theorem vx_outP {p : Program} {l : Launch} {e : Env} {R : Room} {s : State} {m : MethodId} {args : Array Value} {below : List Frame} {meth : Method} {c : Code} {H : Heap} {locs : List Loc} {cells slots : Nat} {free : Addr → Prop} {ls : Array Slot} {rest : List Value} {Qc : Array Value → State → Outcome → State → Prop} {XC : String → State → State → Prop}
    {pc : Nat} {own E : String} {ce : Cell} {q : Addr} {mc ms : Nat} (hown : s.vm.findClass own = some m.cls) (hlocks : meth.locks = false)
    (hpass : ∀ z ∈ c.exceptionTable.toList, covers z pc = false ∨ (z.catchType ≠ 0 ∧ ∃ nm : String, (Cond.classLink own z.catchType nm).before args s = true ∧ va_Nc E nm s)) (hcell : H[q]? = some ce) (hv : ce.vm = .none) (hcl : s.vm.findClass E = some ce.cls)
    (hx : ∀ t : State, t.heap = H → s.vm.Alike t.vm → XC E s t) (hf : ∀ z ∈ locs, free z.base) (hc : cells ≤ mc) (hs : slots ≤ ms) :
    vx_W p l e R s m args below meth c H locs cells slots (vx_MQ below Qc XC args s mc ms free) (F0 m pc ls rest) q := by
  intro T hT X
  have hpl : e.platform.magicAccessors = ({} : Platform).magicAccessors := by rw [X.admits.platform]
  obtain ⟨vm', hW', X', st⟩ := X.outThrough hlocks q (g := F0 m pc ls rest) rfl rfl rfl (cell := ce) (by rw [hT]; exact hcell) (by rw [hv]; rfl)
    (by obtain ⟨k9, h9, -⟩ := Vm.findClass_spec hcl; exact ⟨k9, h9⟩) (fun z hz => by
      rcases hpass z hz with h | ⟨hz0, nm, hl1, hn1⟩
      · exact Or.inl h
      · obtain ⟨c6, hc6, hcl6⟩ := Cond.classLink_spec hown hl1 e.platform hpl
        obtain ⟨a8, b8, h1, h2, h3⟩ := hn1
        cases Option.some.inj (h1.symm.trans hcl)
        cases Option.some.inj (h2.symm.trans hc6)
        exact Or.inr ⟨hz0, _, hcl6, h3⟩)
  obtain ⟨g₀, hfr⟩ := X'.frames_eq
  have hcell9 : ((T.setVm vm').setFrames (.throwing q :: below)).heap[q]? = some ce := by
    show T.heap[q]? = some ce
    rw [hT]; exact hcell
  have hend : Ended ((T.setVm vm').setFrames (.throwing q :: below)) below (.threw q) := State.frames_setFrames _ (State.cur_lt_of_frames hfr)
  refine ⟨(T.setVm vm').setFrames (.throwing q :: below), ?_, .threw q, X'.here.running, hend, Or.inr ⟨q, rfl, E, ce, locs, hx _ hT (X'.ends _).1.alike, hcell9, hv, hcl, (X'.ends _).1, (X'.ends _).2.mono hc hs, hf⟩⟩
  rw [X.pushThrowing_eq]
  exact st
/-- a thing of a world lies in the heap -/
theorem vx_lt {D : va_G} {cl : List vw_C} {ws : va_W} {H1 : Heap} (h : va_P D cl ws H1) {k : Nat} {q : Nat × va_E} (hk : ws[k]? = some q) : q.1 < H1.size := (h k q hk).lt
end VXS
/-! ===== END ===== -/
/-! ===== BEGIN methods with a table of their own: called by a name, returning or throwing ===== -/
section VXH
/-! vx_backW, vx_callVX, vx_callSX, vx_callVW, vx_runVW, vx_runVX, vx_runSX, vx_ofWH follow the same proofs as their sisters above (Free/Laws.lean, Shelf42/LK1.lean); vx_outP calls Shelf42/NT130.lean (outThrough). -/
section
variable {l : Launch} {R : Room} {p : Program} {e : Env} {below : List Frame} {s : State} {sargs : Array Value} {y : MethodName} {len W9 : Nat}
theorem vx_backW {ws : List Cond} {rm : Room} {Pc : Array Value → State → Prop} {Qc : Array Value → State → Outcome → State → Prop} {XC : String → State → State → Prop} {mc ms : Nat} {free : Addr → Prop} {bytes : ByteArray} {maxL : Nat} {ret : Option FieldType} {hh : List (Nat × Nat × Nat × Nat)}
    (hM : vx_Met l y ws rm Pc Qc XC mc ms free) (hblind : FrameBlind Pc) (hrc : rm.cells = mc) (hrs : rm.slots = ms)
    (hframes : rm.frames + 1 ≤ R.frames) (hlocals : W9 + (maxL + 11) + rm.locals ≤ R.locals)
    (hws : ∀ w ∈ ws, ∀ a' U, s.WarmedH U.vm → w.before a' U = true) (hcode : Cond.codeWith y bytes maxL ret hh ∈ ws) (hinit : ∀ a' U, s.WarmedH U.vm → (Cond.initialized y.cls).before a' U = true) :
    vx_Back l R p e below s sargs y len W9 (PreOf R mc ms Pc) (PostOf Qc mc ms free) (vx_Post XC mc ms free) := by
  intro m meth c A g ig mk a X hg hsize hdg hW hn hp
  have h1 : (headSpec ws rm).pre.before a A.U = true := atoms_intro fun w hw => hws w hw _ _ X.warmed
  have h2 : (Cond.codeWith y bytes maxL ret hh).before a A.U = true := hws _ hcode _ _ X.warmed
  have h3 : (Cond.initialized y.cls).before a A.U = true := hinit _ _ X.warmed
  have h4 : A.cells + (headSpec ws rm).room.cells ≤ R.cells := by rw [show (headSpec ws rm).room.cells = mc from hrc]; exact hp.1
  have h5 : A.slots + (headSpec ws rm).room.slots ≤ R.slots := by rw [show (headSpec ws rm).room.slots = ms from hrs]; exact hp.2.1
  have hPc : Pc a (A.U.calling g mk a) := hblind _ _ _ _ hp.2.2
  obtain ⟨U, Ls, c0, s0⟩ := A
  dsimp only [Pt.U, Pt.locs, Pt.cells, Pt.slots] at h1 h2 h3 h4 h5 X hn hPc ⊢
  obtain ⟨m9, methY, cY, hn9, hmY, hcY, -, hlY, -⟩ := Cond.codeWith_spec h2
  cases Option.some.inj (hn9.symm.trans hn)
  obtain ⟨kY, hkY, -⟩ := className_of_methodNamed hn
  have hinitY : kY.init = .initialized := Cond.initialized_spec (findClass_of_methodNamed hn) hkY h3
  have h : At U g.method c below := by rw [hg]; exact X.here
  have hlocals9 : W9 + (maxL + 11) + (headSpec ws rm).room.locals ≤ R.locals := hlocals
  have happ : (headSpec ws rm).appliesLoose y e.platform (U.calling g mk a) = true :=
    Spec.appliesLoose_calling (g := g) h hdg hn hkY hinitY
      (X.room_calling (g := g) (R' := (headSpec ws rm).room) hsize hmY hcY hframes (by rw [hlY]; omega) h4 h5) h1
  obtain ⟨mid, hmid⟩ := h.above
  have hfr : (U.setTop g).frames = (.java g :: mid) ++ below := by rw [State.frames_setTop' g h.top, hmid]; rfl
  obtain ⟨o, s₂, hsteps, -, hend, hq⟩ := Steps.callFree hM p X.admits X.cas X.clock (acts := []) hfr happ hPc trivial
  have hq' : vx_Q Qc XC mc ms free a (U.calling g mk a) o s₂ := hq
  rw [State.frames_setTop' g h.top] at hend
  obtain ⟨g₀, hg0⟩ := Option.isSome_iff_exists.mp h.top
  obtain ⟨r, hr⟩ := State.topJava?_eq_some.mp hg0
  have hr' : (({ U with heap := s₂.heap, slotsUsed := s₂.slotsUsed } : State).setVm s₂.vm).frames = .java g₀ :: r := hr
  rcases hq' with ⟨hqc, L, hfe, hL⟩ | ⟨q, rfl, E, ce, L, hx, hce, hcv, hcl, hW₂, hsm, hL⟩
  · obtain ⟨⟨v, rfl⟩, hW₂, e2, q2, q3, q4, q5, q6⟩ := id hfe
    have e3 : s₂ = ({ (U.calling g mk a).setFrames s₂.frames with heap := s₂.heap, slotsUsed := s₂.slotsUsed } : State).setVm s₂.vm := by
      have : s₂ = ({ s₂ with vm := (U.calling g mk a).vm } : State).setVm s₂.vm := rfl
      rw [e2] at this
      exact this
    obtain ⟨c₂, i₂, len₂, hc₂, hd₂, hf₂⟩ := hend
    have hW' : U.WarmedH s₂.vm := hW₂
    have hcc : c₂ = c := by
      have h1 : s₂.code? g.method = U.code? g.method := by
        rw [State.code?_eq, State.code?_eq, hW'.alike.method?]
      exact Option.some.inj (hc₂.symm.trans (h1.trans h.code))
    subst hcc
    have hlen : len₂ = len := by rw [hdg] at hd₂; cases hd₂; rfl
    subst hlen
    have hs₂ : s₂ = (({ U with heap := s₂.heap, slotsUsed := s₂.slotsUsed } : State).setVm s₂.vm).setTop { g with pc := g.pc + len₂, stack := v.toList ++ g.stack } := by
      refine e3.trans ?_
      rw [hf₂, State.calling_eq h.top, State.setFrames_setFrames, State.setTop_of_frames _ hr', hr]
      rfl
    have hsame : U.sameButNew ({ U with heap := s₂.heap, slotsUsed := s₂.slotsUsed } : State) L mc ms := by
      refine ⟨?_, q2, q3, q4, q5, q6⟩
      obtain ⟨t, ht, -⟩ := State.frames_cons hr
      show ({ U with heap := s₂.heap, slotsUsed := s₂.slotsUsed } : State) = { U.setFrames U.frames with heap := s₂.heap, slotsUsed := s₂.slotsUsed }
      rw [State.setFrames_self ht]
    subst hg
    refine Or.inl ⟨v, ⟨(({ U with heap := s₂.heap, slotsUsed := s₂.slotsUsed } : State).setVm s₂.vm), Ls ++ L, c0 + mc, s0 + ms⟩,
      ⟨X.admits, X.cas, X.clock, X.frames, X.room, X.hears, X.method, X.code, (X.here.setHeapUsed s₂.heap s₂.slotsUsed).setVm hW'.alike, X.tail, State.WarmedH.trans X.warmed hW', X.limits, X.bytes, X.same.trans (hsame.setVm s.vm)⟩,
      ⟨g, mk, s₂, L, rfl, rfl, hqc, rfl, hL, rfl, rfl⟩, ?_⟩
    show Steps p.tables e below _ ((({ U with heap := s₂.heap, slotsUsed := s₂.slotsUsed } : State).setVm s₂.vm).setTop { g with pc := g.pc + len₂, stack := v.toList ++ g.stack })
    rw [← hs₂]
    exact hsteps
  · obtain ⟨e2, q2, q3, q4, q5, q6⟩ := id hsm
    have e3 : s₂ = ({ (U.calling g mk a).setFrames s₂.frames with heap := s₂.heap, slotsUsed := s₂.slotsUsed } : State).setVm s₂.vm := by
      have : s₂ = ({ s₂ with vm := (U.calling g mk a).vm } : State).setVm s₂.vm := rfl
      rw [e2] at this
      exact this
    have hf₂ : s₂.frames = .throwing q :: .java g :: U.frames.tail := hend
    have hW' : U.WarmedH s₂.vm := hW₂
    have hs₂ : s₂ = ((({ U with heap := s₂.heap, slotsUsed := s₂.slotsUsed } : State).setVm s₂.vm).setTop g).pushFrame (.throwing q) := by
      refine e3.trans ?_
      rw [hf₂, State.calling_eq h.top, State.setFrames_setFrames, State.pushFrame, State.frames_setTop _ hr', State.setTop_of_frames _ hr', State.setFrames_setFrames, hr]
      rfl
    have hsame : U.sameButNew ({ U with heap := s₂.heap, slotsUsed := s₂.slotsUsed } : State) L mc ms := by
      refine ⟨?_, q2, q3, q4, q5, q6⟩
      obtain ⟨t, ht, -⟩ := State.frames_cons hr
      show ({ U with heap := s₂.heap, slotsUsed := s₂.slotsUsed } : State) = { U.setFrames U.frames with heap := s₂.heap, slotsUsed := s₂.slotsUsed }
      rw [State.setFrames_self ht]
    subst hg
    refine Or.inr ⟨q, ⟨(({ U with heap := s₂.heap, slotsUsed := s₂.slotsUsed } : State).setVm s₂.vm), Ls ++ L, c0 + mc, s0 + ms⟩,
      ⟨X.admits, X.cas, X.clock, X.frames, X.room, X.hears, X.method, X.code, (X.here.setHeapUsed s₂.heap s₂.slotsUsed).setVm hW'.alike, X.tail, State.WarmedH.trans X.warmed hW', X.limits, X.bytes, X.same.trans (hsame.setVm s.vm)⟩,
      ⟨g, mk, s₂, L, E, ce, rfl, rfl, hx, hce, hcv, hcl, rfl, hL, rfl, rfl⟩, ?_⟩
    show Steps p.tables e below _ (((({ U with heap := s₂.heap, slotsUsed := s₂.slotsUsed } : State).setVm s₂.vm).setTop g).pushFrame (.throwing q))
    rw [← hs₂]
    exact hsteps
end
variable {p : Program} {l : Launch} {e : Env} {R : Room} {s : State} {m : MethodId} {args : Array Value} {below : List Frame} {meth : Method} {c : Code} {T : State} {H : Heap} {locs : List Loc} {cells slots : Nat}
theorem vx_callVX (X : Stand p l e R s m args below meth c T locs cells slots) (hexec : p.tables.exec = Jvm.exec) {own C : String} {index : Nat} {y : MethodName} {bytes : ByteArray} {maxL : Nat} {ret : Option FieldType} {hh : List (Nat × Nat × Nat × Nat)}
    (hown : s.vm.findClass own = some m.cls) (hlink : (Cond.methodLink own index y).before args s = true) (hinst : (Cond.instanceMethod y).before args s = true) (hsel : (Cond.selects C y y).before args s = true)
    (hcode : (Cond.codeWith y bytes maxL ret hh).before args s = true) (hy : y.cls ≠ "java/lang/invoke/MethodHandle" ∧ y.cls ≠ "java/lang/invoke/VarHandle")
    {W9 : Nat} {Pre : Pt → Array Value → Prop} {Post : Pt → Array Value → Option Value → Pt → Prop} {PostX : Pt → Array Value → Addr → Pt → Prop} (hK : vx_Back l R p e below s args y 3 W9 Pre Post PostX)
    {b : Addr} {cellB : Cell} (hcell : T.heap[b]? = some cellB) (hobj : cellB.vm.isStatics = false) (hcls : s.vm.findClass C = some cellB.cls)
    {g : JFrame} (hg : g.method = m) (hsize : g.locals.size = c.maxLocals) {argsL rest : List Value} (hlen : ∀ sig, parseMethodDescriptor y.desc = some sig → argsL.length = sig.parameters.length)
    (hstack : g.stack = argsL.reverse ++ .ref b :: rest) (hW : 2 * g.monitorRoom + (rest.map fun v => v.category).sum ≤ W9) (hdg : decode c.code g.pc = .ok (.invokevirtual index, 3))
    (hpre : ∀ vm₁, s.WarmedH vm₁ → Pre ⟨T.setVm vm₁, locs, cells, slots⟩ (Value.ref b :: argsL).toArray) :
    (∃ (v : Option Value) (vm₁ : Vm) (B : Pt), s.WarmedH vm₁ ∧ Stand p l e R s m args below meth c B.U B.locs B.cells B.slots ∧ Post ⟨T.setVm vm₁, locs, cells, slots⟩ (Value.ref b :: argsL).toArray v B ∧
      ∀ target, Steps p.tables e below (B.U.setTop { g with pc := g.pc + 3, stack := v.toList ++ rest }) target → Steps p.tables e below (T.setTop g) target) ∨
    (∃ (q : Addr) (vm₁ : Vm) (B : Pt), s.WarmedH vm₁ ∧ Stand p l e R s m args below meth c B.U B.locs B.cells B.slots ∧ PostX ⟨T.setVm vm₁, locs, cells, slots⟩ (Value.ref b :: argsL).toArray q B ∧
      Steps p.tables e below (T.setTop g) ((B.U.setTop { g with stack := rest }).pushFrame (.throwing q))) := by
  obtain ⟨mk, methM, hnamed, hmethM, hstM, habM⟩ := Cond.instanceMethod_spec hinst
  obtain ⟨m8, methM', cM, hn8, hmethM', -, -, -, -, -, -, hsigM⟩ := Cond.codeWith_spec hcode
  cases Option.some.inj (hn8.symm.trans hnamed)
  cases hmethM.symm.trans hmethM'
  obtain ⟨c2, r2, m2, q1, q2, q3, q4, kP, hkP, hkPi⟩ := Cond.selects_spec hsel
  cases hcls.symm.trans q1
  cases (State.methodFound?_of_named hnamed hy).symm.trans q2
  cases hnamed.symm.trans q3
  have hselP : selectMethod e.platform s.vm cellB.cls mk = .method mk := by rw [Launch.admits_selectMethod X.admits]; exact q4
  obtain ⟨vm₁, X₁, hstep₁⟩ := X.invokevirtual hexec hown hlink hnamed hmethM hstM hkP hkPi hy (a := b) (cell := cellB) hcell
    (fun z h => by rw [h] at hobj; cases hobj) hselP hmethM habM hkP hkPi (g := g) hg (argsL := argsL) (rest := rest) (hlen _ hsigM) hstack hdg
  rcases hK m meth c ⟨T.setVm vm₁, locs, cells, slots⟩ { g with stack := rest } (.invokevirtual index) mk (Value.ref b :: argsL).toArray X₁ hg hsize hdg hW (X₁.named hnamed) (hpre vm₁ X₁.warmed) with ⟨v, B, X', hpost, hsteps⟩ | ⟨q, B, X', hpost, hsteps⟩
  · exact Or.inl ⟨v, vm₁, B, X₁.warmed, X', hpost, fun target h => hstep₁ _ fun acts => by rw [doInvoke_state]; exact hsteps.trans h⟩
  · exact Or.inr ⟨q, vm₁, B, X₁.warmed, X', hpost, hstep₁ _ fun acts => by rw [doInvoke_state]; exact hsteps⟩
theorem vx_callSX (X : Stand p l e R s m args below meth c T locs cells slots) (hexec : p.tables.exec = Jvm.exec) {own : String} {index : Nat} {y : MethodName} {bytes : ByteArray} {maxL : Nat} {ret : Option FieldType} {hh : List (Nat × Nat × Nat × Nat)}
    (hown : s.vm.findClass own = some m.cls) (hlink : (Cond.methodLink own index y).before args s = true) (hstat : (Cond.static y).before args s = true) (hinit : (Cond.initialized y.cls).before args s = true)
    (hcode : (Cond.codeWith y bytes maxL ret hh).before args s = true) (hy : y.cls ≠ "java/lang/invoke/MethodHandle" ∧ y.cls ≠ "java/lang/invoke/VarHandle")
    {W9 : Nat} {Pre : Pt → Array Value → Prop} {Post : Pt → Array Value → Option Value → Pt → Prop} {PostX : Pt → Array Value → Addr → Pt → Prop} (hK : vx_Back l R p e below s args y 3 W9 Pre Post PostX)
    {g : JFrame} (hg : g.method = m) (hsize : g.locals.size = c.maxLocals) {argsL rest : List Value} (hlen : ∀ sig, parseMethodDescriptor y.desc = some sig → argsL.length = sig.parameters.length)
    (hstack : g.stack = argsL.reverse ++ rest) (hW : 2 * g.monitorRoom + (rest.map fun v => v.category).sum ≤ W9) (hdg : decode c.code g.pc = .ok (.invokestatic index, 3))
    (hpre : ∀ vm₁, s.WarmedH vm₁ → Pre ⟨T.setVm vm₁, locs, cells, slots⟩ argsL.toArray) :
    (∃ (v : Option Value) (vm₁ : Vm) (B : Pt), s.WarmedH vm₁ ∧ Stand p l e R s m args below meth c B.U B.locs B.cells B.slots ∧ Post ⟨T.setVm vm₁, locs, cells, slots⟩ argsL.toArray v B ∧
      ∀ target, Steps p.tables e below (B.U.setTop { g with pc := g.pc + 3, stack := v.toList ++ rest }) target → Steps p.tables e below (T.setTop g) target) ∨
    (∃ (q : Addr) (vm₁ : Vm) (B : Pt), s.WarmedH vm₁ ∧ Stand p l e R s m args below meth c B.U B.locs B.cells B.slots ∧ PostX ⟨T.setVm vm₁, locs, cells, slots⟩ argsL.toArray q B ∧
      Steps p.tables e below (T.setTop g) ((B.U.setTop { g with stack := rest }).pushFrame (.throwing q))) := by
  obtain ⟨mk, methM, cM, hnamed, hmethM, -, -, -, -, -, -, hsigM⟩ := Cond.codeWith_spec hcode
  have hstatic : methM.isStatic = true := Cond.static_spec hnamed hmethM hstat
  obtain ⟨kP, hkP, -⟩ := className_of_methodNamed hnamed
  have hinitP : kP.init = .initialized := Cond.initialized_spec (findClass_of_methodNamed hnamed) hkP hinit
  obtain ⟨vm₁, X₁, hstep₁⟩ := X.invokestatic hexec hown hlink hnamed hmethM hstatic hkP hinitP hy (g := g) hg (argsL := argsL) (rest := rest) (hlen _ hsigM) hstack hdg
  rcases hK m meth c ⟨T.setVm vm₁, locs, cells, slots⟩ { g with stack := rest } (.invokestatic index) mk argsL.toArray X₁ hg hsize hdg hW (X₁.named hnamed) (hpre vm₁ X₁.warmed) with ⟨v, B, X', hpost, hsteps⟩ | ⟨q, B, X', hpost, hsteps⟩
  · exact Or.inl ⟨v, vm₁, B, X₁.warmed, X', hpost, fun target h => hstep₁ _ fun acts => by rw [doInvoke_state]; exact hsteps.trans h⟩
  · exact Or.inr ⟨q, vm₁, B, X₁.warmed, X', hpost, hstep₁ _ fun acts => by rw [doInvoke_state]; exact hsteps⟩
theorem vx_callVW (X : Stand p l e R s m args below meth c T locs cells slots) (hexec : p.tables.exec = Jvm.exec) {own C : String} {index : Nat} {y : MethodName} {bytes : ByteArray} {maxL : Nat} {ret : Option FieldType} {hh : List (Nat × Nat × Nat × Nat)}
    (hown : s.vm.findClass own = some m.cls) (hlink : (Cond.methodLink own index y).before args s = true) (hinst : (Cond.instanceMethod y).before args s = true) (hsel : (Cond.selects C y y).before args s = true)
    (hcode : (Cond.codeWith y bytes maxL ret hh).before args s = true) (hy : y.cls ≠ "java/lang/invoke/MethodHandle" ∧ y.cls ≠ "java/lang/invoke/VarHandle")
    {W9 : Nat} {Pre : Pt → Array Value → Prop} {Post : Pt → Array Value → Option Value → Pt → Prop} (hK : Back l R p e below s args y 3 W9 Pre Post)
    {b : Addr} {cellB : Cell} (hcell : T.heap[b]? = some cellB) (hobj : cellB.vm.isStatics = false) (hcls : s.vm.findClass C = some cellB.cls)
    {g : JFrame} (hg : g.method = m) (hsize : g.locals.size = c.maxLocals) {argsL rest : List Value} (hlen : ∀ sig, parseMethodDescriptor y.desc = some sig → argsL.length = sig.parameters.length)
    (hstack : g.stack = argsL.reverse ++ .ref b :: rest) (hW : 2 * g.monitorRoom + (rest.map fun v => v.category).sum ≤ W9) (hdg : decode c.code g.pc = .ok (.invokevirtual index, 3))
    (hpre : ∀ vm₁, s.WarmedH vm₁ → Pre ⟨T.setVm vm₁, locs, cells, slots⟩ (Value.ref b :: argsL).toArray) :
    ∃ (v : Option Value) (vm₁ : Vm) (B : Pt), s.WarmedH vm₁ ∧ Stand p l e R s m args below meth c B.U B.locs B.cells B.slots ∧ Post ⟨T.setVm vm₁, locs, cells, slots⟩ (Value.ref b :: argsL).toArray v B ∧
      ∀ target, Steps p.tables e below (B.U.setTop { g with pc := g.pc + 3, stack := v.toList ++ rest }) target → Steps p.tables e below (T.setTop g) target := by
  obtain ⟨mk, methM, hnamed, hmethM, hstM, habM⟩ := Cond.instanceMethod_spec hinst
  obtain ⟨m8, methM', cM, hn8, hmethM', -, -, -, -, -, -, hsigM⟩ := Cond.codeWith_spec hcode
  cases Option.some.inj (hn8.symm.trans hnamed)
  cases hmethM.symm.trans hmethM'
  obtain ⟨c2, r2, m2, q1, q2, q3, q4, kP, hkP, hkPi⟩ := Cond.selects_spec hsel
  cases hcls.symm.trans q1
  cases (State.methodFound?_of_named hnamed hy).symm.trans q2
  cases hnamed.symm.trans q3
  have hselP : selectMethod e.platform s.vm cellB.cls mk = .method mk := by rw [Launch.admits_selectMethod X.admits]; exact q4
  obtain ⟨vm₁, X₁, hstep₁⟩ := X.invokevirtual hexec hown hlink hnamed hmethM hstM hkP hkPi hy (a := b) (cell := cellB) hcell
    (fun z h => by rw [h] at hobj; cases hobj) hselP hmethM habM hkP hkPi (g := g) hg (argsL := argsL) (rest := rest) (hlen _ hsigM) hstack hdg
  obtain ⟨v, B, X', hpost, hsteps⟩ := hK m meth c ⟨T.setVm vm₁, locs, cells, slots⟩ { g with stack := rest } (.invokevirtual index) mk (Value.ref b :: argsL).toArray X₁ hg hsize hdg hW (X₁.named hnamed) (hpre vm₁ X₁.warmed)
  exact ⟨v, vm₁, B, X₁.warmed, X', hpost, fun target h => hstep₁ _ fun acts => by rw [doInvoke_state]; exact hsteps.trans h⟩
abbrev vx_CVW (R : Room) (s : State) (args : Array Value) (own C : String) (index : Nat) (y : MethodName) (bytes : ByteArray) (maxL : Nat) (ret : Option FieldType) (hh : List (Nat × Nat × Nat × Nat)) (ws : List Cond) (rm : Room) (mc ms n : Nat) : Prop :=
  (rm.cells = mc ∧ rm.slots = ms ∧ rm.frames + 1 ≤ R.frames ∧ 8 + (maxL + 11) + rm.locals ≤ R.locals ∧ (∀ w ∈ ws, ∀ (a' : Array Value) (U : State), s.WarmedH U.vm → w.before a' U = true) ∧ Cond.codeWith y bytes maxL ret hh ∈ ws) ∧
  (Cond.codeWith y bytes maxL ret hh).before args s = true ∧ (Cond.initialized y.cls).before args s = true ∧ (y.cls ≠ "java/lang/invoke/MethodHandle" ∧ y.cls ≠ "java/lang/invoke/VarHandle") ∧
  (∀ sig, parseMethodDescriptor y.desc = some sig → n = sig.parameters.length) ∧ (Cond.methodLink own index y).before args s = true ∧ (Cond.instanceMethod y).before args s = true ∧ (Cond.selects C y y).before args s = true
theorem vx_cwVW {own C : String} {index maxL mc ms : Nat} {y : MethodName} {bytes : ByteArray} {ret : Option FieldType} {hh : List (Nat × Nat × Nat × Nat)} {Ts ws ws' : List Cond} {rm : Room} (n : Nat) (ht : ∀ w ∈ Ts, w.before args s = true) (hT : GoodIn Ts (wsV own index C y ws)) (hw : ws = Cond.codeWith y bytes maxL ret hh :: ws') (hrc : rm.cells = mc) (hrs : rm.slots = ms)
    (hd : y.cls = C ∧ y.cls ≠ "java/lang/invoke/MethodHandle" ∧ y.cls ≠ "java/lang/invoke/VarHandle" ∧ (parseMethodDescriptor y.desc).map (fun d => d.parameters.length) = some n) (hR : rm.frames + 1 ≤ R.frames ∧ 8 + (maxL + 11) + rm.locals ≤ R.locals) :
    vx_CVW R s args own C index y bytes maxL ret hh ws rm mc ms n := by
  obtain ⟨hC, hd⟩ := hd
  subst hC
  have ok : ∀ w ∈ wsV own index y.cls y ws, w.before args s = true := fun w h => ht w (hT w h).1
  have hG : GoodIn Ts ws := fun w h => hT w (by unfold wsV; exact List.mem_append_right _ h)
  have hc : Cond.codeWith y bytes maxL ret hh ∈ ws := by rw [hw]; exact List.mem_cons_self
  refine ⟨⟨hrc, hrs, hR.1, hR.2, pay_in ht hG, hc⟩, ht _ (hG _ hc).1, ok _ (by simp [wsV]), ⟨hd.1, hd.2.1⟩, fun sig h => ?_, ok _ (by simp [wsV]), ok _ (by simp [wsV]), ok _ (by simp [wsV])⟩
  have h2 := hd.2.2
  rw [h] at h2
  exact (Option.some.inj h2).symm
theorem vx_runVW {y : MethodName} {bytes cc : ByteArray} {maxL nL mc ms n index : Nat} {ret : Option FieldType} {hh : List (Nat × Nat × Nat × Nat)} {ws : List Cond} {rm : Room} {Pc : Array Value → State → Prop} {Qc : Array Value → State → Outcome → State → Prop} {free : Addr → Prop} {Ts : List Cond} {own C : String} {b : Addr} {As rest : List Value} {g : JFrame}
    (S : CallFix p m c cc nL s args Ts own) (hM : Met l y ws rm Pc Qc mc ms free) (cw : vx_CVW R s args own C index y bytes maxL ret hh ws rm mc ms n) (hp : PreV s H C b Pc As)
    (hg : g.method = m) (hn : As.length = n) (hsize : g.locals.size = nL) (hstack : g.stack = As.reverse ++ .ref b :: rest) (hW : 2 * g.monitorRoom + (rest.map fun v => v.category).sum ≤ 8) (hdg : decode cc g.pc = .ok (.invokevirtual index, 3)) (hf : cells + mc ≤ R.cells ∧ slots + ms ≤ R.slots) :
    va_Run p l e R s m args below meth c H locs cells slots mc ms g rest (Qc (Value.ref b :: As).toArray) free := by
  obtain ⟨⟨hrc, hrs, hfr, hlo, hws, hcw⟩, hcode, hini, hy, hlen, hl, hin, hse⟩ := cw
  have hK : Back l R p e below s args y 3 8 (PreOf R mc ms Pc) (PostOf Qc mc ms free) := va_backW (hh := hh) (bytes := bytes) (maxL := maxL) (ret := ret) hM hp.1 hrc hrs hfr hlo hws hcw (fun a' U hW => word_at hW (Or.inl (by first | rfl | simp [Cond.onTables, Cond.keeps, Cond.steady])) hini)
  obtain ⟨hx, hb, hml, ho, -⟩ := S
  obtain ⟨-, ⟨cellB, hcB, hoB, hclB⟩, hPc⟩ := hp
  intro T hT X
  obtain ⟨v, vm₁, ⟨U', l2, c2, s2⟩, hW₁, X', ⟨g', mk, t, L, e1, e2, hq, h1, hL, h2, h3⟩, st⟩ := vx_callVW X hx (C := C) (hh := hh) (bytes := bytes) (maxL := maxL) (ret := ret) ho hl hin hse hcode hy hK (by rw [hT]; exact hcB) hoB hclB hg (hsize.trans hml.symm) (argsL := As) (rest := rest) (fun sig h => hn.trans (hlen sig h)) hstack hW (by rw [hb]; exact hdg)
    (fun vm₁ hW₁ => ⟨hf.1, hf.2, hPc (T.setVm vm₁) hT hW₁⟩)
  dsimp only [Pt.U, Pt.locs, Pt.cells, Pt.slots] at X' e1 e2 h1 h2 h3 st
  subst h1; subst h2; subst h3
  exact ⟨v, (T.setVm vm₁).calling g' mk (Value.ref b :: As).toArray, t, U', L, hT, X', hL, e1, e2, hq, st⟩
section
variable {y : MethodName} {bytes cc : ByteArray} {maxL nL mc ms n index : Nat} {ret : Option FieldType} {ws : List Cond} {rm : Room} {Pc : Array Value → State → Prop} {Qc : Array Value → State → Outcome → State → Prop} {XC : String → State → State → Prop} {free : Addr → Prop} {Ts : List Cond} {own C : String} {b : Addr} {As rest : List Value} {g : JFrame}
theorem vx_runVX {hh : List (Nat × Nat × Nat × Nat)} (S : CallFix p m c cc nL s args Ts own) (hM : vx_Met l y ws rm Pc Qc XC mc ms free) (cw : vx_CVW R s args own C index y bytes maxL ret hh ws rm mc ms n) (hp : PreV s H C b Pc As)
    (hg : g.method = m) (hn : As.length = n) (hsize : g.locals.size = nL) (hstack : g.stack = As.reverse ++ .ref b :: rest) (hW : 2 * g.monitorRoom + (rest.map fun v => v.category).sum ≤ 8) (hdg : decode cc g.pc = .ok (.invokevirtual index, 3)) (hf : cells + mc ≤ R.cells ∧ slots + ms ≤ R.slots) :
    vx_Run p l e R s m args below meth c H locs cells slots mc ms g rest (Qc (Value.ref b :: As).toArray) XC free := by
  obtain ⟨⟨hrc, hrs, hfr, hlo, hws, hcw⟩, hcode, hini, hy, hlen, hl, hin, hse⟩ := cw
  have hK : vx_Back l R p e below s args y 3 8 (PreOf R mc ms Pc) (PostOf Qc mc ms free) (vx_Post XC mc ms free) := vx_backW (hh := hh) (bytes := bytes) (maxL := maxL) (ret := ret) hM hp.1 hrc hrs hfr hlo hws hcw (fun a' U hW => word_at hW (Or.inl (by first | rfl | simp [Cond.onTables, Cond.keeps, Cond.steady])) hini)
  obtain ⟨hx, hb, hml, ho, -⟩ := S
  obtain ⟨-, ⟨cellB, hcB, hoB, hclB⟩, hPc⟩ := hp
  intro T hT X
  rcases vx_callVX X hx (C := C) (hh := hh) (bytes := bytes) (maxL := maxL) (ret := ret) ho hl hin hse hcode hy hK (by rw [hT]; exact hcB) hoB hclB hg (hsize.trans hml.symm) (argsL := As) (rest := rest) (fun sig h => hn.trans (hlen sig h)) hstack hW (by rw [hb]; exact hdg)
    (fun vm₁ hW₁ => ⟨hf.1, hf.2, hPc (T.setVm vm₁) hT hW₁⟩) with ⟨v, vm₁, ⟨U', l2, c2, s2⟩, hW₁, X', ⟨g', mk, t, L, e1, e2, hq, h1, hL, h2, h3⟩, st⟩ | ⟨q, vm₁, ⟨U', l2, c2, s2⟩, hW₁, X', ⟨g', mk, t, L, E, ce, e1, e2, hq, hce, hcv, hcl, h1, hL, h2, h3⟩, st⟩
  · dsimp only [Pt.U, Pt.locs, Pt.cells, Pt.slots] at X' e1 e2 h1 h2 h3 st
    subst h1; subst h2; subst h3
    exact Or.inl ⟨v, (T.setVm vm₁).calling g' mk (Value.ref b :: As).toArray, t, U', L, hT, X', hL, e1, e2, hq, st⟩
  · dsimp only [Pt.U, Pt.locs, Pt.cells, Pt.slots] at X' e1 e2 h1 h2 h3 st hcl
    subst h1; subst h2; subst h3
    exact Or.inr ⟨q, (T.setVm vm₁).calling g' mk (Value.ref b :: As).toArray, t, U', L, E, ce, hT, X', hL, e1, e2, hq, hce, hcv, vx_cls hW₁ hcl, st⟩
theorem vx_runSX {hh : List (Nat × Nat × Nat × Nat)} (S : CallFix p m c cc nL s args Ts own) (hM : vx_Met l y ws rm Pc Qc XC mc ms free) (cw : vx_CSW R s args own index y bytes maxL ret hh ws rm mc ms n) (hp : PreS s H Pc As)
    (hg : g.method = m) (hn : As.length = n) (hsize : g.locals.size = nL) (hstack : g.stack = As.reverse ++ rest) (hW : 2 * g.monitorRoom + (rest.map fun v => v.category).sum ≤ 8) (hdg : decode cc g.pc = .ok (.invokestatic index, 3)) (hf : cells + mc ≤ R.cells ∧ slots + ms ≤ R.slots) :
    vx_Run p l e R s m args below meth c H locs cells slots mc ms g rest (Qc As.toArray) XC free := by
  obtain ⟨⟨hrc, hrs, hfr, hlo, hws, hcw⟩, hcode, hini, hy, hlen, hl, hstt⟩ := cw
  have hK : vx_Back l R p e below s args y 3 8 (PreOf R mc ms Pc) (PostOf Qc mc ms free) (vx_Post XC mc ms free) := vx_backW (hh := hh) (bytes := bytes) (maxL := maxL) (ret := ret) hM hp.1 hrc hrs hfr hlo hws hcw (fun a' U hW => word_at hW (Or.inl (by first | rfl | simp [Cond.onTables, Cond.keeps, Cond.steady])) hini)
  obtain ⟨hx, hb, hml, ho, -⟩ := S
  intro T hT X
  rcases vx_callSX X hx (hh := hh) (bytes := bytes) (maxL := maxL) (ret := ret) ho hl hstt hini hcode hy hK hg (hsize.trans hml.symm) (argsL := As) (rest := rest) (fun sig h => hn.trans (hlen sig h)) hstack hW (by rw [hb]; exact hdg)
    (fun vm₁ hW₁ => ⟨hf.1, hf.2, hp.2 (T.setVm vm₁) hT hW₁⟩) with ⟨v, vm₁, ⟨U', l2, c2, s2⟩, hW₁, X', ⟨g', mk, t, L, e1, e2, hq, h1, hL, h2, h3⟩, st⟩ | ⟨q, vm₁, ⟨U', l2, c2, s2⟩, hW₁, X', ⟨g', mk, t, L, E, ce, e1, e2, hq, hce, hcv, hcl, h1, hL, h2, h3⟩, st⟩
  · dsimp only [Pt.U, Pt.locs, Pt.cells, Pt.slots] at X' e1 e2 h1 h2 h3 st
    subst h1; subst h2; subst h3
    exact Or.inl ⟨v, (T.setVm vm₁).calling g' mk As.toArray, t, U', L, hT, X', hL, e1, e2, hq, st⟩
  · dsimp only [Pt.U, Pt.locs, Pt.cells, Pt.slots] at X' e1 e2 h1 h2 h3 st hcl
    subst h1; subst h2; subst h3
    exact Or.inr ⟨q, (T.setVm vm₁).calling g' mk As.toArray, t, U', L, E, ce, hT, X', hL, e1, e2, hq, hce, hcv, vx_cls hW₁ hcl, st⟩
end
end VXH
theorem vx_ofWH {l : Launch} {y : MethodName} {ws ws' : List Cond} {rm : Room} {Pc : Array Value → State → Prop} {Qc : Array Value → State → Outcome → State → Prop} {XC : String → State → State → Prop} {mc ms : Nat} {free : Addr → Prop} {cc : ByteArray} {maxL : Nat} {ret : Option FieldType} {hh : List (Nat × Nat × Nat × Nat)}
    (hy : plainName y.cls = true) (hw : ws = Cond.codeWith y cc maxL ret hh :: ws')
    (body : ∀ p e s m args below meth c s₁, BodyLoose p l y (headSpec ws rm) cc maxL ret e s m args below meth c s₁ → c.maxLocals = maxL → Pc args s →
      W p l e (headSpec ws rm).room s m args below meth c s.heap [] 0 0 (vx_MQ below Qc XC args s mc ms free) (entryFrame m args maxL)) : vx_Met l y ws rm Pc Qc XC mc ms free := by
  refine MetFree.of_bodyS (code := cc) (maxLocals := maxL) (ret := ret) hy ?_ ?_
  · intro args s m h hn
    obtain ⟨m9, meth, c, hn9, h1, h2, h3, h4, -, h5, h6, -⟩ := Cond.codeWith_spec (atoms_spec (ws := ws) h _ (by rw [hw]; exact List.mem_cons_self))
    cases hn.symm.trans hn9
    exact ⟨meth, c, h1, h2, h3, h4, h5, h6⟩
  · intro p e s m args below meth c s₁ B hml hP _
    have hh0 : s₁.heap = s.heap := by rw [B.state]; rfl
    obtain ⟨t, a1, o, b1, b2, b3⟩ := body p e s m args below meth c s₁ B hml hP s₁ hh0 (Stand.of_body B)
    exact ⟨t, o, a1, b1, b2, b3⟩
/-! ===== END ===== -/
end
section
/-! ===== BEGIN printed: names, fields, word lists, decode rows ===== -/
def RX0 : String := "LookbackPlan$Lot"
def TX0 : u_T := fun k => match k with
  | 0 => ("LookbackPlan$Lot", "month", "I", true)
  | 1 => ("LookbackPlan$Lot", "monthPrice", "I", true)
  | 2 => ("LookbackPlan$Lot", "paidEach", "I", true)
  | 3 => ("LookbackPlan$Lot", "offerMonth", "I", true)
  | 4 => ("LookbackPlan$Lot", "offerPrice", "I", true)
  | 5 => ("LookbackPlan$Lot", "bought", "I", true)
  | _ => ("LookbackPlan$Lot", "left", "I", false)
def tyX0 : Nat → FieldType := fun k => match k with
  | 0 => .int
  | 1 => .int
  | 2 => .int
  | 3 => .int
  | 4 => .int
  | 5 => .int
  | _ => .int
abbrev wsX00 : List Cond := u_ws RX0 TX0 7
theorem nmX0 : ∀ a, a < 7 → ∀ b, b < 7 → a ≠ b → (TX0 a).2.1 ≠ (TX0 b).2.1 := by decide +kernel
theorem tyX0_ok : ∀ k, k < 7 → parseFieldDescriptor (TX0 k).2.2.1 = some (tyX0 k) := by decide +kernel
abbrev cX0_init : ByteArray := prog_2_method_1_code
def yX0_init : MethodName := ⟨RX0, "<init>", "(IIIIII)V"⟩
abbrev cX0_isEarly : ByteArray := prog_2_method_2_code
def yX0_isEarly : MethodName := ⟨RX0, "isEarly", "(I)Z"⟩
abbrev cX0_payEach : ByteArray := prog_2_method_3_code
def yX0_payEach : MethodName := ⟨RX0, "payEach", "(II)J"⟩
abbrev cX0_gainEach : ByteArray := prog_2_method_4_code
def yX0_gainEach : MethodName := ⟨RX0, "gainEach", "(II)J"⟩
def RX1 : String := "LookbackPlan$Member"
def TX1 : u_T := fun k => match k with
  | 0 => ("LookbackPlan$Member", "lots", "[LLookbackPlan$Lot;", true)
  | 1 => ("LookbackPlan$Member", "countedByYear", "[J", true)
  | 2 => ("LookbackPlan$Member", "rate", "I", false)
  | 3 => ("LookbackPlan$Member", "hasLeft", "Z", false)
  | 4 => ("LookbackPlan$Member", "money", "J", false)
  | 5 => ("LookbackPlan$Member", "spent", "J", false)
  | 6 => ("LookbackPlan$Member", "givenBack", "J", false)
  | 7 => ("LookbackPlan$Member", "keptOfSlips", "J", false)
  | 8 => ("LookbackPlan$Member", "offerMonth", "I", false)
  | 9 => ("LookbackPlan$Member", "offerPrice", "I", false)
  | 10 => ("LookbackPlan$Member", "offerPurchases", "I", false)
  | 11 => ("LookbackPlan$Member", "resets", "I", false)
  | 12 => ("LookbackPlan$Member", "payOfSales", "J", false)
  | _ => ("LookbackPlan$Member", "gainOfSales", "J", false)
def tyX1 : Nat → FieldType := fun k => match k with
  | 0 => .array (.object "LookbackPlan$Lot")
  | 1 => .array .long
  | 2 => .int
  | 3 => .boolean
  | 4 => .long
  | 5 => .long
  | 6 => .long
  | 7 => .long
  | 8 => .int
  | 9 => .int
  | 10 => .int
  | 11 => .int
  | 12 => .long
  | _ => .long
abbrev wsX10 : List Cond := u_ws RX1 TX1 14
theorem nmX1 : ∀ a, a < 14 → ∀ b, b < 14 → a ≠ b → (TX1 a).2.1 ≠ (TX1 b).2.1 := by decide +kernel
theorem tyX1_ok : ∀ k, k < 14 → parseFieldDescriptor (TX1 k).2.2.1 = some (tyX1 k) := by decide +kernel
abbrev cX1_init : ByteArray := prog_3_method_1_code
def yX1_init : MethodName := ⟨RX1, "<init>", "(III)V"⟩
abbrev cX1_takeSlip : ByteArray := prog_3_method_2_code
def yX1_takeSlip : MethodName := ⟨RX1, "takeSlip", "(I)I"⟩
abbrev cX1_giveBack : ByteArray := prog_3_method_3_code
def yX1_giveBack : MethodName := ⟨RX1, "giveBack", "()J"⟩
abbrev cX1_buyShares : ByteArray := prog_3_method_4_code
def yX1_buyShares : MethodName := ⟨RX1, "buyShares", "(III)V"⟩
abbrev cX1_renewOffer : ByteArray := prog_3_method_5_code
def yX1_renewOffer : MethodName := ⟨RX1, "renewOffer", "(II)V"⟩
abbrev cX1_purchasePrice : ByteArray := prog_3_method_6_code
def yX1_purchasePrice : MethodName := ⟨RX1, "purchasePrice", "(I)I"⟩
abbrev cX1_wholeTimes : ByteArray := prog_3_method_7_code
def yX1_wholeTimes : MethodName := ⟨RX1, "wholeTimes", "(JJ)J"⟩
abbrev cX1_countedIn : ByteArray := prog_3_method_8_code
def yX1_countedIn : MethodName := ⟨RX1, "countedIn", "(I)J"⟩
abbrev cX1_addCounted : ByteArray := prog_3_method_9_code
def yX1_addCounted : MethodName := ⟨RX1, "addCounted", "(IJ)V"⟩
abbrev cX1_lotOf : ByteArray := prog_3_method_10_code
def yX1_lotOf : MethodName := ⟨RX1, "lotOf", "(I)LLookbackPlan$Lot;"⟩
abbrev cX1_putLot : ByteArray := prog_3_method_11_code
def yX1_putLot : MethodName := ⟨RX1, "putLot", "(LLookbackPlan$Lot;)V"⟩
abbrev cX1_sharesHeld : ByteArray := prog_3_method_12_code
def yX1_sharesHeld : MethodName := ⟨RX1, "sharesHeld", "()I"⟩
abbrev cX1_sellOldest : ByteArray := prog_3_method_13_code
def yX1_sellOldest : MethodName := ⟨RX1, "sellOldest", "(III)I"⟩
abbrev cX1_gainIfAllSold : ByteArray := prog_3_method_14_code
def yX1_gainIfAllSold : MethodName := ⟨RX1, "gainIfAllSold", "(II)J"⟩
def RX2 : String := "LookbackPlan"
def TX2 : u_T := fun k => match k with
  | 0 => ("LookbackPlan", "members", "[LLookbackPlan$Member;", true)
  | 1 => ("LookbackPlan", "memberCount", "I", false)
  | 2 => ("LookbackPlan", "month", "I", false)
  | 3 => ("LookbackPlan", "priceNow", "I", false)
  | _ => ("LookbackPlan", "ceiling", "I", false)
def tyX2 : Nat → FieldType := fun k => match k with
  | 0 => .array (.object "LookbackPlan$Member")
  | 1 => .int
  | 2 => .int
  | 3 => .int
  | _ => .int
abbrev wsX20 : List Cond := u_ws RX2 TX2 5
theorem nmX2 : ∀ a, a < 5 → ∀ b, b < 5 → a ≠ b → (TX2 a).2.1 ≠ (TX2 b).2.1 := by decide +kernel
theorem tyX2_ok : ∀ k, k < 5 → parseFieldDescriptor (TX2 k).2.2.1 = some (tyX2 k) := by decide +kernel
abbrev cX2_init : ByteArray := prog_1_method_1_code
def yX2_init : MethodName := ⟨RX2, "<init>", "()V"⟩
abbrev cX2_next : ByteArray := prog_1_method_2_code
def yX2_next : MethodName := ⟨RX2, "next", "(I)I"⟩
abbrev cX2_month : ByteArray := prog_1_method_3_code
def yX2_month : MethodName := ⟨RX2, "month", "()I"⟩
abbrev cX2_ceiling : ByteArray := prog_1_method_4_code
def yX2_ceiling : MethodName := ⟨RX2, "ceiling", "(I)I"⟩
abbrev cX2_join : ByteArray := prog_1_method_5_code
def yX2_join : MethodName := ⟨RX2, "join", "(I)I"⟩
abbrev cX2_rate : ByteArray := prog_1_method_6_code
def yX2_rate : MethodName := ⟨RX2, "rate", "(II)I"⟩
abbrev cX2_slip : ByteArray := prog_1_method_7_code
def yX2_slip : MethodName := ⟨RX2, "slip", "(II)I"⟩
abbrev cX2_leave : ByteArray := prog_1_method_8_code
def yX2_leave : MethodName := ⟨RX2, "leave", "(I)I"⟩
abbrev cX2_money : ByteArray := prog_1_method_9_code
def yX2_money : MethodName := ⟨RX2, "money", "(I)I"⟩
abbrev cX2_offerMonth : ByteArray := prog_1_method_10_code
def yX2_offerMonth : MethodName := ⟨RX2, "offerMonth", "(I)I"⟩
abbrev cX2_offerPrice : ByteArray := prog_1_method_11_code
def yX2_offerPrice : MethodName := ⟨RX2, "offerPrice", "(I)I"⟩
abbrev cX2_resets : ByteArray := prog_1_method_12_code
def yX2_resets : MethodName := ⟨RX2, "resets", "(I)I"⟩
abbrev cX2_shares : ByteArray := prog_1_method_13_code
def yX2_shares : MethodName := ⟨RX2, "shares", "(I)I"⟩
abbrev cX2_bought : ByteArray := prog_1_method_14_code
def yX2_bought : MethodName := ⟨RX2, "bought", "(II)I"⟩
abbrev cX2_paidEach : ByteArray := prog_1_method_15_code
def yX2_paidEach : MethodName := ⟨RX2, "paidEach", "(II)I"⟩
abbrev cX2_counted : ByteArray := prog_1_method_16_code
def yX2_counted : MethodName := ⟨RX2, "counted", "(II)J"⟩
abbrev cX2_traced : ByteArray := prog_1_method_17_code
def yX2_traced : MethodName := ⟨RX2, "traced", "(I)J"⟩
abbrev cX2_kept : ByteArray := prog_1_method_18_code
def yX2_kept : MethodName := ⟨RX2, "kept", "(I)J"⟩
abbrev cX2_sell : ByteArray := prog_1_method_19_code
def yX2_sell : MethodName := ⟨RX2, "sell", "(II)I"⟩
abbrev cX2_pay : ByteArray := prog_1_method_20_code
def yX2_pay : MethodName := ⟨RX2, "pay", "(I)J"⟩
abbrev cX2_gain : ByteArray := prog_1_method_21_code
def yX2_gain : MethodName := ⟨RX2, "gain", "(I)J"⟩
abbrev cX2_gainNow : ByteArray := prog_1_method_22_code
def yX2_gainNow : MethodName := ⟨RX2, "gainNow", "(I)J"⟩
abbrev cX2_memberOrThrow : ByteArray := prog_1_method_23_code
def yX2_memberOrThrow : MethodName := ⟨RX2, "memberOrThrow", "(I)LLookbackPlan$Member;"⟩
abbrev cX2_refuseBadRate : ByteArray := prog_1_method_24_code
def yX2_refuseBadRate : MethodName := ⟨RX2, "refuseBadRate", "(I)V"⟩
abbrev cX2_refuseBadMonth : ByteArray := prog_1_method_25_code
def yX2_refuseBadMonth : MethodName := ⟨RX2, "refuseBadMonth", "(I)V"⟩
abbrev cX2_refuseLeft : ByteArray := prog_1_method_26_code
def yX2_refuseLeft : MethodName := ⟨RX2, "refuseLeft", "(LLookbackPlan$Member;)V"⟩
abbrev cX2_isPurchaseMonth : ByteArray := prog_1_method_27_code
def yX2_isPurchaseMonth : MethodName := ⟨RX2, "isPurchaseMonth", "(I)Z"⟩
abbrev cX2_buyForAll : ByteArray := prog_1_method_28_code
def yX2_buyForAll : MethodName := ⟨RX2, "buyForAll", "()V"⟩
def RX3 : String := "LookbackPlanModel"
def TX3 : u_T := fun k => match k with
  | 0 => ("LookbackPlanModel", "month", "I", false)
  | 1 => ("LookbackPlanModel", "price", "[I", true)
  | 2 => ("LookbackPlanModel", "ceiling", "I", false)
  | 3 => ("LookbackPlanModel", "members", "I", false)
  | 4 => ("LookbackPlanModel", "rate", "[I", true)
  | 5 => ("LookbackPlanModel", "left", "[Z", true)
  | 6 => ("LookbackPlanModel", "money", "[I", true)
  | 7 => ("LookbackPlanModel", "back", "[I", true)
  | 8 => ("LookbackPlanModel", "spent", "[J", true)
  | 9 => ("LookbackPlanModel", "kept", "[J", true)
  | 10 => ("LookbackPlanModel", "first", "[I", true)
  | 11 => ("LookbackPlanModel", "times", "[I", true)
  | 12 => ("LookbackPlanModel", "resets", "[I", true)
  | 13 => ("LookbackPlanModel", "pay", "[J", true)
  | 14 => ("LookbackPlanModel", "gain", "[J", true)
  | 15 => ("LookbackPlanModel", "bought", "[I", true)
  | 16 => ("LookbackPlanModel", "had", "[I", true)
  | 17 => ("LookbackPlanModel", "paid", "[I", true)
  | 18 => ("LookbackPlanModel", "offer", "[I", true)
  | _ => ("LookbackPlanModel", "thrown", "I", false)
def tyX3 : Nat → FieldType := fun k => match k with
  | 0 => .int
  | 1 => .array .int
  | 2 => .int
  | 3 => .int
  | 4 => .array .int
  | 5 => .array .boolean
  | 6 => .array .int
  | 7 => .array .int
  | 8 => .array .long
  | 9 => .array .long
  | 10 => .array .int
  | 11 => .array .int
  | 12 => .array .int
  | 13 => .array .long
  | 14 => .array .long
  | 15 => .array .int
  | 16 => .array .int
  | 17 => .array .int
  | 18 => .array .int
  | _ => .int
abbrev wsX30 : List Cond := u_ws RX3 TX3 20
theorem nmX3 : ∀ a, a < 20 → ∀ b, b < 20 → a ≠ b → (TX3 a).2.1 ≠ (TX3 b).2.1 := by decide +kernel
theorem tyX3_ok : ∀ k, k < 20 → parseFieldDescriptor (TX3 k).2.2.1 = some (tyX3 k) := by decide +kernel
abbrev cX3_init : ByteArray := prog_5_method_1_code
def yX3_init : MethodName := ⟨RX3, "<init>", "()V"⟩
abbrev cX3_thrown : ByteArray := prog_5_method_2_code
def yX3_thrown : MethodName := ⟨RX3, "thrown", "()I"⟩
abbrev cX3_may : ByteArray := prog_5_method_3_code
def yX3_may : MethodName := ⟨RX3, "may", "(Z)Z"⟩
abbrev cX3_mayBoth : ByteArray := prog_5_method_4_code
def yX3_mayBoth : MethodName := ⟨RX3, "mayBoth", "(ZZ)Z"⟩
abbrev cX3_mayAll : ByteArray := prog_5_method_5_code
def yX3_mayAll : MethodName := ⟨RX3, "mayAll", "(ZZZ)Z"⟩
abbrev cX3_isIn : ByteArray := prog_5_method_6_code
def yX3_isIn : MethodName := ⟨RX3, "isIn", "(III)Z"⟩
abbrev cX3_isMember : ByteArray := prog_5_method_7_code
def yX3_isMember : MethodName := ⟨RX3, "isMember", "(I)Z"⟩
abbrev cX3_countedIn : ByteArray := prog_5_method_8_code
def yX3_countedIn : MethodName := ⟨RX3, "countedIn", "(II)J"⟩
abbrev cX3_buy : ByteArray := prog_5_method_9_code
def yX3_buy : MethodName := ⟨RX3, "buy", "(I)V"⟩
abbrev cX3_next : ByteArray := prog_5_method_10_code
def yX3_next : MethodName := ⟨RX3, "next", "(I)I"⟩
abbrev cX3_month : ByteArray := prog_5_method_11_code
def yX3_month : MethodName := ⟨RX3, "month", "()I"⟩
abbrev cX3_ceiling : ByteArray := prog_5_method_12_code
def yX3_ceiling : MethodName := ⟨RX3, "ceiling", "(I)I"⟩
abbrev cX3_join : ByteArray := prog_5_method_13_code
def yX3_join : MethodName := ⟨RX3, "join", "(I)I"⟩
abbrev cX3_isStaying : ByteArray := prog_5_method_14_code
def yX3_isStaying : MethodName := ⟨RX3, "isStaying", "(I)Z"⟩
abbrev cX3_rate : ByteArray := prog_5_method_15_code
def yX3_rate : MethodName := ⟨RX3, "rate", "(II)I"⟩
abbrev cX3_slip : ByteArray := prog_5_method_16_code
def yX3_slip : MethodName := ⟨RX3, "slip", "(II)I"⟩
abbrev cX3_leave : ByteArray := prog_5_method_17_code
def yX3_leave : MethodName := ⟨RX3, "leave", "(I)I"⟩
abbrev cX3_money : ByteArray := prog_5_method_18_code
def yX3_money : MethodName := ⟨RX3, "money", "(I)I"⟩
abbrev cX3_offerMonth : ByteArray := prog_5_method_19_code
def yX3_offerMonth : MethodName := ⟨RX3, "offerMonth", "(I)I"⟩
abbrev cX3_offerPrice : ByteArray := prog_5_method_20_code
def yX3_offerPrice : MethodName := ⟨RX3, "offerPrice", "(I)I"⟩
abbrev cX3_resets : ByteArray := prog_5_method_21_code
def yX3_resets : MethodName := ⟨RX3, "resets", "(I)I"⟩
abbrev cX3_sharesOf : ByteArray := prog_5_method_22_code
def yX3_sharesOf : MethodName := ⟨RX3, "sharesOf", "(I)I"⟩
abbrev cX3_shares : ByteArray := prog_5_method_23_code
def yX3_shares : MethodName := ⟨RX3, "shares", "(I)I"⟩
abbrev cX3_bought : ByteArray := prog_5_method_24_code
def yX3_bought : MethodName := ⟨RX3, "bought", "(II)I"⟩
abbrev cX3_paidEach : ByteArray := prog_5_method_25_code
def yX3_paidEach : MethodName := ⟨RX3, "paidEach", "(II)I"⟩
abbrev cX3_counted : ByteArray := prog_5_method_26_code
def yX3_counted : MethodName := ⟨RX3, "counted", "(II)J"⟩
abbrev cX3_traced : ByteArray := prog_5_method_27_code
def yX3_traced : MethodName := ⟨RX3, "traced", "(I)J"⟩
abbrev cX3_kept : ByteArray := prog_5_method_28_code
def yX3_kept : MethodName := ⟨RX3, "kept", "(I)J"⟩
abbrev cX3_isEarly : ByteArray := prog_5_method_29_code
def yX3_isEarly : MethodName := ⟨RX3, "isEarly", "(I)Z"⟩
abbrev cX3_payOf : ByteArray := prog_5_method_30_code
def yX3_payOf : MethodName := ⟨RX3, "payOf", "(I)I"⟩
abbrev cX3_gainOf : ByteArray := prog_5_method_31_code
def yX3_gainOf : MethodName := ⟨RX3, "gainOf", "(II)J"⟩
abbrev cX3_sell : ByteArray := prog_5_method_32_code
def yX3_sell : MethodName := ⟨RX3, "sell", "(II)I"⟩
abbrev cX3_pay : ByteArray := prog_5_method_33_code
def yX3_pay : MethodName := ⟨RX3, "pay", "(I)J"⟩
abbrev cX3_gain : ByteArray := prog_5_method_34_code
def yX3_gain : MethodName := ⟨RX3, "gain", "(I)J"⟩
abbrev cX3_gainNow : ByteArray := prog_5_method_35_code
def yX3_gainNow : MethodName := ⟨RX3, "gainNow", "(I)J"⟩
def RJ9 : String := "java/lang/Math"
def TJ9 : u_T := fun k => match k with
  | _ => ("", "", "", false)
def tyJ9 : Nat → FieldType := fun k => match k with
  | _ => .int
abbrev wsJ90 : List Cond := u_ws RJ9 TJ9 0
theorem nmJ9 : ∀ a, a < 0 → ∀ b, b < 0 → a ≠ b → (TJ9 a).2.1 ≠ (TJ9 b).2.1 := by decide +kernel
theorem tyJ9_ok : ∀ k, k < 0 → parseFieldDescriptor (TJ9 k).2.2.1 = some (tyJ9 k) := by decide +kernel
abbrev cJ9_max_7cf53 : ByteArray := prog_10_method_65_code
def yJ9_max_7cf53 : MethodName := ⟨RJ9, "max", "(II)I"⟩
abbrev cJ9_min_7cf53 : ByteArray := prog_10_method_69_code
def yJ9_min_7cf53 : MethodName := ⟨RJ9, "min", "(II)I"⟩
abbrev cJ9_min_f86c9 : ByteArray := prog_10_method_70_code
def yJ9_min_f86c9 : MethodName := ⟨RJ9, "min", "(JJ)J"⟩
def RJ0 : String := "java/lang/String"
def TJ0 : u_T := fun k => match k with
  | _ => ("", "", "", false)
def tyJ0 : Nat → FieldType := fun k => match k with
  | _ => .int
abbrev wsJ00 : List Cond := u_ws RJ0 TJ0 0
theorem nmJ0 : ∀ a, a < 0 → ∀ b, b < 0 → a ≠ b → (TJ0 a).2.1 ≠ (TJ0 b).2.1 := by decide +kernel
theorem tyJ0_ok : ∀ k, k < 0 → parseFieldDescriptor (TJ0 k).2.2.1 = some (tyJ0 k) := by decide +kernel
def RL : String := "LookbackPlanLaw"
abbrev cL_next : ByteArray := method_3_code
def yL_next : MethodName := ⟨RL, "next", "(LLookbackPlan;I[J)I"⟩
abbrev cL_ceiling : ByteArray := method_4_code
def yL_ceiling : MethodName := ⟨RL, "ceiling", "(LLookbackPlan;I[J)I"⟩
abbrev cL_join : ByteArray := method_5_code
def yL_join : MethodName := ⟨RL, "join", "(LLookbackPlan;I[J)I"⟩
abbrev cL_rate : ByteArray := method_6_code
def yL_rate : MethodName := ⟨RL, "rate", "(LLookbackPlan;II[J)I"⟩
abbrev cL_slip : ByteArray := method_7_code
def yL_slip : MethodName := ⟨RL, "slip", "(LLookbackPlan;II[J)I"⟩
abbrev cL_leave : ByteArray := method_8_code
def yL_leave : MethodName := ⟨RL, "leave", "(LLookbackPlan;I[J)I"⟩
abbrev cL_money : ByteArray := method_9_code
def yL_money : MethodName := ⟨RL, "money", "(LLookbackPlan;I[J)I"⟩
abbrev cL_offerMonth : ByteArray := method_10_code
def yL_offerMonth : MethodName := ⟨RL, "offerMonth", "(LLookbackPlan;I[J)I"⟩
abbrev cL_offerPrice : ByteArray := method_11_code
def yL_offerPrice : MethodName := ⟨RL, "offerPrice", "(LLookbackPlan;I[J)I"⟩
abbrev cL_resets : ByteArray := method_12_code
def yL_resets : MethodName := ⟨RL, "resets", "(LLookbackPlan;I[J)I"⟩
abbrev cL_shares : ByteArray := method_13_code
def yL_shares : MethodName := ⟨RL, "shares", "(LLookbackPlan;I[J)I"⟩
abbrev cL_bought : ByteArray := method_14_code
def yL_bought : MethodName := ⟨RL, "bought", "(LLookbackPlan;II[J)I"⟩
abbrev cL_paidEach : ByteArray := method_15_code
def yL_paidEach : MethodName := ⟨RL, "paidEach", "(LLookbackPlan;II[J)I"⟩
abbrev cL_counted : ByteArray := method_16_code
def yL_counted : MethodName := ⟨RL, "counted", "(LLookbackPlan;II[J)I"⟩
abbrev cL_traced : ByteArray := method_17_code
def yL_traced : MethodName := ⟨RL, "traced", "(LLookbackPlan;I[J)I"⟩
abbrev cL_kept : ByteArray := method_18_code
def yL_kept : MethodName := ⟨RL, "kept", "(LLookbackPlan;I[J)I"⟩
abbrev cL_sell : ByteArray := method_19_code
def yL_sell : MethodName := ⟨RL, "sell", "(LLookbackPlan;II[J)I"⟩
abbrev cL_pay : ByteArray := method_20_code
def yL_pay : MethodName := ⟨RL, "pay", "(LLookbackPlan;I[J)I"⟩
abbrev cL_gain : ByteArray := method_21_code
def yL_gain : MethodName := ⟨RL, "gain", "(LLookbackPlan;I[J)I"⟩
abbrev cL_gainNow : ByteArray := method_22_code
def yL_gainNow : MethodName := ⟨RL, "gainNow", "(LLookbackPlan;I[J)I"⟩
abbrev cL_law : ByteArray := code
def yL_law : MethodName := ⟨RL, "law", "([I)Z"⟩
def wsX0_init : List Cond := .code yX0_init cX0_init 7 none :: ([.methodLink RX0 3 objectInit, .instanceMethod objectInit, .code objectInit ⟨#[0xb1]⟩ 1 none, .fieldLink RX0 9 "LookbackPlan$Lot" "month" "I", .fieldLink RX0 15 "LookbackPlan$Lot" "monthPrice" "I", .fieldLink RX0 18 "LookbackPlan$Lot" "paidEach" "I", .fieldLink RX0 21 "LookbackPlan$Lot" "offerMonth" "I", .fieldLink RX0 24 "LookbackPlan$Lot" "offerPrice" "I", .fieldLink RX0 27 "LookbackPlan$Lot" "bought" "I", .fieldLink RX0 30 "LookbackPlan$Lot" "left" "I"] ++ wsX00)
def wsX0_isEarly : List Cond := .code yX0_isEarly cX0_isEarly 2 (some .boolean) :: ([.fieldLink RX0 21 "LookbackPlan$Lot" "offerMonth" "I", .fieldLink RX0 9 "LookbackPlan$Lot" "month" "I"] ++ wsX00)
def wsX0_payEach : List Cond := .code yX0_payEach cX0_payEach 4 (some .long) :: ([.fieldLink RX0 15 "LookbackPlan$Lot" "monthPrice" "I", .fieldLink RX0 18 "LookbackPlan$Lot" "paidEach" "I", .fieldLink RX0 24 "LookbackPlan$Lot" "offerPrice" "I", .methodLink RX0 37 Lib.Math.min.name, .static Lib.Math.min.name, .initialized "java/lang/Math", .code Lib.Math.min.name Lib.Math.min.code 2 (some .int), .methodLink RX0 43 Lib.Math.max.name, .static Lib.Math.max.name, .code Lib.Math.max.name Lib.Math.max.code 2 (some .int), .methodLink RX0 33 yX0_isEarly, .instanceMethod yX0_isEarly, .selects RX0 yX0_isEarly yX0_isEarly, .initialized RX0, .code yX0_isEarly cX0_isEarly 2 (some .boolean), .fieldLink RX0 21 "LookbackPlan$Lot" "offerMonth" "I", .fieldLink RX0 9 "LookbackPlan$Lot" "month" "I"] ++ wsX00)
def wsX0_gainEach : List Cond := .code yX0_gainEach cX0_gainEach 3 (some .long) :: ([.fieldLink RX0 18 "LookbackPlan$Lot" "paidEach" "I", .methodLink RX0 46 yX0_payEach, .instanceMethod yX0_payEach, .selects RX0 yX0_payEach yX0_payEach, .initialized RX0, .code yX0_payEach cX0_payEach 4 (some .long), .fieldLink RX0 15 "LookbackPlan$Lot" "monthPrice" "I", .fieldLink RX0 24 "LookbackPlan$Lot" "offerPrice" "I", .methodLink RX0 37 Lib.Math.min.name, .static Lib.Math.min.name, .initialized "java/lang/Math", .code Lib.Math.min.name Lib.Math.min.code 2 (some .int), .methodLink RX0 43 Lib.Math.max.name, .static Lib.Math.max.name, .code Lib.Math.max.name Lib.Math.max.code 2 (some .int), .methodLink RX0 33 yX0_isEarly, .instanceMethod yX0_isEarly, .selects RX0 yX0_isEarly yX0_isEarly, .code yX0_isEarly cX0_isEarly 2 (some .boolean), .fieldLink RX0 21 "LookbackPlan$Lot" "offerMonth" "I", .fieldLink RX0 9 "LookbackPlan$Lot" "month" "I"] ++ wsX00)
def wsX1_init : List Cond := .code yX1_init cX1_init 4 none :: ([.methodLink RX1 3 objectInit, .instanceMethod objectInit, .code objectInit ⟨#[0xb1]⟩ 1 none, .classLink RX1 9 RX0, .fieldLink RX1 11 "LookbackPlan$Member" "lots" "[LLookbackPlan$Lot;", .arrayClass .long, .fieldLink RX1 17 "LookbackPlan$Member" "countedByYear" "[J", .fieldLink RX1 21 "LookbackPlan$Member" "rate" "I", .fieldLink RX1 25 "LookbackPlan$Member" "offerMonth" "I", .fieldLink RX1 28 "LookbackPlan$Member" "offerPrice" "I"] ++ wsX10)
def wsX1_takeSlip : List Cond := .code yX1_takeSlip cX1_takeSlip 3 (some .int) :: ([.fieldLink RX1 21 "LookbackPlan$Member" "rate" "I", .fieldLink RX1 31 "LookbackPlan$Member" "money" "J", .fieldLink RX1 35 "LookbackPlan$Member" "keptOfSlips" "J"] ++ wsX10)
def wsX1_giveBack : List Cond := .code yX1_giveBack cX1_giveBack 3 (some .long) :: ([.fieldLink RX1 31 "LookbackPlan$Member" "money" "J", .fieldLink RX1 38 "LookbackPlan$Member" "givenBack" "J", .fieldLink RX1 41 "LookbackPlan$Member" "hasLeft" "Z"] ++ wsX10)
def wsX1_purchasePrice : List Cond := .code yX1_purchasePrice cX1_purchasePrice 1 (some .int) :: ([])
def wsX1_wholeTimes : List Cond := .code yX1_wholeTimes cX1_wholeTimes 4 (some .long) :: ([])
def wsX1_countedIn : List Cond := .code yX1_countedIn cX1_countedIn 2 (some .long) :: ([.fieldLink RX1 17 "LookbackPlan$Member" "countedByYear" "[J"] ++ wsX10)
def wsX1_putLot : List Cond := .code yX1_putLot cX1_putLot 3 none :: ([.fieldLink RX1 11 "LookbackPlan$Member" "lots" "[LLookbackPlan$Lot;"] ++ wsX00 ++ wsX10)
def wsX1_addCounted : List Cond := .code yX1_addCounted cX1_addCounted 4 none :: ([.fieldLink RX1 17 "LookbackPlan$Member" "countedByYear" "[J"] ++ wsX10)
def wsX1_renewOffer : List Cond := .code yX1_renewOffer cX1_renewOffer 4 none :: ([.fieldLink RX1 28 "LookbackPlan$Member" "offerPrice" "I", .fieldLink RX1 86 "LookbackPlan$Member" "resets" "I", .fieldLink RX1 79 "LookbackPlan$Member" "offerPurchases" "I", .fieldLink RX1 25 "LookbackPlan$Member" "offerMonth" "I"] ++ wsX10)
def wsX1_buyShares_r1 : List Cond := [Cond.fieldLink RX1 28 "LookbackPlan$Member" "offerPrice" "I", Cond.methodLink RX1 45 Lib.Math.min.name, Cond.static Lib.Math.min.name, Cond.initialized "java/lang/Math", Cond.code Lib.Math.min.name Lib.Math.min.code 2 (some .int), Cond.fieldLink RX1 31 "LookbackPlan$Member" "money" "J", Cond.methodLink RX1 63 Lib.MathLoose.min_long.x, Cond.static Lib.MathLoose.min_long.x, Cond.code Lib.MathLoose.min_long.x Lib.MathLoose.min_long.code 4 (some .long), Cond.classLink RX1 9 RX0, Cond.instantiable RX0 7, Cond.initialized RX0, Cond.fieldLink RX1 25 "LookbackPlan$Member" "offerMonth" "I", Cond.fieldLink RX1 76 "LookbackPlan$Member" "spent" "J", Cond.fieldLink RX1 79 "LookbackPlan$Member" "offerPurchases" "I", Cond.methodLink RX1 51 yX1_purchasePrice, Cond.static yX1_purchasePrice, Cond.initialized RX1, Cond.code yX1_purchasePrice cX1_purchasePrice 1 (some .int), Cond.methodLink RX1 55 yX1_wholeTimes, Cond.static yX1_wholeTimes, Cond.code yX1_wholeTimes cX1_wholeTimes 4 (some .long), Cond.methodLink RX1 59 yX1_countedIn, Cond.instanceMethod yX1_countedIn]
def wsX1_buyShares_r2 : List Cond := [Cond.selects RX1 yX1_countedIn yX1_countedIn, Cond.code yX1_countedIn cX1_countedIn 2 (some .long), Cond.fieldLink RX1 17 "LookbackPlan$Member" "countedByYear" "[J", Cond.instanceMethod yX0_init, Cond.code yX0_init cX0_init 7 none, Cond.methodLink RX0 3 objectInit, Cond.instanceMethod objectInit, Cond.code objectInit ⟨#[0xb1]⟩ 1 none, Cond.fieldLink RX0 9 "LookbackPlan$Lot" "month" "I", Cond.fieldLink RX0 15 "LookbackPlan$Lot" "monthPrice" "I", Cond.fieldLink RX0 18 "LookbackPlan$Lot" "paidEach" "I", Cond.fieldLink RX0 21 "LookbackPlan$Lot" "offerMonth" "I", Cond.fieldLink RX0 24 "LookbackPlan$Lot" "offerPrice" "I", Cond.fieldLink RX0 27 "LookbackPlan$Lot" "bought" "I", Cond.fieldLink RX0 30 "LookbackPlan$Lot" "left" "I", Cond.methodLink RX1 68 yX1_putLot, Cond.instanceMethod yX1_putLot, Cond.selects RX1 yX1_putLot yX1_putLot, Cond.code yX1_putLot cX1_putLot 3 none, Cond.fieldLink RX1 11 "LookbackPlan$Member" "lots" "[LLookbackPlan$Lot;", Cond.methodLink RX1 72 yX1_addCounted, Cond.instanceMethod yX1_addCounted, Cond.selects RX1 yX1_addCounted yX1_addCounted, Cond.code yX1_addCounted cX1_addCounted 4 none]
def wsX1_buyShares_r3 : List Cond := [Cond.methodLink RX1 82 yX1_renewOffer, Cond.instanceMethod yX1_renewOffer, Cond.selects RX1 yX1_renewOffer yX1_renewOffer, Cond.code yX1_renewOffer cX1_renewOffer 4 none, Cond.fieldLink RX1 86 "LookbackPlan$Member" "resets" "I"]
def wsX1_buyShares : List Cond := .code yX1_buyShares cX1_buyShares 11 none :: ((wsX1_buyShares_r1 ++ (wsX1_buyShares_r2 ++ wsX1_buyShares_r3)) ++ wsX10 ++ wsX00)
def wsX2_isPurchaseMonth : List Cond := .code yX2_isPurchaseMonth cX2_isPurchaseMonth 1 (some .boolean) :: ([])
def wsX1_lotOf : List Cond := .code yX1_lotOf cX1_lotOf 3 (some (.object "LookbackPlan$Lot")) :: ([.fieldLink RX1 11 "LookbackPlan$Member" "lots" "[LLookbackPlan$Lot;", .static yX2_isPurchaseMonth, .initialized RX2, .code yX2_isPurchaseMonth cX2_isPurchaseMonth 1 (some .boolean)] ++ wsX10)
def wsX1_sharesHeld : List Cond := .code yX1_sharesHeld cX1_sharesHeld 4 (some .int) :: ([.fieldLink RX1 11 "LookbackPlan$Member" "lots" "[LLookbackPlan$Lot;"] ++ wsX10 ++ wsX00)
def wsX1_sellOldest_r1 : List Cond := [Cond.fieldLink RX1 11 "LookbackPlan$Member" "lots" "[LLookbackPlan$Lot;", Cond.methodLink RX1 45 Lib.Math.min.name, Cond.static Lib.Math.min.name, Cond.initialized "java/lang/Math", Cond.code Lib.Math.min.name Lib.Math.min.code 2 (some .int), Cond.fieldLink RX1 99 "LookbackPlan$Member" "payOfSales" "J", Cond.fieldLink RX1 106 "LookbackPlan$Member" "gainOfSales" "J", Cond.instanceMethod yX0_payEach, Cond.initialized RX0, Cond.selects RX0 yX0_payEach yX0_payEach, Cond.code yX0_payEach cX0_payEach 4 (some .long), Cond.fieldLink RX0 15 "LookbackPlan$Lot" "monthPrice" "I", Cond.fieldLink RX0 18 "LookbackPlan$Lot" "paidEach" "I", Cond.fieldLink RX0 24 "LookbackPlan$Lot" "offerPrice" "I", Cond.methodLink RX0 37 Lib.Math.min.name, Cond.methodLink RX0 43 Lib.Math.max.name, Cond.static Lib.Math.max.name, Cond.code Lib.Math.max.name Lib.Math.max.code 2 (some .int), Cond.methodLink RX0 33 yX0_isEarly, Cond.instanceMethod yX0_isEarly, Cond.selects RX0 yX0_isEarly yX0_isEarly, Cond.code yX0_isEarly cX0_isEarly 2 (some .boolean), Cond.fieldLink RX0 21 "LookbackPlan$Lot" "offerMonth" "I", Cond.fieldLink RX0 9 "LookbackPlan$Lot" "month" "I"]
def wsX1_sellOldest_r2 : List Cond := [Cond.instanceMethod yX0_gainEach, Cond.selects RX0 yX0_gainEach yX0_gainEach, Cond.code yX0_gainEach cX0_gainEach 3 (some .long), Cond.methodLink RX0 46 yX0_payEach]
def wsX1_sellOldest : List Cond := .code yX1_sellOldest cX1_sellOldest 9 (some .int) :: ((wsX1_sellOldest_r1 ++ wsX1_sellOldest_r2) ++ wsX10 ++ wsX00)
def wsX1_gainIfAllSold_r1 : List Cond := [Cond.fieldLink RX1 11 "LookbackPlan$Member" "lots" "[LLookbackPlan$Lot;", Cond.instanceMethod yX0_gainEach, Cond.initialized RX0, Cond.selects RX0 yX0_gainEach yX0_gainEach, Cond.code yX0_gainEach cX0_gainEach 3 (some .long), Cond.fieldLink RX0 18 "LookbackPlan$Lot" "paidEach" "I", Cond.methodLink RX0 46 yX0_payEach, Cond.instanceMethod yX0_payEach, Cond.selects RX0 yX0_payEach yX0_payEach, Cond.code yX0_payEach cX0_payEach 4 (some .long), Cond.fieldLink RX0 15 "LookbackPlan$Lot" "monthPrice" "I", Cond.fieldLink RX0 24 "LookbackPlan$Lot" "offerPrice" "I", Cond.methodLink RX0 37 Lib.Math.min.name, Cond.static Lib.Math.min.name, Cond.initialized "java/lang/Math", Cond.code Lib.Math.min.name Lib.Math.min.code 2 (some .int), Cond.methodLink RX0 43 Lib.Math.max.name, Cond.static Lib.Math.max.name, Cond.code Lib.Math.max.name Lib.Math.max.code 2 (some .int), Cond.methodLink RX0 33 yX0_isEarly, Cond.instanceMethod yX0_isEarly, Cond.selects RX0 yX0_isEarly yX0_isEarly, Cond.code yX0_isEarly cX0_isEarly 2 (some .boolean), Cond.fieldLink RX0 21 "LookbackPlan$Lot" "offerMonth" "I"]
def wsX1_gainIfAllSold_r2 : List Cond := [Cond.fieldLink RX0 9 "LookbackPlan$Lot" "month" "I"]
def wsX1_gainIfAllSold : List Cond := .code yX1_gainIfAllSold cX1_gainIfAllSold 7 (some .long) :: ((wsX1_gainIfAllSold_r1 ++ wsX1_gainIfAllSold_r2) ++ wsX10 ++ wsX00)
def wsX2_init : List Cond := .code yX2_init cX2_init 1 none :: ([.methodLink RX2 3 objectInit, .instanceMethod objectInit, .code objectInit ⟨#[0xb1]⟩ 1 none, .classLink RX2 9 RX1, .fieldLink RX2 11 "LookbackPlan" "members" "[LLookbackPlan$Member;", .fieldLink RX2 15 "LookbackPlan" "memberCount" "I", .fieldLink RX2 19 "LookbackPlan" "month" "I", .fieldLink RX2 22 "LookbackPlan" "priceNow" "I", .constant RX2 25 (2500000), .fieldLink RX2 26 "LookbackPlan" "ceiling" "I"] ++ wsX20)
def wsX2_buyForAll_r1 : List Cond := [Cond.fieldLink RX2 11 "LookbackPlan" "members" "[LLookbackPlan$Member;", Cond.fieldLink RX2 19 "LookbackPlan" "month" "I", Cond.fieldLink RX2 22 "LookbackPlan" "priceNow" "I", Cond.fieldLink RX2 26 "LookbackPlan" "ceiling" "I", Cond.instanceMethod yX1_buyShares, Cond.initialized RX1, Cond.selects RX1 yX1_buyShares yX1_buyShares, Cond.code yX1_buyShares cX1_buyShares 11 none, Cond.fieldLink RX1 28 "LookbackPlan$Member" "offerPrice" "I", Cond.methodLink RX1 45 Lib.Math.min.name, Cond.static Lib.Math.min.name, Cond.initialized "java/lang/Math", Cond.code Lib.Math.min.name Lib.Math.min.code 2 (some .int), Cond.fieldLink RX1 31 "LookbackPlan$Member" "money" "J", Cond.methodLink RX1 63 Lib.MathLoose.min_long.x, Cond.static Lib.MathLoose.min_long.x, Cond.code Lib.MathLoose.min_long.x Lib.MathLoose.min_long.code 4 (some .long), Cond.classLink RX1 9 RX0, Cond.instantiable RX0 7, Cond.initialized RX0, Cond.fieldLink RX1 25 "LookbackPlan$Member" "offerMonth" "I", Cond.fieldLink RX1 76 "LookbackPlan$Member" "spent" "J", Cond.fieldLink RX1 79 "LookbackPlan$Member" "offerPurchases" "I", Cond.methodLink RX1 51 yX1_purchasePrice]
def wsX2_buyForAll_r2 : List Cond := [Cond.static yX1_purchasePrice, Cond.code yX1_purchasePrice cX1_purchasePrice 1 (some .int), Cond.methodLink RX1 55 yX1_wholeTimes, Cond.static yX1_wholeTimes, Cond.code yX1_wholeTimes cX1_wholeTimes 4 (some .long), Cond.methodLink RX1 59 yX1_countedIn, Cond.instanceMethod yX1_countedIn, Cond.selects RX1 yX1_countedIn yX1_countedIn, Cond.code yX1_countedIn cX1_countedIn 2 (some .long), Cond.fieldLink RX1 17 "LookbackPlan$Member" "countedByYear" "[J", Cond.instanceMethod yX0_init, Cond.code yX0_init cX0_init 7 none, Cond.methodLink RX0 3 objectInit, Cond.instanceMethod objectInit, Cond.code objectInit ⟨#[0xb1]⟩ 1 none, Cond.fieldLink RX0 9 "LookbackPlan$Lot" "month" "I", Cond.fieldLink RX0 15 "LookbackPlan$Lot" "monthPrice" "I", Cond.fieldLink RX0 18 "LookbackPlan$Lot" "paidEach" "I", Cond.fieldLink RX0 21 "LookbackPlan$Lot" "offerMonth" "I", Cond.fieldLink RX0 24 "LookbackPlan$Lot" "offerPrice" "I", Cond.fieldLink RX0 27 "LookbackPlan$Lot" "bought" "I", Cond.fieldLink RX0 30 "LookbackPlan$Lot" "left" "I", Cond.methodLink RX1 68 yX1_putLot, Cond.instanceMethod yX1_putLot]
def wsX2_buyForAll_r3 : List Cond := [Cond.selects RX1 yX1_putLot yX1_putLot, Cond.code yX1_putLot cX1_putLot 3 none, Cond.fieldLink RX1 11 "LookbackPlan$Member" "lots" "[LLookbackPlan$Lot;", Cond.methodLink RX1 72 yX1_addCounted, Cond.instanceMethod yX1_addCounted, Cond.selects RX1 yX1_addCounted yX1_addCounted, Cond.code yX1_addCounted cX1_addCounted 4 none, Cond.methodLink RX1 82 yX1_renewOffer, Cond.instanceMethod yX1_renewOffer, Cond.selects RX1 yX1_renewOffer yX1_renewOffer, Cond.code yX1_renewOffer cX1_renewOffer 4 none, Cond.fieldLink RX1 86 "LookbackPlan$Member" "resets" "I"]
def wsX2_buyForAll : List Cond := .code yX2_buyForAll cX2_buyForAll 3 none :: ((wsX2_buyForAll_r1 ++ (wsX2_buyForAll_r2 ++ wsX2_buyForAll_r3)) ++ wsX20 ++ wsX10 ++ wsX00)
def wsX2_next_r1 : List Cond := [Cond.classLink RX2 30 "java/lang/IllegalArgumentException", Cond.initialized "java/lang/IllegalArgumentException", Cond.classLink RX2 37 "java/lang/IllegalStateException", Cond.initialized "java/lang/IllegalStateException", Cond.constant RX2 29 (100000), Cond.fieldLink RX2 19 "LookbackPlan" "month" "I", Cond.fieldLink RX2 22 "LookbackPlan" "priceNow" "I", Cond.methodLink RX2 42 yX2_isPurchaseMonth, Cond.static yX2_isPurchaseMonth, Cond.initialized RX2, Cond.code yX2_isPurchaseMonth cX2_isPurchaseMonth 1 (some .boolean), Cond.methodLink RX2 46 yX2_buyForAll, Cond.instanceMethod yX2_buyForAll, Cond.selects RX2 yX2_buyForAll yX2_buyForAll, Cond.code yX2_buyForAll cX2_buyForAll 3 none, Cond.fieldLink RX2 11 "LookbackPlan" "members" "[LLookbackPlan$Member;", Cond.fieldLink RX2 26 "LookbackPlan" "ceiling" "I", Cond.instanceMethod yX1_buyShares, Cond.initialized RX1, Cond.selects RX1 yX1_buyShares yX1_buyShares, Cond.code yX1_buyShares cX1_buyShares 11 none, Cond.fieldLink RX1 28 "LookbackPlan$Member" "offerPrice" "I", Cond.methodLink RX1 45 Lib.Math.min.name, Cond.static Lib.Math.min.name]
def wsX2_next_r2 : List Cond := [Cond.initialized "java/lang/Math", Cond.code Lib.Math.min.name Lib.Math.min.code 2 (some .int), Cond.fieldLink RX1 31 "LookbackPlan$Member" "money" "J", Cond.methodLink RX1 63 Lib.MathLoose.min_long.x, Cond.static Lib.MathLoose.min_long.x, Cond.code Lib.MathLoose.min_long.x Lib.MathLoose.min_long.code 4 (some .long), Cond.classLink RX1 9 RX0, Cond.instantiable RX0 7, Cond.initialized RX0, Cond.fieldLink RX1 25 "LookbackPlan$Member" "offerMonth" "I", Cond.fieldLink RX1 76 "LookbackPlan$Member" "spent" "J", Cond.fieldLink RX1 79 "LookbackPlan$Member" "offerPurchases" "I", Cond.methodLink RX1 51 yX1_purchasePrice, Cond.static yX1_purchasePrice, Cond.code yX1_purchasePrice cX1_purchasePrice 1 (some .int), Cond.methodLink RX1 55 yX1_wholeTimes, Cond.static yX1_wholeTimes, Cond.code yX1_wholeTimes cX1_wholeTimes 4 (some .long), Cond.methodLink RX1 59 yX1_countedIn, Cond.instanceMethod yX1_countedIn, Cond.selects RX1 yX1_countedIn yX1_countedIn, Cond.code yX1_countedIn cX1_countedIn 2 (some .long), Cond.fieldLink RX1 17 "LookbackPlan$Member" "countedByYear" "[J", Cond.instanceMethod yX0_init]
def wsX2_next_r3 : List Cond := [Cond.code yX0_init cX0_init 7 none, Cond.methodLink RX0 3 objectInit, Cond.instanceMethod objectInit, Cond.code objectInit ⟨#[0xb1]⟩ 1 none, Cond.fieldLink RX0 9 "LookbackPlan$Lot" "month" "I", Cond.fieldLink RX0 15 "LookbackPlan$Lot" "monthPrice" "I", Cond.fieldLink RX0 18 "LookbackPlan$Lot" "paidEach" "I", Cond.fieldLink RX0 21 "LookbackPlan$Lot" "offerMonth" "I", Cond.fieldLink RX0 24 "LookbackPlan$Lot" "offerPrice" "I", Cond.fieldLink RX0 27 "LookbackPlan$Lot" "bought" "I", Cond.fieldLink RX0 30 "LookbackPlan$Lot" "left" "I", Cond.methodLink RX1 68 yX1_putLot, Cond.instanceMethod yX1_putLot, Cond.selects RX1 yX1_putLot yX1_putLot, Cond.code yX1_putLot cX1_putLot 3 none, Cond.fieldLink RX1 11 "LookbackPlan$Member" "lots" "[LLookbackPlan$Lot;", Cond.methodLink RX1 72 yX1_addCounted, Cond.instanceMethod yX1_addCounted, Cond.selects RX1 yX1_addCounted yX1_addCounted, Cond.code yX1_addCounted cX1_addCounted 4 none, Cond.methodLink RX1 82 yX1_renewOffer, Cond.instanceMethod yX1_renewOffer, Cond.selects RX1 yX1_renewOffer yX1_renewOffer, Cond.code yX1_renewOffer cX1_renewOffer 4 none]
def wsX2_next_r4 : List Cond := [Cond.fieldLink RX1 86 "LookbackPlan$Member" "resets" "I"]
def wsX2_next : List Cond := .code yX2_next cX2_next 2 (some .int) :: ((wsX2_next_r1 ++ (wsX2_next_r2 ++ (wsX2_next_r3 ++ wsX2_next_r4))) ++ wsX20 ++ wsX10 ++ wsX00 ++ (vx_atS RX2 34 "java/lang/IllegalArgumentException" ["java/lang/RuntimeException", "java/lang/Exception"]).filter goodWord ++ (vx_atS RX2 41 "java/lang/IllegalStateException" ["java/lang/RuntimeException", "java/lang/Exception"]).filter goodWord)
def wsX2_month : List Cond := .code yX2_month cX2_month 1 (some .int) :: ([.fieldLink RX2 19 "LookbackPlan" "month" "I"] ++ wsX20)
def wsX2_ceiling : List Cond := .code yX2_ceiling cX2_ceiling 3 (some .int) :: ([.classLink RX2 30 "java/lang/IllegalArgumentException", .initialized "java/lang/IllegalArgumentException", .constant RX2 49 (10000000), .fieldLink RX2 26 "LookbackPlan" "ceiling" "I"] ++ wsX20 ++ (vx_atS RX2 34 "java/lang/IllegalArgumentException" ["java/lang/RuntimeException", "java/lang/Exception"]).filter goodWord)
def wsX2_refuseBadRate : List Cond := .code yX2_refuseBadRate cX2_refuseBadRate 1 none :: ([.classLink RX2 30 "java/lang/IllegalArgumentException", .initialized "java/lang/IllegalArgumentException"] ++ (vx_atS RX2 34 "java/lang/IllegalArgumentException" ["java/lang/RuntimeException", "java/lang/Exception"]).filter goodWord)
def wsX2_join_r1 : List Cond := [Cond.classLink RX2 37 "java/lang/IllegalStateException", Cond.initialized "java/lang/IllegalStateException", Cond.fieldLink RX2 19 "LookbackPlan" "month" "I", Cond.fieldLink RX2 15 "LookbackPlan" "memberCount" "I", Cond.fieldLink RX2 11 "LookbackPlan" "members" "[LLookbackPlan$Member;", Cond.classLink RX2 9 RX1, Cond.instantiable RX1 14, Cond.initialized RX1, Cond.fieldLink RX2 22 "LookbackPlan" "priceNow" "I", Cond.methodLink RX2 52 yX2_refuseBadRate, Cond.static yX2_refuseBadRate, Cond.initialized RX2, Cond.code yX2_refuseBadRate cX2_refuseBadRate 1 none, Cond.classLink RX2 30 "java/lang/IllegalArgumentException", Cond.initialized "java/lang/IllegalArgumentException", Cond.instanceMethod yX1_init, Cond.code yX1_init cX1_init 4 none, Cond.methodLink RX1 3 objectInit, Cond.instanceMethod objectInit, Cond.code objectInit ⟨#[0xb1]⟩ 1 none, Cond.classLink RX1 9 RX0, Cond.fieldLink RX1 11 "LookbackPlan$Member" "lots" "[LLookbackPlan$Lot;", Cond.arrayClass .long, Cond.fieldLink RX1 17 "LookbackPlan$Member" "countedByYear" "[J"]
def wsX2_join_r2 : List Cond := [Cond.fieldLink RX1 21 "LookbackPlan$Member" "rate" "I", Cond.fieldLink RX1 25 "LookbackPlan$Member" "offerMonth" "I", Cond.fieldLink RX1 28 "LookbackPlan$Member" "offerPrice" "I"]
def wsX2_join : List Cond := .code yX2_join cX2_join 3 (some .int) :: ((wsX2_join_r1 ++ wsX2_join_r2) ++ wsX20 ++ wsX10 ++ (vx_atS RX2 41 "java/lang/IllegalStateException" ["java/lang/RuntimeException", "java/lang/Exception"]).filter goodWord ++ (vx_atS RX2 34 "java/lang/IllegalArgumentException" ["java/lang/RuntimeException", "java/lang/Exception"]).filter goodWord)
def wsX2_memberOrThrow : List Cond := .code yX2_memberOrThrow cX2_memberOrThrow 3 (some (.object "LookbackPlan$Member")) :: ([.classLink RX2 117 "java/lang/IndexOutOfBoundsException", .initialized "java/lang/IndexOutOfBoundsException", .fieldLink RX2 11 "LookbackPlan" "members" "[LLookbackPlan$Member;"] ++ wsX20 ++ (vx_atS RX2 121 "java/lang/IndexOutOfBoundsException" ["java/lang/RuntimeException", "java/lang/Exception"]).filter goodWord)
def wsX2_refuseLeft : List Cond := .code yX2_refuseLeft cX2_refuseLeft 1 none :: ([.classLink RX2 37 "java/lang/IllegalStateException", .initialized "java/lang/IllegalStateException"] ++ wsX10 ++ (vx_atS RX2 41 "java/lang/IllegalStateException" ["java/lang/RuntimeException", "java/lang/Exception"]).filter goodWord)
def wsX2_rate : List Cond := .code yX2_rate cX2_rate 5 (some .int) :: ([.methodLink RX2 63 yX2_memberOrThrow, .instanceMethod yX2_memberOrThrow, .selects RX2 yX2_memberOrThrow yX2_memberOrThrow, .initialized RX2, .code yX2_memberOrThrow cX2_memberOrThrow 3 (some (.object "LookbackPlan$Member")), .classLink RX2 117 "java/lang/IndexOutOfBoundsException", .initialized "java/lang/IndexOutOfBoundsException", .fieldLink RX2 11 "LookbackPlan" "members" "[LLookbackPlan$Member;", .methodLink RX2 52 yX2_refuseBadRate, .static yX2_refuseBadRate, .code yX2_refuseBadRate cX2_refuseBadRate 1 none, .classLink RX2 30 "java/lang/IllegalArgumentException", .initialized "java/lang/IllegalArgumentException", .methodLink RX2 67 yX2_refuseLeft, .static yX2_refuseLeft, .code yX2_refuseLeft cX2_refuseLeft 1 none, .classLink RX2 37 "java/lang/IllegalStateException", .initialized "java/lang/IllegalStateException"] ++ wsX10 ++ wsX20 ++ (vx_atS RX2 121 "java/lang/IndexOutOfBoundsException" ["java/lang/RuntimeException", "java/lang/Exception"]).filter goodWord ++ (vx_atS RX2 34 "java/lang/IllegalArgumentException" ["java/lang/RuntimeException", "java/lang/Exception"]).filter goodWord ++ (vx_atS RX2 41 "java/lang/IllegalStateException" ["java/lang/RuntimeException", "java/lang/Exception"]).filter goodWord)
def wsX2_slip : List Cond := .code yX2_slip cX2_slip 4 (some .int) :: ([.classLink RX2 30 "java/lang/IllegalArgumentException", .initialized "java/lang/IllegalArgumentException", .constant RX2 74 (5000000), .methodLink RX2 63 yX2_memberOrThrow, .instanceMethod yX2_memberOrThrow, .selects RX2 yX2_memberOrThrow yX2_memberOrThrow, .initialized RX2, .code yX2_memberOrThrow cX2_memberOrThrow 3 (some (.object "LookbackPlan$Member")), .classLink RX2 117 "java/lang/IndexOutOfBoundsException", .initialized "java/lang/IndexOutOfBoundsException", .fieldLink RX2 11 "LookbackPlan" "members" "[LLookbackPlan$Member;", .methodLink RX2 67 yX2_refuseLeft, .static yX2_refuseLeft, .code yX2_refuseLeft cX2_refuseLeft 1 none, .classLink RX2 37 "java/lang/IllegalStateException", .initialized "java/lang/IllegalStateException", .instanceMethod yX1_takeSlip, .initialized RX1, .selects RX1 yX1_takeSlip yX1_takeSlip, .code yX1_takeSlip cX1_takeSlip 3 (some .int), .fieldLink RX1 21 "LookbackPlan$Member" "rate" "I", .fieldLink RX1 31 "LookbackPlan$Member" "money" "J", .fieldLink RX1 35 "LookbackPlan$Member" "keptOfSlips" "J"] ++ wsX20 ++ wsX10 ++ (vx_atS RX2 34 "java/lang/IllegalArgumentException" ["java/lang/RuntimeException", "java/lang/Exception"]).filter goodWord ++ (vx_atS RX2 121 "java/lang/IndexOutOfBoundsException" ["java/lang/RuntimeException", "java/lang/Exception"]).filter goodWord ++ (vx_atS RX2 41 "java/lang/IllegalStateException" ["java/lang/RuntimeException", "java/lang/Exception"]).filter goodWord)
def wsX2_leave : List Cond := .code yX2_leave cX2_leave 3 (some .int) :: ([.methodLink RX2 63 yX2_memberOrThrow, .instanceMethod yX2_memberOrThrow, .selects RX2 yX2_memberOrThrow yX2_memberOrThrow, .initialized RX2, .code yX2_memberOrThrow cX2_memberOrThrow 3 (some (.object "LookbackPlan$Member")), .classLink RX2 117 "java/lang/IndexOutOfBoundsException", .initialized "java/lang/IndexOutOfBoundsException", .fieldLink RX2 11 "LookbackPlan" "members" "[LLookbackPlan$Member;", .methodLink RX2 67 yX2_refuseLeft, .static yX2_refuseLeft, .code yX2_refuseLeft cX2_refuseLeft 1 none, .classLink RX2 37 "java/lang/IllegalStateException", .initialized "java/lang/IllegalStateException", .instanceMethod yX1_giveBack, .initialized RX1, .selects RX1 yX1_giveBack yX1_giveBack, .code yX1_giveBack cX1_giveBack 3 (some .long), .fieldLink RX1 31 "LookbackPlan$Member" "money" "J", .fieldLink RX1 38 "LookbackPlan$Member" "givenBack" "J", .fieldLink RX1 41 "LookbackPlan$Member" "hasLeft" "Z"] ++ wsX20 ++ wsX10 ++ (vx_atS RX2 121 "java/lang/IndexOutOfBoundsException" ["java/lang/RuntimeException", "java/lang/Exception"]).filter goodWord ++ (vx_atS RX2 41 "java/lang/IllegalStateException" ["java/lang/RuntimeException", "java/lang/Exception"]).filter goodWord)
def wsX2_money : List Cond := .code yX2_money cX2_money 2 (some .int) :: ([.methodLink RX2 63 yX2_memberOrThrow, .instanceMethod yX2_memberOrThrow, .selects RX2 yX2_memberOrThrow yX2_memberOrThrow, .initialized RX2, .code yX2_memberOrThrow cX2_memberOrThrow 3 (some (.object "LookbackPlan$Member")), .classLink RX2 117 "java/lang/IndexOutOfBoundsException", .initialized "java/lang/IndexOutOfBoundsException", .fieldLink RX2 11 "LookbackPlan" "members" "[LLookbackPlan$Member;"] ++ wsX10 ++ wsX20 ++ (vx_atS RX2 121 "java/lang/IndexOutOfBoundsException" ["java/lang/RuntimeException", "java/lang/Exception"]).filter goodWord)
def wsX2_offerMonth : List Cond := .code yX2_offerMonth cX2_offerMonth 2 (some .int) :: ([.methodLink RX2 63 yX2_memberOrThrow, .instanceMethod yX2_memberOrThrow, .selects RX2 yX2_memberOrThrow yX2_memberOrThrow, .initialized RX2, .code yX2_memberOrThrow cX2_memberOrThrow 3 (some (.object "LookbackPlan$Member")), .classLink RX2 117 "java/lang/IndexOutOfBoundsException", .initialized "java/lang/IndexOutOfBoundsException", .fieldLink RX2 11 "LookbackPlan" "members" "[LLookbackPlan$Member;"] ++ wsX10 ++ wsX20 ++ (vx_atS RX2 121 "java/lang/IndexOutOfBoundsException" ["java/lang/RuntimeException", "java/lang/Exception"]).filter goodWord)
def wsX2_offerPrice : List Cond := .code yX2_offerPrice cX2_offerPrice 2 (some .int) :: ([.methodLink RX2 63 yX2_memberOrThrow, .instanceMethod yX2_memberOrThrow, .selects RX2 yX2_memberOrThrow yX2_memberOrThrow, .initialized RX2, .code yX2_memberOrThrow cX2_memberOrThrow 3 (some (.object "LookbackPlan$Member")), .classLink RX2 117 "java/lang/IndexOutOfBoundsException", .initialized "java/lang/IndexOutOfBoundsException", .fieldLink RX2 11 "LookbackPlan" "members" "[LLookbackPlan$Member;"] ++ wsX10 ++ wsX20 ++ (vx_atS RX2 121 "java/lang/IndexOutOfBoundsException" ["java/lang/RuntimeException", "java/lang/Exception"]).filter goodWord)
def wsX2_resets : List Cond := .code yX2_resets cX2_resets 2 (some .int) :: ([.methodLink RX2 63 yX2_memberOrThrow, .instanceMethod yX2_memberOrThrow, .selects RX2 yX2_memberOrThrow yX2_memberOrThrow, .initialized RX2, .code yX2_memberOrThrow cX2_memberOrThrow 3 (some (.object "LookbackPlan$Member")), .classLink RX2 117 "java/lang/IndexOutOfBoundsException", .initialized "java/lang/IndexOutOfBoundsException", .fieldLink RX2 11 "LookbackPlan" "members" "[LLookbackPlan$Member;"] ++ wsX10 ++ wsX20 ++ (vx_atS RX2 121 "java/lang/IndexOutOfBoundsException" ["java/lang/RuntimeException", "java/lang/Exception"]).filter goodWord)
def wsX2_shares : List Cond := .code yX2_shares cX2_shares 2 (some .int) :: ([.methodLink RX2 63 yX2_memberOrThrow, .instanceMethod yX2_memberOrThrow, .selects RX2 yX2_memberOrThrow yX2_memberOrThrow, .initialized RX2, .code yX2_memberOrThrow cX2_memberOrThrow 3 (some (.object "LookbackPlan$Member")), .classLink RX2 117 "java/lang/IndexOutOfBoundsException", .initialized "java/lang/IndexOutOfBoundsException", .fieldLink RX2 11 "LookbackPlan" "members" "[LLookbackPlan$Member;", .instanceMethod yX1_sharesHeld, .initialized RX1, .selects RX1 yX1_sharesHeld yX1_sharesHeld, .code yX1_sharesHeld cX1_sharesHeld 4 (some .int), .fieldLink RX1 11 "LookbackPlan$Member" "lots" "[LLookbackPlan$Lot;"] ++ wsX20 ++ wsX10 ++ wsX00 ++ (vx_atS RX2 121 "java/lang/IndexOutOfBoundsException" ["java/lang/RuntimeException", "java/lang/Exception"]).filter goodWord)
def wsX2_refuseBadMonth : List Cond := .code yX2_refuseBadMonth cX2_refuseBadMonth 1 none :: ([.classLink RX2 117 "java/lang/IndexOutOfBoundsException", .initialized "java/lang/IndexOutOfBoundsException"] ++ (vx_atS RX2 121 "java/lang/IndexOutOfBoundsException" ["java/lang/RuntimeException", "java/lang/Exception"]).filter goodWord)
def wsX2_bought : List Cond := .code yX2_bought cX2_bought 5 (some .int) :: ([.methodLink RX2 63 yX2_memberOrThrow, .instanceMethod yX2_memberOrThrow, .selects RX2 yX2_memberOrThrow yX2_memberOrThrow, .initialized RX2, .code yX2_memberOrThrow cX2_memberOrThrow 3 (some (.object "LookbackPlan$Member")), .classLink RX2 117 "java/lang/IndexOutOfBoundsException", .initialized "java/lang/IndexOutOfBoundsException", .fieldLink RX2 11 "LookbackPlan" "members" "[LLookbackPlan$Member;", .methodLink RX2 102 yX2_refuseBadMonth, .static yX2_refuseBadMonth, .code yX2_refuseBadMonth cX2_refuseBadMonth 1 none, .instanceMethod yX1_lotOf, .initialized RX1, .selects RX1 yX1_lotOf yX1_lotOf, .code yX1_lotOf cX1_lotOf 3 (some (.object "LookbackPlan$Lot")), .fieldLink RX1 11 "LookbackPlan$Member" "lots" "[LLookbackPlan$Lot;", .static yX2_isPurchaseMonth, .code yX2_isPurchaseMonth cX2_isPurchaseMonth 1 (some .boolean)] ++ wsX00 ++ wsX20 ++ wsX10 ++ (vx_atS RX2 121 "java/lang/IndexOutOfBoundsException" ["java/lang/RuntimeException", "java/lang/Exception"]).filter goodWord)
def wsX2_paidEach : List Cond := .code yX2_paidEach cX2_paidEach 5 (some .int) :: ([.methodLink RX2 63 yX2_memberOrThrow, .instanceMethod yX2_memberOrThrow, .selects RX2 yX2_memberOrThrow yX2_memberOrThrow, .initialized RX2, .code yX2_memberOrThrow cX2_memberOrThrow 3 (some (.object "LookbackPlan$Member")), .classLink RX2 117 "java/lang/IndexOutOfBoundsException", .initialized "java/lang/IndexOutOfBoundsException", .fieldLink RX2 11 "LookbackPlan" "members" "[LLookbackPlan$Member;", .methodLink RX2 102 yX2_refuseBadMonth, .static yX2_refuseBadMonth, .code yX2_refuseBadMonth cX2_refuseBadMonth 1 none, .instanceMethod yX1_lotOf, .initialized RX1, .selects RX1 yX1_lotOf yX1_lotOf, .code yX1_lotOf cX1_lotOf 3 (some (.object "LookbackPlan$Lot")), .fieldLink RX1 11 "LookbackPlan$Member" "lots" "[LLookbackPlan$Lot;", .static yX2_isPurchaseMonth, .code yX2_isPurchaseMonth cX2_isPurchaseMonth 1 (some .boolean)] ++ wsX00 ++ wsX20 ++ wsX10 ++ (vx_atS RX2 121 "java/lang/IndexOutOfBoundsException" ["java/lang/RuntimeException", "java/lang/Exception"]).filter goodWord)
def wsX2_counted : List Cond := .code yX2_counted cX2_counted 4 (some .long) :: ([.classLink RX2 117 "java/lang/IndexOutOfBoundsException", .initialized "java/lang/IndexOutOfBoundsException", .methodLink RX2 63 yX2_memberOrThrow, .instanceMethod yX2_memberOrThrow, .selects RX2 yX2_memberOrThrow yX2_memberOrThrow, .initialized RX2, .code yX2_memberOrThrow cX2_memberOrThrow 3 (some (.object "LookbackPlan$Member")), .fieldLink RX2 11 "LookbackPlan" "members" "[LLookbackPlan$Member;", .instanceMethod yX1_countedIn, .initialized RX1, .selects RX1 yX1_countedIn yX1_countedIn, .code yX1_countedIn cX1_countedIn 2 (some .long), .fieldLink RX1 17 "LookbackPlan$Member" "countedByYear" "[J"] ++ wsX20 ++ wsX10 ++ (vx_atS RX2 121 "java/lang/IndexOutOfBoundsException" ["java/lang/RuntimeException", "java/lang/Exception"]).filter goodWord)
def wsX2_traced : List Cond := .code yX2_traced cX2_traced 3 (some .long) :: ([.methodLink RX2 63 yX2_memberOrThrow, .instanceMethod yX2_memberOrThrow, .selects RX2 yX2_memberOrThrow yX2_memberOrThrow, .initialized RX2, .code yX2_memberOrThrow cX2_memberOrThrow 3 (some (.object "LookbackPlan$Member")), .classLink RX2 117 "java/lang/IndexOutOfBoundsException", .initialized "java/lang/IndexOutOfBoundsException", .fieldLink RX2 11 "LookbackPlan" "members" "[LLookbackPlan$Member;"] ++ wsX10 ++ wsX20 ++ (vx_atS RX2 121 "java/lang/IndexOutOfBoundsException" ["java/lang/RuntimeException", "java/lang/Exception"]).filter goodWord)
def wsX2_kept : List Cond := .code yX2_kept cX2_kept 2 (some .long) :: ([.methodLink RX2 63 yX2_memberOrThrow, .instanceMethod yX2_memberOrThrow, .selects RX2 yX2_memberOrThrow yX2_memberOrThrow, .initialized RX2, .code yX2_memberOrThrow cX2_memberOrThrow 3 (some (.object "LookbackPlan$Member")), .classLink RX2 117 "java/lang/IndexOutOfBoundsException", .initialized "java/lang/IndexOutOfBoundsException", .fieldLink RX2 11 "LookbackPlan" "members" "[LLookbackPlan$Member;"] ++ wsX10 ++ wsX20 ++ (vx_atS RX2 121 "java/lang/IndexOutOfBoundsException" ["java/lang/RuntimeException", "java/lang/Exception"]).filter goodWord)
def wsX2_sell_r1 : List Cond := [Cond.classLink RX2 30 "java/lang/IllegalArgumentException", Cond.initialized "java/lang/IllegalArgumentException", Cond.classLink RX2 37 "java/lang/IllegalStateException", Cond.initialized "java/lang/IllegalStateException", Cond.constant RX2 135 (1000000), Cond.fieldLink RX2 19 "LookbackPlan" "month" "I", Cond.fieldLink RX2 22 "LookbackPlan" "priceNow" "I", Cond.methodLink RX2 63 yX2_memberOrThrow, Cond.instanceMethod yX2_memberOrThrow, Cond.selects RX2 yX2_memberOrThrow yX2_memberOrThrow, Cond.initialized RX2, Cond.code yX2_memberOrThrow cX2_memberOrThrow 3 (some (.object "LookbackPlan$Member")), Cond.classLink RX2 117 "java/lang/IndexOutOfBoundsException", Cond.initialized "java/lang/IndexOutOfBoundsException", Cond.fieldLink RX2 11 "LookbackPlan" "members" "[LLookbackPlan$Member;", Cond.instanceMethod yX1_sharesHeld, Cond.initialized RX1, Cond.selects RX1 yX1_sharesHeld yX1_sharesHeld, Cond.code yX1_sharesHeld cX1_sharesHeld 4 (some .int), Cond.fieldLink RX1 11 "LookbackPlan$Member" "lots" "[LLookbackPlan$Lot;", Cond.instanceMethod yX1_sellOldest, Cond.selects RX1 yX1_sellOldest yX1_sellOldest, Cond.code yX1_sellOldest cX1_sellOldest 9 (some .int), Cond.methodLink RX1 45 Lib.Math.min.name]
def wsX2_sell_r2 : List Cond := [Cond.static Lib.Math.min.name, Cond.initialized "java/lang/Math", Cond.code Lib.Math.min.name Lib.Math.min.code 2 (some .int), Cond.fieldLink RX1 99 "LookbackPlan$Member" "payOfSales" "J", Cond.fieldLink RX1 106 "LookbackPlan$Member" "gainOfSales" "J", Cond.instanceMethod yX0_payEach, Cond.initialized RX0, Cond.selects RX0 yX0_payEach yX0_payEach, Cond.code yX0_payEach cX0_payEach 4 (some .long), Cond.fieldLink RX0 15 "LookbackPlan$Lot" "monthPrice" "I", Cond.fieldLink RX0 18 "LookbackPlan$Lot" "paidEach" "I", Cond.fieldLink RX0 24 "LookbackPlan$Lot" "offerPrice" "I", Cond.methodLink RX0 37 Lib.Math.min.name, Cond.methodLink RX0 43 Lib.Math.max.name, Cond.static Lib.Math.max.name, Cond.code Lib.Math.max.name Lib.Math.max.code 2 (some .int), Cond.methodLink RX0 33 yX0_isEarly, Cond.instanceMethod yX0_isEarly, Cond.selects RX0 yX0_isEarly yX0_isEarly, Cond.code yX0_isEarly cX0_isEarly 2 (some .boolean), Cond.fieldLink RX0 21 "LookbackPlan$Lot" "offerMonth" "I", Cond.fieldLink RX0 9 "LookbackPlan$Lot" "month" "I", Cond.instanceMethod yX0_gainEach, Cond.selects RX0 yX0_gainEach yX0_gainEach]
def wsX2_sell_r3 : List Cond := [Cond.code yX0_gainEach cX0_gainEach 3 (some .long), Cond.methodLink RX0 46 yX0_payEach]
def wsX2_sell : List Cond := .code yX2_sell cX2_sell 4 (some .int) :: ((wsX2_sell_r1 ++ (wsX2_sell_r2 ++ wsX2_sell_r3)) ++ wsX20 ++ wsX10 ++ wsX00 ++ (vx_atS RX2 34 "java/lang/IllegalArgumentException" ["java/lang/RuntimeException", "java/lang/Exception"]).filter goodWord ++ (vx_atS RX2 41 "java/lang/IllegalStateException" ["java/lang/RuntimeException", "java/lang/Exception"]).filter goodWord ++ (vx_atS RX2 121 "java/lang/IndexOutOfBoundsException" ["java/lang/RuntimeException", "java/lang/Exception"]).filter goodWord)
def wsX2_pay : List Cond := .code yX2_pay cX2_pay 2 (some .long) :: ([.methodLink RX2 63 yX2_memberOrThrow, .instanceMethod yX2_memberOrThrow, .selects RX2 yX2_memberOrThrow yX2_memberOrThrow, .initialized RX2, .code yX2_memberOrThrow cX2_memberOrThrow 3 (some (.object "LookbackPlan$Member")), .classLink RX2 117 "java/lang/IndexOutOfBoundsException", .initialized "java/lang/IndexOutOfBoundsException", .fieldLink RX2 11 "LookbackPlan" "members" "[LLookbackPlan$Member;"] ++ wsX10 ++ wsX20 ++ (vx_atS RX2 121 "java/lang/IndexOutOfBoundsException" ["java/lang/RuntimeException", "java/lang/Exception"]).filter goodWord)
def wsX2_gain : List Cond := .code yX2_gain cX2_gain 2 (some .long) :: ([.methodLink RX2 63 yX2_memberOrThrow, .instanceMethod yX2_memberOrThrow, .selects RX2 yX2_memberOrThrow yX2_memberOrThrow, .initialized RX2, .code yX2_memberOrThrow cX2_memberOrThrow 3 (some (.object "LookbackPlan$Member")), .classLink RX2 117 "java/lang/IndexOutOfBoundsException", .initialized "java/lang/IndexOutOfBoundsException", .fieldLink RX2 11 "LookbackPlan" "members" "[LLookbackPlan$Member;"] ++ wsX10 ++ wsX20 ++ (vx_atS RX2 121 "java/lang/IndexOutOfBoundsException" ["java/lang/RuntimeException", "java/lang/Exception"]).filter goodWord)
def wsX2_gainNow_r1 : List Cond := [Cond.fieldLink RX2 19 "LookbackPlan" "month" "I", Cond.fieldLink RX2 22 "LookbackPlan" "priceNow" "I", Cond.methodLink RX2 63 yX2_memberOrThrow, Cond.instanceMethod yX2_memberOrThrow, Cond.selects RX2 yX2_memberOrThrow yX2_memberOrThrow, Cond.initialized RX2, Cond.code yX2_memberOrThrow cX2_memberOrThrow 3 (some (.object "LookbackPlan$Member")), Cond.classLink RX2 117 "java/lang/IndexOutOfBoundsException", Cond.initialized "java/lang/IndexOutOfBoundsException", Cond.fieldLink RX2 11 "LookbackPlan" "members" "[LLookbackPlan$Member;", Cond.instanceMethod yX1_gainIfAllSold, Cond.initialized RX1, Cond.selects RX1 yX1_gainIfAllSold yX1_gainIfAllSold, Cond.code yX1_gainIfAllSold cX1_gainIfAllSold 7 (some .long), Cond.fieldLink RX1 11 "LookbackPlan$Member" "lots" "[LLookbackPlan$Lot;", Cond.instanceMethod yX0_gainEach, Cond.initialized RX0, Cond.selects RX0 yX0_gainEach yX0_gainEach, Cond.code yX0_gainEach cX0_gainEach 3 (some .long), Cond.fieldLink RX0 18 "LookbackPlan$Lot" "paidEach" "I", Cond.methodLink RX0 46 yX0_payEach, Cond.instanceMethod yX0_payEach, Cond.selects RX0 yX0_payEach yX0_payEach, Cond.code yX0_payEach cX0_payEach 4 (some .long)]
def wsX2_gainNow_r2 : List Cond := [Cond.fieldLink RX0 15 "LookbackPlan$Lot" "monthPrice" "I", Cond.fieldLink RX0 24 "LookbackPlan$Lot" "offerPrice" "I", Cond.methodLink RX0 37 Lib.Math.min.name, Cond.static Lib.Math.min.name, Cond.initialized "java/lang/Math", Cond.code Lib.Math.min.name Lib.Math.min.code 2 (some .int), Cond.methodLink RX0 43 Lib.Math.max.name, Cond.static Lib.Math.max.name, Cond.code Lib.Math.max.name Lib.Math.max.code 2 (some .int), Cond.methodLink RX0 33 yX0_isEarly, Cond.instanceMethod yX0_isEarly, Cond.selects RX0 yX0_isEarly yX0_isEarly, Cond.code yX0_isEarly cX0_isEarly 2 (some .boolean), Cond.fieldLink RX0 21 "LookbackPlan$Lot" "offerMonth" "I", Cond.fieldLink RX0 9 "LookbackPlan$Lot" "month" "I"]
def wsX2_gainNow : List Cond := .code yX2_gainNow cX2_gainNow 2 (some .long) :: ((wsX2_gainNow_r1 ++ wsX2_gainNow_r2) ++ wsX20 ++ wsX10 ++ wsX00 ++ (vx_atS RX2 121 "java/lang/IndexOutOfBoundsException" ["java/lang/RuntimeException", "java/lang/Exception"]).filter goodWord)
def wsX3_init_r1 : List Cond := [Cond.methodLink RX3 1 objectInit, Cond.instanceMethod objectInit, Cond.code objectInit ⟨#[0xb1]⟩ 1 none, Cond.fieldLink RX3 9 "LookbackPlanModel" "month" "I", Cond.arrayClass .int, Cond.fieldLink RX3 13 "LookbackPlanModel" "price" "[I", Cond.constant RX3 17 (2500000), Cond.fieldLink RX3 18 "LookbackPlanModel" "ceiling" "I", Cond.fieldLink RX3 21 "LookbackPlanModel" "rate" "[I", Cond.arrayClass .boolean, Cond.fieldLink RX3 24 "LookbackPlanModel" "left" "[Z", Cond.fieldLink RX3 28 "LookbackPlanModel" "money" "[I", Cond.fieldLink RX3 31 "LookbackPlanModel" "back" "[I", Cond.arrayClass .long, Cond.fieldLink RX3 34 "LookbackPlanModel" "spent" "[J", Cond.fieldLink RX3 38 "LookbackPlanModel" "kept" "[J", Cond.fieldLink RX3 41 "LookbackPlanModel" "first" "[I", Cond.fieldLink RX3 44 "LookbackPlanModel" "times" "[I", Cond.fieldLink RX3 47 "LookbackPlanModel" "resets" "[I", Cond.fieldLink RX3 50 "LookbackPlanModel" "pay" "[J", Cond.fieldLink RX3 53 "LookbackPlanModel" "gain" "[J", Cond.fieldLink RX3 56 "LookbackPlanModel" "bought" "[I", Cond.fieldLink RX3 59 "LookbackPlanModel" "had" "[I", Cond.fieldLink RX3 62 "LookbackPlanModel" "paid" "[I"]
def wsX3_init_r2 : List Cond := [Cond.fieldLink RX3 65 "LookbackPlanModel" "offer" "[I"]
def wsX3_init : List Cond := .code yX3_init cX3_init 1 none :: ((wsX3_init_r1 ++ wsX3_init_r2) ++ wsX30)
def wsX3_thrown : List Cond := .code yX3_thrown cX3_thrown 1 (some .int) :: ([.fieldLink RX3 68 "LookbackPlanModel" "thrown" "I"] ++ wsX30)
def wsX3_may : List Cond := .code yX3_may cX3_may 2 (some .boolean) :: ([.fieldLink RX3 68 "LookbackPlanModel" "thrown" "I"] ++ wsX30)
def wsX3_mayBoth : List Cond := .code yX3_mayBoth cX3_mayBoth 3 (some .boolean) :: ([.fieldLink RX3 68 "LookbackPlanModel" "thrown" "I"] ++ wsX30)
def wsX3_mayAll : List Cond := .code yX3_mayAll cX3_mayAll 4 (some .boolean) :: ([.fieldLink RX3 68 "LookbackPlanModel" "thrown" "I"] ++ wsX30)
def wsX3_isIn : List Cond := .code yX3_isIn cX3_isIn 3 (some .boolean) :: ([])
def wsX3_isMember : List Cond := .code yX3_isMember cX3_isMember 2 (some .boolean) :: ([.fieldLink RX3 71 "LookbackPlanModel" "members" "I", .methodLink RX3 74 yX3_isIn, .static yX3_isIn, .initialized RX3, .code yX3_isIn cX3_isIn 3 (some .boolean)] ++ wsX30)
def wsX3_countedIn : List Cond := .code yX3_countedIn cX3_countedIn 6 (some .long) :: ([.fieldLink RX3 56 "LookbackPlanModel" "bought" "[I", .fieldLink RX3 13 "LookbackPlanModel" "price" "[I", .fieldLink RX3 65 "LookbackPlanModel" "offer" "[I"] ++ wsX30)
def wsX3_buy : List Cond := .code yX3_buy cX3_buy 11 none :: ([.fieldLink RX3 13 "LookbackPlanModel" "price" "[I", .fieldLink RX3 41 "LookbackPlanModel" "first" "[I", .fieldLink RX3 9 "LookbackPlanModel" "month" "I", .fieldLink RX3 18 "LookbackPlanModel" "ceiling" "I", .fieldLink RX3 28 "LookbackPlanModel" "money" "[I", .fieldLink RX3 56 "LookbackPlanModel" "bought" "[I", .fieldLink RX3 59 "LookbackPlanModel" "had" "[I", .fieldLink RX3 62 "LookbackPlanModel" "paid" "[I", .fieldLink RX3 65 "LookbackPlanModel" "offer" "[I", .fieldLink RX3 34 "LookbackPlanModel" "spent" "[J", .fieldLink RX3 44 "LookbackPlanModel" "times" "[I", .fieldLink RX3 47 "LookbackPlanModel" "resets" "[I", .methodLink RX3 78 yX3_countedIn, .instanceMethod yX3_countedIn, .selects RX3 yX3_countedIn yX3_countedIn, .initialized RX3, .code yX3_countedIn cX3_countedIn 6 (some .long)] ++ wsX30)
def wsX3_next_r1 : List Cond := [Cond.constant RX3 82 (100000), Cond.fieldLink RX3 9 "LookbackPlanModel" "month" "I", Cond.fieldLink RX3 71 "LookbackPlanModel" "members" "I", Cond.fieldLink RX3 24 "LookbackPlanModel" "left" "[Z", Cond.fieldLink RX3 13 "LookbackPlanModel" "price" "[I", Cond.methodLink RX3 74 yX3_isIn, Cond.static yX3_isIn, Cond.initialized RX3, Cond.code yX3_isIn cX3_isIn 3 (some .boolean), Cond.methodLink RX3 83 yX3_mayBoth, Cond.instanceMethod yX3_mayBoth, Cond.selects RX3 yX3_mayBoth yX3_mayBoth, Cond.code yX3_mayBoth cX3_mayBoth 3 (some .boolean), Cond.fieldLink RX3 68 "LookbackPlanModel" "thrown" "I", Cond.methodLink RX3 87 yX3_buy, Cond.instanceMethod yX3_buy, Cond.selects RX3 yX3_buy yX3_buy, Cond.code yX3_buy cX3_buy 11 none, Cond.fieldLink RX3 41 "LookbackPlanModel" "first" "[I", Cond.fieldLink RX3 18 "LookbackPlanModel" "ceiling" "I", Cond.fieldLink RX3 28 "LookbackPlanModel" "money" "[I", Cond.fieldLink RX3 56 "LookbackPlanModel" "bought" "[I", Cond.fieldLink RX3 59 "LookbackPlanModel" "had" "[I", Cond.fieldLink RX3 62 "LookbackPlanModel" "paid" "[I"]
def wsX3_next_r2 : List Cond := [Cond.fieldLink RX3 65 "LookbackPlanModel" "offer" "[I", Cond.fieldLink RX3 34 "LookbackPlanModel" "spent" "[J", Cond.fieldLink RX3 44 "LookbackPlanModel" "times" "[I", Cond.fieldLink RX3 47 "LookbackPlanModel" "resets" "[I", Cond.methodLink RX3 78 yX3_countedIn, Cond.instanceMethod yX3_countedIn, Cond.selects RX3 yX3_countedIn yX3_countedIn, Cond.code yX3_countedIn cX3_countedIn 6 (some .long)]
def wsX3_next : List Cond := .code yX3_next cX3_next 3 (some .int) :: ((wsX3_next_r1 ++ wsX3_next_r2) ++ wsX30)
def wsX3_month : List Cond := .code yX3_month cX3_month 1 (some .int) :: ([.fieldLink RX3 68 "LookbackPlanModel" "thrown" "I", .fieldLink RX3 9 "LookbackPlanModel" "month" "I"] ++ wsX30)
def wsX3_ceiling : List Cond := .code yX3_ceiling cX3_ceiling 3 (some .int) :: ([.constant RX3 91 (10000000), .fieldLink RX3 18 "LookbackPlanModel" "ceiling" "I", .methodLink RX3 74 yX3_isIn, .static yX3_isIn, .initialized RX3, .code yX3_isIn cX3_isIn 3 (some .boolean), .methodLink RX3 92 yX3_may, .instanceMethod yX3_may, .selects RX3 yX3_may yX3_may, .code yX3_may cX3_may 2 (some .boolean), .fieldLink RX3 68 "LookbackPlanModel" "thrown" "I"] ++ wsX30)
def wsX3_join : List Cond := .code yX3_join cX3_join 2 (some .int) :: ([.fieldLink RX3 9 "LookbackPlanModel" "month" "I", .fieldLink RX3 71 "LookbackPlanModel" "members" "I", .fieldLink RX3 21 "LookbackPlanModel" "rate" "[I", .fieldLink RX3 41 "LookbackPlanModel" "first" "[I", .methodLink RX3 74 yX3_isIn, .static yX3_isIn, .initialized RX3, .code yX3_isIn cX3_isIn 3 (some .boolean), .methodLink RX3 83 yX3_mayBoth, .instanceMethod yX3_mayBoth, .selects RX3 yX3_mayBoth yX3_mayBoth, .code yX3_mayBoth cX3_mayBoth 3 (some .boolean), .fieldLink RX3 68 "LookbackPlanModel" "thrown" "I"] ++ wsX30)
def wsX3_isStaying : List Cond := .code yX3_isStaying cX3_isStaying 2 (some .boolean) :: ([.fieldLink RX3 24 "LookbackPlanModel" "left" "[Z", .methodLink RX3 96 yX3_isMember, .instanceMethod yX3_isMember, .selects RX3 yX3_isMember yX3_isMember, .initialized RX3, .code yX3_isMember cX3_isMember 2 (some .boolean), .fieldLink RX3 71 "LookbackPlanModel" "members" "I", .methodLink RX3 74 yX3_isIn, .static yX3_isIn, .code yX3_isIn cX3_isIn 3 (some .boolean)] ++ wsX30)
def wsX3_rate : List Cond := .code yX3_rate cX3_rate 4 (some .int) :: ([.fieldLink RX3 21 "LookbackPlanModel" "rate" "[I", .methodLink RX3 96 yX3_isMember, .instanceMethod yX3_isMember, .selects RX3 yX3_isMember yX3_isMember, .initialized RX3, .code yX3_isMember cX3_isMember 2 (some .boolean), .fieldLink RX3 71 "LookbackPlanModel" "members" "I", .methodLink RX3 74 yX3_isIn, .static yX3_isIn, .code yX3_isIn cX3_isIn 3 (some .boolean), .methodLink RX3 100 yX3_isStaying, .instanceMethod yX3_isStaying, .selects RX3 yX3_isStaying yX3_isStaying, .code yX3_isStaying cX3_isStaying 2 (some .boolean), .fieldLink RX3 24 "LookbackPlanModel" "left" "[Z", .methodLink RX3 103 yX3_mayAll, .instanceMethod yX3_mayAll, .selects RX3 yX3_mayAll yX3_mayAll, .code yX3_mayAll cX3_mayAll 4 (some .boolean), .fieldLink RX3 68 "LookbackPlanModel" "thrown" "I"] ++ wsX30)
def wsX3_slip : List Cond := .code yX3_slip cX3_slip 4 (some .int) :: ([.constant RX3 107 (5000000), .fieldLink RX3 21 "LookbackPlanModel" "rate" "[I", .fieldLink RX3 28 "LookbackPlanModel" "money" "[I", .fieldLink RX3 38 "LookbackPlanModel" "kept" "[J", .methodLink RX3 96 yX3_isMember, .instanceMethod yX3_isMember, .selects RX3 yX3_isMember yX3_isMember, .initialized RX3, .code yX3_isMember cX3_isMember 2 (some .boolean), .fieldLink RX3 71 "LookbackPlanModel" "members" "I", .methodLink RX3 74 yX3_isIn, .static yX3_isIn, .code yX3_isIn cX3_isIn 3 (some .boolean), .methodLink RX3 100 yX3_isStaying, .instanceMethod yX3_isStaying, .selects RX3 yX3_isStaying yX3_isStaying, .code yX3_isStaying cX3_isStaying 2 (some .boolean), .fieldLink RX3 24 "LookbackPlanModel" "left" "[Z", .methodLink RX3 103 yX3_mayAll, .instanceMethod yX3_mayAll, .selects RX3 yX3_mayAll yX3_mayAll, .code yX3_mayAll cX3_mayAll 4 (some .boolean), .fieldLink RX3 68 "LookbackPlanModel" "thrown" "I"] ++ wsX30)
def wsX3_leave : List Cond := .code yX3_leave cX3_leave 2 (some .int) :: ([.fieldLink RX3 24 "LookbackPlanModel" "left" "[Z", .fieldLink RX3 31 "LookbackPlanModel" "back" "[I", .fieldLink RX3 28 "LookbackPlanModel" "money" "[I", .methodLink RX3 96 yX3_isMember, .instanceMethod yX3_isMember, .selects RX3 yX3_isMember yX3_isMember, .initialized RX3, .code yX3_isMember cX3_isMember 2 (some .boolean), .fieldLink RX3 71 "LookbackPlanModel" "members" "I", .methodLink RX3 74 yX3_isIn, .static yX3_isIn, .code yX3_isIn cX3_isIn 3 (some .boolean), .methodLink RX3 100 yX3_isStaying, .instanceMethod yX3_isStaying, .selects RX3 yX3_isStaying yX3_isStaying, .code yX3_isStaying cX3_isStaying 2 (some .boolean), .methodLink RX3 83 yX3_mayBoth, .instanceMethod yX3_mayBoth, .selects RX3 yX3_mayBoth yX3_mayBoth, .code yX3_mayBoth cX3_mayBoth 3 (some .boolean), .fieldLink RX3 68 "LookbackPlanModel" "thrown" "I"] ++ wsX30)
def wsX3_money : List Cond := .code yX3_money cX3_money 2 (some .int) :: ([.fieldLink RX3 28 "LookbackPlanModel" "money" "[I", .methodLink RX3 96 yX3_isMember, .instanceMethod yX3_isMember, .selects RX3 yX3_isMember yX3_isMember, .initialized RX3, .code yX3_isMember cX3_isMember 2 (some .boolean), .fieldLink RX3 71 "LookbackPlanModel" "members" "I", .methodLink RX3 74 yX3_isIn, .static yX3_isIn, .code yX3_isIn cX3_isIn 3 (some .boolean), .methodLink RX3 92 yX3_may, .instanceMethod yX3_may, .selects RX3 yX3_may yX3_may, .code yX3_may cX3_may 2 (some .boolean), .fieldLink RX3 68 "LookbackPlanModel" "thrown" "I"] ++ wsX30)
def wsX3_offerMonth : List Cond := .code yX3_offerMonth cX3_offerMonth 2 (some .int) :: ([.fieldLink RX3 41 "LookbackPlanModel" "first" "[I", .methodLink RX3 96 yX3_isMember, .instanceMethod yX3_isMember, .selects RX3 yX3_isMember yX3_isMember, .initialized RX3, .code yX3_isMember cX3_isMember 2 (some .boolean), .fieldLink RX3 71 "LookbackPlanModel" "members" "I", .methodLink RX3 74 yX3_isIn, .static yX3_isIn, .code yX3_isIn cX3_isIn 3 (some .boolean), .methodLink RX3 92 yX3_may, .instanceMethod yX3_may, .selects RX3 yX3_may yX3_may, .code yX3_may cX3_may 2 (some .boolean), .fieldLink RX3 68 "LookbackPlanModel" "thrown" "I"] ++ wsX30)
def wsX3_offerPrice : List Cond := .code yX3_offerPrice cX3_offerPrice 2 (some .int) :: ([.fieldLink RX3 13 "LookbackPlanModel" "price" "[I", .fieldLink RX3 41 "LookbackPlanModel" "first" "[I", .methodLink RX3 96 yX3_isMember, .instanceMethod yX3_isMember, .selects RX3 yX3_isMember yX3_isMember, .initialized RX3, .code yX3_isMember cX3_isMember 2 (some .boolean), .fieldLink RX3 71 "LookbackPlanModel" "members" "I", .methodLink RX3 74 yX3_isIn, .static yX3_isIn, .code yX3_isIn cX3_isIn 3 (some .boolean), .methodLink RX3 92 yX3_may, .instanceMethod yX3_may, .selects RX3 yX3_may yX3_may, .code yX3_may cX3_may 2 (some .boolean), .fieldLink RX3 68 "LookbackPlanModel" "thrown" "I"] ++ wsX30)
def wsX3_resets : List Cond := .code yX3_resets cX3_resets 2 (some .int) :: ([.fieldLink RX3 47 "LookbackPlanModel" "resets" "[I", .methodLink RX3 96 yX3_isMember, .instanceMethod yX3_isMember, .selects RX3 yX3_isMember yX3_isMember, .initialized RX3, .code yX3_isMember cX3_isMember 2 (some .boolean), .fieldLink RX3 71 "LookbackPlanModel" "members" "I", .methodLink RX3 74 yX3_isIn, .static yX3_isIn, .code yX3_isIn cX3_isIn 3 (some .boolean), .methodLink RX3 92 yX3_may, .instanceMethod yX3_may, .selects RX3 yX3_may yX3_may, .code yX3_may cX3_may 2 (some .boolean), .fieldLink RX3 68 "LookbackPlanModel" "thrown" "I"] ++ wsX30)
def wsX3_sharesOf : List Cond := .code yX3_sharesOf cX3_sharesOf 4 (some .int) :: ([.fieldLink RX3 59 "LookbackPlanModel" "had" "[I"] ++ wsX30)
def wsX3_shares : List Cond := .code yX3_shares cX3_shares 2 (some .int) :: ([.methodLink RX3 96 yX3_isMember, .instanceMethod yX3_isMember, .selects RX3 yX3_isMember yX3_isMember, .initialized RX3, .code yX3_isMember cX3_isMember 2 (some .boolean), .fieldLink RX3 71 "LookbackPlanModel" "members" "I", .methodLink RX3 74 yX3_isIn, .static yX3_isIn, .code yX3_isIn cX3_isIn 3 (some .boolean), .methodLink RX3 92 yX3_may, .instanceMethod yX3_may, .selects RX3 yX3_may yX3_may, .code yX3_may cX3_may 2 (some .boolean), .fieldLink RX3 68 "LookbackPlanModel" "thrown" "I", .methodLink RX3 108 yX3_sharesOf, .instanceMethod yX3_sharesOf, .selects RX3 yX3_sharesOf yX3_sharesOf, .code yX3_sharesOf cX3_sharesOf 4 (some .int), .fieldLink RX3 59 "LookbackPlanModel" "had" "[I"] ++ wsX30)
def wsX3_bought : List Cond := .code yX3_bought cX3_bought 3 (some .int) :: ([.fieldLink RX3 56 "LookbackPlanModel" "bought" "[I", .methodLink RX3 96 yX3_isMember, .instanceMethod yX3_isMember, .selects RX3 yX3_isMember yX3_isMember, .initialized RX3, .code yX3_isMember cX3_isMember 2 (some .boolean), .fieldLink RX3 71 "LookbackPlanModel" "members" "I", .methodLink RX3 74 yX3_isIn, .static yX3_isIn, .code yX3_isIn cX3_isIn 3 (some .boolean), .methodLink RX3 92 yX3_may, .instanceMethod yX3_may, .selects RX3 yX3_may yX3_may, .code yX3_may cX3_may 2 (some .boolean), .fieldLink RX3 68 "LookbackPlanModel" "thrown" "I"] ++ wsX30)
def wsX3_paidEach : List Cond := .code yX3_paidEach cX3_paidEach 3 (some .int) :: ([.fieldLink RX3 56 "LookbackPlanModel" "bought" "[I", .fieldLink RX3 62 "LookbackPlanModel" "paid" "[I", .methodLink RX3 96 yX3_isMember, .instanceMethod yX3_isMember, .selects RX3 yX3_isMember yX3_isMember, .initialized RX3, .code yX3_isMember cX3_isMember 2 (some .boolean), .fieldLink RX3 71 "LookbackPlanModel" "members" "I", .methodLink RX3 74 yX3_isIn, .static yX3_isIn, .code yX3_isIn cX3_isIn 3 (some .boolean), .methodLink RX3 92 yX3_may, .instanceMethod yX3_may, .selects RX3 yX3_may yX3_may, .code yX3_may cX3_may 2 (some .boolean), .fieldLink RX3 68 "LookbackPlanModel" "thrown" "I"] ++ wsX30)
def wsX3_counted : List Cond := .code yX3_counted cX3_counted 3 (some .long) :: ([.methodLink RX3 96 yX3_isMember, .instanceMethod yX3_isMember, .selects RX3 yX3_isMember yX3_isMember, .initialized RX3, .code yX3_isMember cX3_isMember 2 (some .boolean), .fieldLink RX3 71 "LookbackPlanModel" "members" "I", .methodLink RX3 74 yX3_isIn, .static yX3_isIn, .code yX3_isIn cX3_isIn 3 (some .boolean), .methodLink RX3 92 yX3_may, .instanceMethod yX3_may, .selects RX3 yX3_may yX3_may, .code yX3_may cX3_may 2 (some .boolean), .fieldLink RX3 68 "LookbackPlanModel" "thrown" "I", .methodLink RX3 78 yX3_countedIn, .instanceMethod yX3_countedIn, .selects RX3 yX3_countedIn yX3_countedIn, .code yX3_countedIn cX3_countedIn 6 (some .long), .fieldLink RX3 56 "LookbackPlanModel" "bought" "[I", .fieldLink RX3 13 "LookbackPlanModel" "price" "[I", .fieldLink RX3 65 "LookbackPlanModel" "offer" "[I"] ++ wsX30)
def wsX3_traced : List Cond := .code yX3_traced cX3_traced 2 (some .long) :: ([.fieldLink RX3 34 "LookbackPlanModel" "spent" "[J", .fieldLink RX3 28 "LookbackPlanModel" "money" "[I", .fieldLink RX3 31 "LookbackPlanModel" "back" "[I", .methodLink RX3 96 yX3_isMember, .instanceMethod yX3_isMember, .selects RX3 yX3_isMember yX3_isMember, .initialized RX3, .code yX3_isMember cX3_isMember 2 (some .boolean), .fieldLink RX3 71 "LookbackPlanModel" "members" "I", .methodLink RX3 74 yX3_isIn, .static yX3_isIn, .code yX3_isIn cX3_isIn 3 (some .boolean), .methodLink RX3 92 yX3_may, .instanceMethod yX3_may, .selects RX3 yX3_may yX3_may, .code yX3_may cX3_may 2 (some .boolean), .fieldLink RX3 68 "LookbackPlanModel" "thrown" "I"] ++ wsX30)
def wsX3_kept : List Cond := .code yX3_kept cX3_kept 2 (some .long) :: ([.fieldLink RX3 38 "LookbackPlanModel" "kept" "[J", .methodLink RX3 96 yX3_isMember, .instanceMethod yX3_isMember, .selects RX3 yX3_isMember yX3_isMember, .initialized RX3, .code yX3_isMember cX3_isMember 2 (some .boolean), .fieldLink RX3 71 "LookbackPlanModel" "members" "I", .methodLink RX3 74 yX3_isIn, .static yX3_isIn, .code yX3_isIn cX3_isIn 3 (some .boolean), .methodLink RX3 92 yX3_may, .instanceMethod yX3_may, .selects RX3 yX3_may yX3_may, .code yX3_may cX3_may 2 (some .boolean), .fieldLink RX3 68 "LookbackPlanModel" "thrown" "I"] ++ wsX30)
def wsX3_isEarly : List Cond := .code yX3_isEarly cX3_isEarly 2 (some .boolean) :: ([.fieldLink RX3 9 "LookbackPlanModel" "month" "I", .fieldLink RX3 65 "LookbackPlanModel" "offer" "[I"] ++ wsX30)
def wsX3_payOf : List Cond := .code yX3_payOf cX3_payOf 5 (some .int) :: ([.fieldLink RX3 13 "LookbackPlanModel" "price" "[I", .fieldLink RX3 62 "LookbackPlanModel" "paid" "[I", .fieldLink RX3 9 "LookbackPlanModel" "month" "I", .fieldLink RX3 65 "LookbackPlanModel" "offer" "[I", .methodLink RX3 112 yX3_isEarly, .instanceMethod yX3_isEarly, .selects RX3 yX3_isEarly yX3_isEarly, .initialized RX3, .code yX3_isEarly cX3_isEarly 2 (some .boolean)] ++ wsX30)
def wsX3_gainOf : List Cond := .code yX3_gainOf cX3_gainOf 3 (some .long) :: ([.fieldLink RX3 13 "LookbackPlanModel" "price" "[I", .fieldLink RX3 9 "LookbackPlanModel" "month" "I", .fieldLink RX3 62 "LookbackPlanModel" "paid" "[I", .methodLink RX3 115 yX3_payOf, .instanceMethod yX3_payOf, .selects RX3 yX3_payOf yX3_payOf, .initialized RX3, .code yX3_payOf cX3_payOf 5 (some .int), .fieldLink RX3 65 "LookbackPlanModel" "offer" "[I", .methodLink RX3 112 yX3_isEarly, .instanceMethod yX3_isEarly, .selects RX3 yX3_isEarly yX3_isEarly, .code yX3_isEarly cX3_isEarly 2 (some .boolean)] ++ wsX30)
def wsX3_sell_r1 : List Cond := [Cond.constant RX3 118 (1000000), Cond.fieldLink RX3 59 "LookbackPlanModel" "had" "[I", Cond.fieldLink RX3 50 "LookbackPlanModel" "pay" "[J", Cond.fieldLink RX3 53 "LookbackPlanModel" "gain" "[J", Cond.methodLink RX3 96 yX3_isMember, Cond.instanceMethod yX3_isMember, Cond.selects RX3 yX3_isMember yX3_isMember, Cond.initialized RX3, Cond.code yX3_isMember cX3_isMember 2 (some .boolean), Cond.fieldLink RX3 71 "LookbackPlanModel" "members" "I", Cond.methodLink RX3 74 yX3_isIn, Cond.static yX3_isIn, Cond.code yX3_isIn cX3_isIn 3 (some .boolean), Cond.methodLink RX3 108 yX3_sharesOf, Cond.instanceMethod yX3_sharesOf, Cond.selects RX3 yX3_sharesOf yX3_sharesOf, Cond.code yX3_sharesOf cX3_sharesOf 4 (some .int), Cond.methodLink RX3 103 yX3_mayAll, Cond.instanceMethod yX3_mayAll, Cond.selects RX3 yX3_mayAll yX3_mayAll, Cond.code yX3_mayAll cX3_mayAll 4 (some .boolean), Cond.fieldLink RX3 68 "LookbackPlanModel" "thrown" "I", Cond.methodLink RX3 115 yX3_payOf, Cond.instanceMethod yX3_payOf]
def wsX3_sell_r2 : List Cond := [Cond.selects RX3 yX3_payOf yX3_payOf, Cond.code yX3_payOf cX3_payOf 5 (some .int), Cond.fieldLink RX3 13 "LookbackPlanModel" "price" "[I", Cond.fieldLink RX3 62 "LookbackPlanModel" "paid" "[I", Cond.fieldLink RX3 9 "LookbackPlanModel" "month" "I", Cond.fieldLink RX3 65 "LookbackPlanModel" "offer" "[I", Cond.methodLink RX3 112 yX3_isEarly, Cond.instanceMethod yX3_isEarly, Cond.selects RX3 yX3_isEarly yX3_isEarly, Cond.code yX3_isEarly cX3_isEarly 2 (some .boolean), Cond.methodLink RX3 119 yX3_gainOf, Cond.instanceMethod yX3_gainOf, Cond.selects RX3 yX3_gainOf yX3_gainOf, Cond.code yX3_gainOf cX3_gainOf 3 (some .long)]
def wsX3_sell : List Cond := .code yX3_sell cX3_sell 8 (some .int) :: ((wsX3_sell_r1 ++ wsX3_sell_r2) ++ wsX30)
def wsX3_pay : List Cond := .code yX3_pay cX3_pay 2 (some .long) :: ([.fieldLink RX3 50 "LookbackPlanModel" "pay" "[J", .methodLink RX3 96 yX3_isMember, .instanceMethod yX3_isMember, .selects RX3 yX3_isMember yX3_isMember, .initialized RX3, .code yX3_isMember cX3_isMember 2 (some .boolean), .fieldLink RX3 71 "LookbackPlanModel" "members" "I", .methodLink RX3 74 yX3_isIn, .static yX3_isIn, .code yX3_isIn cX3_isIn 3 (some .boolean), .methodLink RX3 92 yX3_may, .instanceMethod yX3_may, .selects RX3 yX3_may yX3_may, .code yX3_may cX3_may 2 (some .boolean), .fieldLink RX3 68 "LookbackPlanModel" "thrown" "I"] ++ wsX30)
def wsX3_gain : List Cond := .code yX3_gain cX3_gain 2 (some .long) :: ([.fieldLink RX3 53 "LookbackPlanModel" "gain" "[J", .methodLink RX3 96 yX3_isMember, .instanceMethod yX3_isMember, .selects RX3 yX3_isMember yX3_isMember, .initialized RX3, .code yX3_isMember cX3_isMember 2 (some .boolean), .fieldLink RX3 71 "LookbackPlanModel" "members" "I", .methodLink RX3 74 yX3_isIn, .static yX3_isIn, .code yX3_isIn cX3_isIn 3 (some .boolean), .methodLink RX3 92 yX3_may, .instanceMethod yX3_may, .selects RX3 yX3_may yX3_may, .code yX3_may cX3_may 2 (some .boolean), .fieldLink RX3 68 "LookbackPlanModel" "thrown" "I"] ++ wsX30)
def wsX3_gainNow_r1 : List Cond := [Cond.fieldLink RX3 59 "LookbackPlanModel" "had" "[I", Cond.methodLink RX3 96 yX3_isMember, Cond.instanceMethod yX3_isMember, Cond.selects RX3 yX3_isMember yX3_isMember, Cond.initialized RX3, Cond.code yX3_isMember cX3_isMember 2 (some .boolean), Cond.fieldLink RX3 71 "LookbackPlanModel" "members" "I", Cond.methodLink RX3 74 yX3_isIn, Cond.static yX3_isIn, Cond.code yX3_isIn cX3_isIn 3 (some .boolean), Cond.methodLink RX3 92 yX3_may, Cond.instanceMethod yX3_may, Cond.selects RX3 yX3_may yX3_may, Cond.code yX3_may cX3_may 2 (some .boolean), Cond.fieldLink RX3 68 "LookbackPlanModel" "thrown" "I", Cond.methodLink RX3 119 yX3_gainOf, Cond.instanceMethod yX3_gainOf, Cond.selects RX3 yX3_gainOf yX3_gainOf, Cond.code yX3_gainOf cX3_gainOf 3 (some .long), Cond.fieldLink RX3 13 "LookbackPlanModel" "price" "[I", Cond.fieldLink RX3 9 "LookbackPlanModel" "month" "I", Cond.fieldLink RX3 62 "LookbackPlanModel" "paid" "[I", Cond.methodLink RX3 115 yX3_payOf, Cond.instanceMethod yX3_payOf]
def wsX3_gainNow_r2 : List Cond := [Cond.selects RX3 yX3_payOf yX3_payOf, Cond.code yX3_payOf cX3_payOf 5 (some .int), Cond.fieldLink RX3 65 "LookbackPlanModel" "offer" "[I", Cond.methodLink RX3 112 yX3_isEarly, Cond.instanceMethod yX3_isEarly, Cond.selects RX3 yX3_isEarly yX3_isEarly, Cond.code yX3_isEarly cX3_isEarly 2 (some .boolean)]
def wsX3_gainNow : List Cond := .code yX3_gainNow cX3_gainNow 5 (some .long) :: ((wsX3_gainNow_r1 ++ wsX3_gainNow_r2) ++ wsX30)
def wsJ9_max_7cf53 : List Cond := .code yJ9_max_7cf53 cJ9_max_7cf53 2 (some .int) :: ([])
def wsJ9_min_7cf53 : List Cond := .code yJ9_min_7cf53 cJ9_min_7cf53 2 (some .int) :: ([])
def wsJ9_min_f86c9 : List Cond := .code yJ9_min_f86c9 cJ9_min_f86c9 4 (some .long) :: ([])
def wsL_next_r1 : List Cond := [Cond.classLink RL 13 "java/lang/IllegalArgumentException", Cond.classLink RL 15 "java/lang/IllegalStateException", Cond.methodLink RL 7 yX2_next, Cond.instanceMethod yX2_next, Cond.selects RX2 yX2_next yX2_next, Cond.initialized RX2, Cond.code yX2_next cX2_next 2 (some .int), Cond.classLink RX2 30 "java/lang/IllegalArgumentException", Cond.initialized "java/lang/IllegalArgumentException", Cond.classLink RX2 37 "java/lang/IllegalStateException", Cond.initialized "java/lang/IllegalStateException", Cond.constant RX2 29 (100000), Cond.fieldLink RX2 19 "LookbackPlan" "month" "I", Cond.fieldLink RX2 22 "LookbackPlan" "priceNow" "I", Cond.methodLink RX2 42 yX2_isPurchaseMonth, Cond.static yX2_isPurchaseMonth, Cond.code yX2_isPurchaseMonth cX2_isPurchaseMonth 1 (some .boolean), Cond.methodLink RX2 46 yX2_buyForAll, Cond.instanceMethod yX2_buyForAll, Cond.selects RX2 yX2_buyForAll yX2_buyForAll, Cond.code yX2_buyForAll cX2_buyForAll 3 none, Cond.fieldLink RX2 11 "LookbackPlan" "members" "[LLookbackPlan$Member;", Cond.fieldLink RX2 26 "LookbackPlan" "ceiling" "I", Cond.instanceMethod yX1_buyShares]
def wsL_next_r2 : List Cond := [Cond.initialized RX1, Cond.selects RX1 yX1_buyShares yX1_buyShares, Cond.code yX1_buyShares cX1_buyShares 11 none, Cond.fieldLink RX1 28 "LookbackPlan$Member" "offerPrice" "I", Cond.methodLink RX1 45 Lib.Math.min.name, Cond.static Lib.Math.min.name, Cond.initialized "java/lang/Math", Cond.code Lib.Math.min.name Lib.Math.min.code 2 (some .int), Cond.fieldLink RX1 31 "LookbackPlan$Member" "money" "J", Cond.methodLink RX1 63 Lib.MathLoose.min_long.x, Cond.static Lib.MathLoose.min_long.x, Cond.code Lib.MathLoose.min_long.x Lib.MathLoose.min_long.code 4 (some .long), Cond.classLink RX1 9 RX0, Cond.instantiable RX0 7, Cond.initialized RX0, Cond.fieldLink RX1 25 "LookbackPlan$Member" "offerMonth" "I", Cond.fieldLink RX1 76 "LookbackPlan$Member" "spent" "J", Cond.fieldLink RX1 79 "LookbackPlan$Member" "offerPurchases" "I", Cond.methodLink RX1 51 yX1_purchasePrice, Cond.static yX1_purchasePrice, Cond.code yX1_purchasePrice cX1_purchasePrice 1 (some .int), Cond.methodLink RX1 55 yX1_wholeTimes, Cond.static yX1_wholeTimes, Cond.code yX1_wholeTimes cX1_wholeTimes 4 (some .long)]
def wsL_next_r3 : List Cond := [Cond.methodLink RX1 59 yX1_countedIn, Cond.instanceMethod yX1_countedIn, Cond.selects RX1 yX1_countedIn yX1_countedIn, Cond.code yX1_countedIn cX1_countedIn 2 (some .long), Cond.fieldLink RX1 17 "LookbackPlan$Member" "countedByYear" "[J", Cond.instanceMethod yX0_init, Cond.code yX0_init cX0_init 7 none, Cond.methodLink RX0 3 objectInit, Cond.instanceMethod objectInit, Cond.code objectInit ⟨#[0xb1]⟩ 1 none, Cond.fieldLink RX0 9 "LookbackPlan$Lot" "month" "I", Cond.fieldLink RX0 15 "LookbackPlan$Lot" "monthPrice" "I", Cond.fieldLink RX0 18 "LookbackPlan$Lot" "paidEach" "I", Cond.fieldLink RX0 21 "LookbackPlan$Lot" "offerMonth" "I", Cond.fieldLink RX0 24 "LookbackPlan$Lot" "offerPrice" "I", Cond.fieldLink RX0 27 "LookbackPlan$Lot" "bought" "I", Cond.fieldLink RX0 30 "LookbackPlan$Lot" "left" "I", Cond.methodLink RX1 68 yX1_putLot, Cond.instanceMethod yX1_putLot, Cond.selects RX1 yX1_putLot yX1_putLot, Cond.code yX1_putLot cX1_putLot 3 none, Cond.fieldLink RX1 11 "LookbackPlan$Member" "lots" "[LLookbackPlan$Lot;", Cond.methodLink RX1 72 yX1_addCounted, Cond.instanceMethod yX1_addCounted]
def wsL_next_r4 : List Cond := [Cond.selects RX1 yX1_addCounted yX1_addCounted, Cond.code yX1_addCounted cX1_addCounted 4 none, Cond.methodLink RX1 82 yX1_renewOffer, Cond.instanceMethod yX1_renewOffer, Cond.selects RX1 yX1_renewOffer yX1_renewOffer, Cond.code yX1_renewOffer cX1_renewOffer 4 none, Cond.fieldLink RX1 86 "LookbackPlan$Member" "resets" "I"]
def wsL_next : List Cond := .codeWith yL_next cL_next 4 (some .int) [(0, 9, 12, 13), (0, 9, 15, 15)] :: ((wsL_next_r1 ++ (wsL_next_r2 ++ (wsL_next_r3 ++ wsL_next_r4))) ++ wsX20 ++ wsX10 ++ wsX00 ++ (vx_atS RX2 34 "java/lang/IllegalArgumentException" ["java/lang/RuntimeException", "java/lang/Exception"]).filter goodWord ++ (vx_atS RX2 41 "java/lang/IllegalStateException" ["java/lang/RuntimeException", "java/lang/Exception"]).filter goodWord)
def wsL_ceiling : List Cond := .codeWith yL_ceiling cL_ceiling 4 (some .int) [(0, 9, 12, 13)] :: ([.classLink RL 13 "java/lang/IllegalArgumentException", .methodLink RL 17 yX2_ceiling, .instanceMethod yX2_ceiling, .selects RX2 yX2_ceiling yX2_ceiling, .initialized RX2, .code yX2_ceiling cX2_ceiling 3 (some .int), .classLink RX2 30 "java/lang/IllegalArgumentException", .initialized "java/lang/IllegalArgumentException", .constant RX2 49 (10000000), .fieldLink RX2 26 "LookbackPlan" "ceiling" "I"] ++ wsX20 ++ (vx_atS RX2 34 "java/lang/IllegalArgumentException" ["java/lang/RuntimeException", "java/lang/Exception"]).filter goodWord)
def wsL_join_r1 : List Cond := [Cond.classLink RL 13 "java/lang/IllegalArgumentException", Cond.classLink RL 15 "java/lang/IllegalStateException", Cond.methodLink RL 20 yX2_join, Cond.instanceMethod yX2_join, Cond.selects RX2 yX2_join yX2_join, Cond.initialized RX2, Cond.code yX2_join cX2_join 3 (some .int), Cond.classLink RX2 37 "java/lang/IllegalStateException", Cond.initialized "java/lang/IllegalStateException", Cond.fieldLink RX2 19 "LookbackPlan" "month" "I", Cond.fieldLink RX2 15 "LookbackPlan" "memberCount" "I", Cond.fieldLink RX2 11 "LookbackPlan" "members" "[LLookbackPlan$Member;", Cond.classLink RX2 9 RX1, Cond.instantiable RX1 14, Cond.initialized RX1, Cond.fieldLink RX2 22 "LookbackPlan" "priceNow" "I", Cond.methodLink RX2 52 yX2_refuseBadRate, Cond.static yX2_refuseBadRate, Cond.code yX2_refuseBadRate cX2_refuseBadRate 1 none, Cond.classLink RX2 30 "java/lang/IllegalArgumentException", Cond.initialized "java/lang/IllegalArgumentException", Cond.instanceMethod yX1_init, Cond.code yX1_init cX1_init 4 none, Cond.methodLink RX1 3 objectInit]
def wsL_join_r2 : List Cond := [Cond.instanceMethod objectInit, Cond.code objectInit ⟨#[0xb1]⟩ 1 none, Cond.classLink RX1 9 RX0, Cond.fieldLink RX1 11 "LookbackPlan$Member" "lots" "[LLookbackPlan$Lot;", Cond.arrayClass .long, Cond.fieldLink RX1 17 "LookbackPlan$Member" "countedByYear" "[J", Cond.fieldLink RX1 21 "LookbackPlan$Member" "rate" "I", Cond.fieldLink RX1 25 "LookbackPlan$Member" "offerMonth" "I", Cond.fieldLink RX1 28 "LookbackPlan$Member" "offerPrice" "I"]
def wsL_join : List Cond := .codeWith yL_join cL_join 4 (some .int) [(0, 9, 12, 13), (0, 9, 15, 15)] :: ((wsL_join_r1 ++ wsL_join_r2) ++ wsX20 ++ wsX10 ++ (vx_atS RX2 41 "java/lang/IllegalStateException" ["java/lang/RuntimeException", "java/lang/Exception"]).filter goodWord ++ (vx_atS RX2 34 "java/lang/IllegalArgumentException" ["java/lang/RuntimeException", "java/lang/Exception"]).filter goodWord)
def wsL_rate_r1 : List Cond := [Cond.classLink RL 27 "java/lang/IndexOutOfBoundsException", Cond.classLink RL 13 "java/lang/IllegalArgumentException", Cond.classLink RL 15 "java/lang/IllegalStateException", Cond.methodLink RL 23 yX2_rate, Cond.instanceMethod yX2_rate, Cond.selects RX2 yX2_rate yX2_rate, Cond.initialized RX2, Cond.code yX2_rate cX2_rate 5 (some .int), Cond.methodLink RX2 63 yX2_memberOrThrow, Cond.instanceMethod yX2_memberOrThrow, Cond.selects RX2 yX2_memberOrThrow yX2_memberOrThrow, Cond.code yX2_memberOrThrow cX2_memberOrThrow 3 (some (.object "LookbackPlan$Member")), Cond.classLink RX2 117 "java/lang/IndexOutOfBoundsException", Cond.initialized "java/lang/IndexOutOfBoundsException", Cond.fieldLink RX2 11 "LookbackPlan" "members" "[LLookbackPlan$Member;", Cond.methodLink RX2 52 yX2_refuseBadRate, Cond.static yX2_refuseBadRate, Cond.code yX2_refuseBadRate cX2_refuseBadRate 1 none, Cond.classLink RX2 30 "java/lang/IllegalArgumentException", Cond.initialized "java/lang/IllegalArgumentException", Cond.methodLink RX2 67 yX2_refuseLeft, Cond.static yX2_refuseLeft, Cond.code yX2_refuseLeft cX2_refuseLeft 1 none, Cond.classLink RX2 37 "java/lang/IllegalStateException"]
def wsL_rate_r2 : List Cond := [Cond.initialized "java/lang/IllegalStateException"]
def wsL_rate : List Cond := .codeWith yL_rate cL_rate 5 (some .int) [(0, 10, 13, 27), (0, 10, 17, 13), (0, 10, 21, 15)] :: ((wsL_rate_r1 ++ wsL_rate_r2) ++ wsX10 ++ wsX20 ++ (vx_atS RX2 121 "java/lang/IndexOutOfBoundsException" ["java/lang/RuntimeException", "java/lang/Exception"]).filter goodWord ++ (vx_atS RX2 34 "java/lang/IllegalArgumentException" ["java/lang/RuntimeException", "java/lang/Exception"]).filter goodWord ++ (vx_atS RX2 41 "java/lang/IllegalStateException" ["java/lang/RuntimeException", "java/lang/Exception"]).filter goodWord)
def wsL_slip_r1 : List Cond := [Cond.classLink RL 27 "java/lang/IndexOutOfBoundsException", Cond.classLink RL 13 "java/lang/IllegalArgumentException", Cond.classLink RL 15 "java/lang/IllegalStateException", Cond.methodLink RL 29 yX2_slip, Cond.instanceMethod yX2_slip, Cond.selects RX2 yX2_slip yX2_slip, Cond.initialized RX2, Cond.code yX2_slip cX2_slip 4 (some .int), Cond.classLink RX2 30 "java/lang/IllegalArgumentException", Cond.initialized "java/lang/IllegalArgumentException", Cond.constant RX2 74 (5000000), Cond.methodLink RX2 63 yX2_memberOrThrow, Cond.instanceMethod yX2_memberOrThrow, Cond.selects RX2 yX2_memberOrThrow yX2_memberOrThrow, Cond.code yX2_memberOrThrow cX2_memberOrThrow 3 (some (.object "LookbackPlan$Member")), Cond.classLink RX2 117 "java/lang/IndexOutOfBoundsException", Cond.initialized "java/lang/IndexOutOfBoundsException", Cond.fieldLink RX2 11 "LookbackPlan" "members" "[LLookbackPlan$Member;", Cond.methodLink RX2 67 yX2_refuseLeft, Cond.static yX2_refuseLeft, Cond.code yX2_refuseLeft cX2_refuseLeft 1 none, Cond.classLink RX2 37 "java/lang/IllegalStateException", Cond.initialized "java/lang/IllegalStateException", Cond.instanceMethod yX1_takeSlip]
def wsL_slip_r2 : List Cond := [Cond.initialized RX1, Cond.selects RX1 yX1_takeSlip yX1_takeSlip, Cond.code yX1_takeSlip cX1_takeSlip 3 (some .int), Cond.fieldLink RX1 21 "LookbackPlan$Member" "rate" "I", Cond.fieldLink RX1 31 "LookbackPlan$Member" "money" "J", Cond.fieldLink RX1 35 "LookbackPlan$Member" "keptOfSlips" "J"]
def wsL_slip : List Cond := .codeWith yL_slip cL_slip 5 (some .int) [(0, 10, 13, 27), (0, 10, 17, 13), (0, 10, 21, 15)] :: ((wsL_slip_r1 ++ wsL_slip_r2) ++ wsX20 ++ wsX10 ++ (vx_atS RX2 34 "java/lang/IllegalArgumentException" ["java/lang/RuntimeException", "java/lang/Exception"]).filter goodWord ++ (vx_atS RX2 121 "java/lang/IndexOutOfBoundsException" ["java/lang/RuntimeException", "java/lang/Exception"]).filter goodWord ++ (vx_atS RX2 41 "java/lang/IllegalStateException" ["java/lang/RuntimeException", "java/lang/Exception"]).filter goodWord)
def wsL_leave_r1 : List Cond := [Cond.classLink RL 27 "java/lang/IndexOutOfBoundsException", Cond.classLink RL 15 "java/lang/IllegalStateException", Cond.methodLink RL 32 yX2_leave, Cond.instanceMethod yX2_leave, Cond.selects RX2 yX2_leave yX2_leave, Cond.initialized RX2, Cond.code yX2_leave cX2_leave 3 (some .int), Cond.methodLink RX2 63 yX2_memberOrThrow, Cond.instanceMethod yX2_memberOrThrow, Cond.selects RX2 yX2_memberOrThrow yX2_memberOrThrow, Cond.code yX2_memberOrThrow cX2_memberOrThrow 3 (some (.object "LookbackPlan$Member")), Cond.classLink RX2 117 "java/lang/IndexOutOfBoundsException", Cond.initialized "java/lang/IndexOutOfBoundsException", Cond.fieldLink RX2 11 "LookbackPlan" "members" "[LLookbackPlan$Member;", Cond.methodLink RX2 67 yX2_refuseLeft, Cond.static yX2_refuseLeft, Cond.code yX2_refuseLeft cX2_refuseLeft 1 none, Cond.classLink RX2 37 "java/lang/IllegalStateException", Cond.initialized "java/lang/IllegalStateException", Cond.instanceMethod yX1_giveBack, Cond.initialized RX1, Cond.selects RX1 yX1_giveBack yX1_giveBack, Cond.code yX1_giveBack cX1_giveBack 3 (some .long), Cond.fieldLink RX1 31 "LookbackPlan$Member" "money" "J"]
def wsL_leave_r2 : List Cond := [Cond.fieldLink RX1 38 "LookbackPlan$Member" "givenBack" "J", Cond.fieldLink RX1 41 "LookbackPlan$Member" "hasLeft" "Z"]
def wsL_leave : List Cond := .codeWith yL_leave cL_leave 4 (some .int) [(0, 9, 12, 27), (0, 9, 15, 15)] :: ((wsL_leave_r1 ++ wsL_leave_r2) ++ wsX20 ++ wsX10 ++ (vx_atS RX2 121 "java/lang/IndexOutOfBoundsException" ["java/lang/RuntimeException", "java/lang/Exception"]).filter goodWord ++ (vx_atS RX2 41 "java/lang/IllegalStateException" ["java/lang/RuntimeException", "java/lang/Exception"]).filter goodWord)
def wsL_money : List Cond := .codeWith yL_money cL_money 4 (some .int) [(0, 9, 12, 27)] :: ([.classLink RL 27 "java/lang/IndexOutOfBoundsException", .methodLink RL 35 yX2_money, .instanceMethod yX2_money, .selects RX2 yX2_money yX2_money, .initialized RX2, .code yX2_money cX2_money 2 (some .int), .methodLink RX2 63 yX2_memberOrThrow, .instanceMethod yX2_memberOrThrow, .selects RX2 yX2_memberOrThrow yX2_memberOrThrow, .code yX2_memberOrThrow cX2_memberOrThrow 3 (some (.object "LookbackPlan$Member")), .classLink RX2 117 "java/lang/IndexOutOfBoundsException", .initialized "java/lang/IndexOutOfBoundsException", .fieldLink RX2 11 "LookbackPlan" "members" "[LLookbackPlan$Member;"] ++ wsX10 ++ wsX20 ++ (vx_atS RX2 121 "java/lang/IndexOutOfBoundsException" ["java/lang/RuntimeException", "java/lang/Exception"]).filter goodWord)
def wsL_offerMonth : List Cond := .codeWith yL_offerMonth cL_offerMonth 4 (some .int) [(0, 9, 12, 27)] :: ([.classLink RL 27 "java/lang/IndexOutOfBoundsException", .methodLink RL 38 yX2_offerMonth, .instanceMethod yX2_offerMonth, .selects RX2 yX2_offerMonth yX2_offerMonth, .initialized RX2, .code yX2_offerMonth cX2_offerMonth 2 (some .int), .methodLink RX2 63 yX2_memberOrThrow, .instanceMethod yX2_memberOrThrow, .selects RX2 yX2_memberOrThrow yX2_memberOrThrow, .code yX2_memberOrThrow cX2_memberOrThrow 3 (some (.object "LookbackPlan$Member")), .classLink RX2 117 "java/lang/IndexOutOfBoundsException", .initialized "java/lang/IndexOutOfBoundsException", .fieldLink RX2 11 "LookbackPlan" "members" "[LLookbackPlan$Member;"] ++ wsX10 ++ wsX20 ++ (vx_atS RX2 121 "java/lang/IndexOutOfBoundsException" ["java/lang/RuntimeException", "java/lang/Exception"]).filter goodWord)
def wsL_offerPrice : List Cond := .codeWith yL_offerPrice cL_offerPrice 4 (some .int) [(0, 9, 12, 27)] :: ([.classLink RL 27 "java/lang/IndexOutOfBoundsException", .methodLink RL 41 yX2_offerPrice, .instanceMethod yX2_offerPrice, .selects RX2 yX2_offerPrice yX2_offerPrice, .initialized RX2, .code yX2_offerPrice cX2_offerPrice 2 (some .int), .methodLink RX2 63 yX2_memberOrThrow, .instanceMethod yX2_memberOrThrow, .selects RX2 yX2_memberOrThrow yX2_memberOrThrow, .code yX2_memberOrThrow cX2_memberOrThrow 3 (some (.object "LookbackPlan$Member")), .classLink RX2 117 "java/lang/IndexOutOfBoundsException", .initialized "java/lang/IndexOutOfBoundsException", .fieldLink RX2 11 "LookbackPlan" "members" "[LLookbackPlan$Member;"] ++ wsX10 ++ wsX20 ++ (vx_atS RX2 121 "java/lang/IndexOutOfBoundsException" ["java/lang/RuntimeException", "java/lang/Exception"]).filter goodWord)
def wsL_resets : List Cond := .codeWith yL_resets cL_resets 4 (some .int) [(0, 9, 12, 27)] :: ([.classLink RL 27 "java/lang/IndexOutOfBoundsException", .methodLink RL 44 yX2_resets, .instanceMethod yX2_resets, .selects RX2 yX2_resets yX2_resets, .initialized RX2, .code yX2_resets cX2_resets 2 (some .int), .methodLink RX2 63 yX2_memberOrThrow, .instanceMethod yX2_memberOrThrow, .selects RX2 yX2_memberOrThrow yX2_memberOrThrow, .code yX2_memberOrThrow cX2_memberOrThrow 3 (some (.object "LookbackPlan$Member")), .classLink RX2 117 "java/lang/IndexOutOfBoundsException", .initialized "java/lang/IndexOutOfBoundsException", .fieldLink RX2 11 "LookbackPlan" "members" "[LLookbackPlan$Member;"] ++ wsX10 ++ wsX20 ++ (vx_atS RX2 121 "java/lang/IndexOutOfBoundsException" ["java/lang/RuntimeException", "java/lang/Exception"]).filter goodWord)
def wsL_shares : List Cond := .codeWith yL_shares cL_shares 4 (some .int) [(0, 9, 12, 27)] :: ([.classLink RL 27 "java/lang/IndexOutOfBoundsException", .methodLink RL 47 yX2_shares, .instanceMethod yX2_shares, .selects RX2 yX2_shares yX2_shares, .initialized RX2, .code yX2_shares cX2_shares 2 (some .int), .methodLink RX2 63 yX2_memberOrThrow, .instanceMethod yX2_memberOrThrow, .selects RX2 yX2_memberOrThrow yX2_memberOrThrow, .code yX2_memberOrThrow cX2_memberOrThrow 3 (some (.object "LookbackPlan$Member")), .classLink RX2 117 "java/lang/IndexOutOfBoundsException", .initialized "java/lang/IndexOutOfBoundsException", .fieldLink RX2 11 "LookbackPlan" "members" "[LLookbackPlan$Member;", .instanceMethod yX1_sharesHeld, .initialized RX1, .selects RX1 yX1_sharesHeld yX1_sharesHeld, .code yX1_sharesHeld cX1_sharesHeld 4 (some .int), .fieldLink RX1 11 "LookbackPlan$Member" "lots" "[LLookbackPlan$Lot;"] ++ wsX20 ++ wsX10 ++ wsX00 ++ (vx_atS RX2 121 "java/lang/IndexOutOfBoundsException" ["java/lang/RuntimeException", "java/lang/Exception"]).filter goodWord)
def wsL_bought : List Cond := .codeWith yL_bought cL_bought 5 (some .int) [(0, 10, 13, 27)] :: ([.classLink RL 27 "java/lang/IndexOutOfBoundsException", .methodLink RL 50 yX2_bought, .instanceMethod yX2_bought, .selects RX2 yX2_bought yX2_bought, .initialized RX2, .code yX2_bought cX2_bought 5 (some .int), .methodLink RX2 63 yX2_memberOrThrow, .instanceMethod yX2_memberOrThrow, .selects RX2 yX2_memberOrThrow yX2_memberOrThrow, .code yX2_memberOrThrow cX2_memberOrThrow 3 (some (.object "LookbackPlan$Member")), .classLink RX2 117 "java/lang/IndexOutOfBoundsException", .initialized "java/lang/IndexOutOfBoundsException", .fieldLink RX2 11 "LookbackPlan" "members" "[LLookbackPlan$Member;", .methodLink RX2 102 yX2_refuseBadMonth, .static yX2_refuseBadMonth, .code yX2_refuseBadMonth cX2_refuseBadMonth 1 none, .instanceMethod yX1_lotOf, .initialized RX1, .selects RX1 yX1_lotOf yX1_lotOf, .code yX1_lotOf cX1_lotOf 3 (some (.object "LookbackPlan$Lot")), .fieldLink RX1 11 "LookbackPlan$Member" "lots" "[LLookbackPlan$Lot;", .static yX2_isPurchaseMonth, .code yX2_isPurchaseMonth cX2_isPurchaseMonth 1 (some .boolean)] ++ wsX00 ++ wsX20 ++ wsX10 ++ (vx_atS RX2 121 "java/lang/IndexOutOfBoundsException" ["java/lang/RuntimeException", "java/lang/Exception"]).filter goodWord)
def wsL_paidEach : List Cond := .codeWith yL_paidEach cL_paidEach 5 (some .int) [(0, 10, 13, 27)] :: ([.classLink RL 27 "java/lang/IndexOutOfBoundsException", .methodLink RL 53 yX2_paidEach, .instanceMethod yX2_paidEach, .selects RX2 yX2_paidEach yX2_paidEach, .initialized RX2, .code yX2_paidEach cX2_paidEach 5 (some .int), .methodLink RX2 63 yX2_memberOrThrow, .instanceMethod yX2_memberOrThrow, .selects RX2 yX2_memberOrThrow yX2_memberOrThrow, .code yX2_memberOrThrow cX2_memberOrThrow 3 (some (.object "LookbackPlan$Member")), .classLink RX2 117 "java/lang/IndexOutOfBoundsException", .initialized "java/lang/IndexOutOfBoundsException", .fieldLink RX2 11 "LookbackPlan" "members" "[LLookbackPlan$Member;", .methodLink RX2 102 yX2_refuseBadMonth, .static yX2_refuseBadMonth, .code yX2_refuseBadMonth cX2_refuseBadMonth 1 none, .instanceMethod yX1_lotOf, .initialized RX1, .selects RX1 yX1_lotOf yX1_lotOf, .code yX1_lotOf cX1_lotOf 3 (some (.object "LookbackPlan$Lot")), .fieldLink RX1 11 "LookbackPlan$Member" "lots" "[LLookbackPlan$Lot;", .static yX2_isPurchaseMonth, .code yX2_isPurchaseMonth cX2_isPurchaseMonth 1 (some .boolean)] ++ wsX00 ++ wsX20 ++ wsX10 ++ (vx_atS RX2 121 "java/lang/IndexOutOfBoundsException" ["java/lang/RuntimeException", "java/lang/Exception"]).filter goodWord)
def wsL_counted : List Cond := .codeWith yL_counted cL_counted 5 (some .int) [(0, 9, 12, 27)] :: ([.classLink RL 27 "java/lang/IndexOutOfBoundsException", .methodLink RL 56 yX2_counted, .instanceMethod yX2_counted, .selects RX2 yX2_counted yX2_counted, .initialized RX2, .code yX2_counted cX2_counted 4 (some .long), .classLink RX2 117 "java/lang/IndexOutOfBoundsException", .initialized "java/lang/IndexOutOfBoundsException", .methodLink RX2 63 yX2_memberOrThrow, .instanceMethod yX2_memberOrThrow, .selects RX2 yX2_memberOrThrow yX2_memberOrThrow, .code yX2_memberOrThrow cX2_memberOrThrow 3 (some (.object "LookbackPlan$Member")), .fieldLink RX2 11 "LookbackPlan" "members" "[LLookbackPlan$Member;", .instanceMethod yX1_countedIn, .initialized RX1, .selects RX1 yX1_countedIn yX1_countedIn, .code yX1_countedIn cX1_countedIn 2 (some .long), .fieldLink RX1 17 "LookbackPlan$Member" "countedByYear" "[J"] ++ wsX20 ++ wsX10 ++ (vx_atS RX2 121 "java/lang/IndexOutOfBoundsException" ["java/lang/RuntimeException", "java/lang/Exception"]).filter goodWord)
def wsL_traced : List Cond := .codeWith yL_traced cL_traced 4 (some .int) [(0, 8, 11, 27)] :: ([.classLink RL 27 "java/lang/IndexOutOfBoundsException", .methodLink RL 60 yX2_traced, .instanceMethod yX2_traced, .selects RX2 yX2_traced yX2_traced, .initialized RX2, .code yX2_traced cX2_traced 3 (some .long), .methodLink RX2 63 yX2_memberOrThrow, .instanceMethod yX2_memberOrThrow, .selects RX2 yX2_memberOrThrow yX2_memberOrThrow, .code yX2_memberOrThrow cX2_memberOrThrow 3 (some (.object "LookbackPlan$Member")), .classLink RX2 117 "java/lang/IndexOutOfBoundsException", .initialized "java/lang/IndexOutOfBoundsException", .fieldLink RX2 11 "LookbackPlan" "members" "[LLookbackPlan$Member;"] ++ wsX10 ++ wsX20 ++ (vx_atS RX2 121 "java/lang/IndexOutOfBoundsException" ["java/lang/RuntimeException", "java/lang/Exception"]).filter goodWord)
def wsL_kept : List Cond := .codeWith yL_kept cL_kept 4 (some .int) [(0, 8, 11, 27)] :: ([.classLink RL 27 "java/lang/IndexOutOfBoundsException", .methodLink RL 64 yX2_kept, .instanceMethod yX2_kept, .selects RX2 yX2_kept yX2_kept, .initialized RX2, .code yX2_kept cX2_kept 2 (some .long), .methodLink RX2 63 yX2_memberOrThrow, .instanceMethod yX2_memberOrThrow, .selects RX2 yX2_memberOrThrow yX2_memberOrThrow, .code yX2_memberOrThrow cX2_memberOrThrow 3 (some (.object "LookbackPlan$Member")), .classLink RX2 117 "java/lang/IndexOutOfBoundsException", .initialized "java/lang/IndexOutOfBoundsException", .fieldLink RX2 11 "LookbackPlan" "members" "[LLookbackPlan$Member;"] ++ wsX10 ++ wsX20 ++ (vx_atS RX2 121 "java/lang/IndexOutOfBoundsException" ["java/lang/RuntimeException", "java/lang/Exception"]).filter goodWord)
def wsL_sell_r1 : List Cond := [Cond.classLink RL 27 "java/lang/IndexOutOfBoundsException", Cond.classLink RL 13 "java/lang/IllegalArgumentException", Cond.classLink RL 15 "java/lang/IllegalStateException", Cond.methodLink RL 67 yX2_sell, Cond.instanceMethod yX2_sell, Cond.selects RX2 yX2_sell yX2_sell, Cond.initialized RX2, Cond.code yX2_sell cX2_sell 4 (some .int), Cond.classLink RX2 30 "java/lang/IllegalArgumentException", Cond.initialized "java/lang/IllegalArgumentException", Cond.classLink RX2 37 "java/lang/IllegalStateException", Cond.initialized "java/lang/IllegalStateException", Cond.constant RX2 135 (1000000), Cond.fieldLink RX2 19 "LookbackPlan" "month" "I", Cond.fieldLink RX2 22 "LookbackPlan" "priceNow" "I", Cond.methodLink RX2 63 yX2_memberOrThrow, Cond.instanceMethod yX2_memberOrThrow, Cond.selects RX2 yX2_memberOrThrow yX2_memberOrThrow, Cond.code yX2_memberOrThrow cX2_memberOrThrow 3 (some (.object "LookbackPlan$Member")), Cond.classLink RX2 117 "java/lang/IndexOutOfBoundsException", Cond.initialized "java/lang/IndexOutOfBoundsException", Cond.fieldLink RX2 11 "LookbackPlan" "members" "[LLookbackPlan$Member;", Cond.instanceMethod yX1_sharesHeld, Cond.initialized RX1]
def wsL_sell_r2 : List Cond := [Cond.selects RX1 yX1_sharesHeld yX1_sharesHeld, Cond.code yX1_sharesHeld cX1_sharesHeld 4 (some .int), Cond.fieldLink RX1 11 "LookbackPlan$Member" "lots" "[LLookbackPlan$Lot;", Cond.instanceMethod yX1_sellOldest, Cond.selects RX1 yX1_sellOldest yX1_sellOldest, Cond.code yX1_sellOldest cX1_sellOldest 9 (some .int), Cond.methodLink RX1 45 Lib.Math.min.name, Cond.static Lib.Math.min.name, Cond.initialized "java/lang/Math", Cond.code Lib.Math.min.name Lib.Math.min.code 2 (some .int), Cond.fieldLink RX1 99 "LookbackPlan$Member" "payOfSales" "J", Cond.fieldLink RX1 106 "LookbackPlan$Member" "gainOfSales" "J", Cond.instanceMethod yX0_payEach, Cond.initialized RX0, Cond.selects RX0 yX0_payEach yX0_payEach, Cond.code yX0_payEach cX0_payEach 4 (some .long), Cond.fieldLink RX0 15 "LookbackPlan$Lot" "monthPrice" "I", Cond.fieldLink RX0 18 "LookbackPlan$Lot" "paidEach" "I", Cond.fieldLink RX0 24 "LookbackPlan$Lot" "offerPrice" "I", Cond.methodLink RX0 37 Lib.Math.min.name, Cond.methodLink RX0 43 Lib.Math.max.name, Cond.static Lib.Math.max.name, Cond.code Lib.Math.max.name Lib.Math.max.code 2 (some .int), Cond.methodLink RX0 33 yX0_isEarly]
def wsL_sell_r3 : List Cond := [Cond.instanceMethod yX0_isEarly, Cond.selects RX0 yX0_isEarly yX0_isEarly, Cond.code yX0_isEarly cX0_isEarly 2 (some .boolean), Cond.fieldLink RX0 21 "LookbackPlan$Lot" "offerMonth" "I", Cond.fieldLink RX0 9 "LookbackPlan$Lot" "month" "I", Cond.instanceMethod yX0_gainEach, Cond.selects RX0 yX0_gainEach yX0_gainEach, Cond.code yX0_gainEach cX0_gainEach 3 (some .long), Cond.methodLink RX0 46 yX0_payEach]
def wsL_sell : List Cond := .codeWith yL_sell cL_sell 5 (some .int) [(0, 10, 13, 27), (0, 10, 17, 13), (0, 10, 21, 15)] :: ((wsL_sell_r1 ++ (wsL_sell_r2 ++ wsL_sell_r3)) ++ wsX20 ++ wsX10 ++ wsX00 ++ (vx_atS RX2 34 "java/lang/IllegalArgumentException" ["java/lang/RuntimeException", "java/lang/Exception"]).filter goodWord ++ (vx_atS RX2 41 "java/lang/IllegalStateException" ["java/lang/RuntimeException", "java/lang/Exception"]).filter goodWord ++ (vx_atS RX2 121 "java/lang/IndexOutOfBoundsException" ["java/lang/RuntimeException", "java/lang/Exception"]).filter goodWord)
def wsL_pay : List Cond := .codeWith yL_pay cL_pay 4 (some .int) [(0, 8, 11, 27)] :: ([.classLink RL 27 "java/lang/IndexOutOfBoundsException", .methodLink RL 70 yX2_pay, .instanceMethod yX2_pay, .selects RX2 yX2_pay yX2_pay, .initialized RX2, .code yX2_pay cX2_pay 2 (some .long), .methodLink RX2 63 yX2_memberOrThrow, .instanceMethod yX2_memberOrThrow, .selects RX2 yX2_memberOrThrow yX2_memberOrThrow, .code yX2_memberOrThrow cX2_memberOrThrow 3 (some (.object "LookbackPlan$Member")), .classLink RX2 117 "java/lang/IndexOutOfBoundsException", .initialized "java/lang/IndexOutOfBoundsException", .fieldLink RX2 11 "LookbackPlan" "members" "[LLookbackPlan$Member;"] ++ wsX10 ++ wsX20 ++ (vx_atS RX2 121 "java/lang/IndexOutOfBoundsException" ["java/lang/RuntimeException", "java/lang/Exception"]).filter goodWord)
def wsL_gain : List Cond := .codeWith yL_gain cL_gain 4 (some .int) [(0, 8, 11, 27)] :: ([.classLink RL 27 "java/lang/IndexOutOfBoundsException", .methodLink RL 73 yX2_gain, .instanceMethod yX2_gain, .selects RX2 yX2_gain yX2_gain, .initialized RX2, .code yX2_gain cX2_gain 2 (some .long), .methodLink RX2 63 yX2_memberOrThrow, .instanceMethod yX2_memberOrThrow, .selects RX2 yX2_memberOrThrow yX2_memberOrThrow, .code yX2_memberOrThrow cX2_memberOrThrow 3 (some (.object "LookbackPlan$Member")), .classLink RX2 117 "java/lang/IndexOutOfBoundsException", .initialized "java/lang/IndexOutOfBoundsException", .fieldLink RX2 11 "LookbackPlan" "members" "[LLookbackPlan$Member;"] ++ wsX10 ++ wsX20 ++ (vx_atS RX2 121 "java/lang/IndexOutOfBoundsException" ["java/lang/RuntimeException", "java/lang/Exception"]).filter goodWord)
def wsL_gainNow_r1 : List Cond := [Cond.classLink RL 27 "java/lang/IndexOutOfBoundsException", Cond.methodLink RL 76 yX2_gainNow, Cond.instanceMethod yX2_gainNow, Cond.selects RX2 yX2_gainNow yX2_gainNow, Cond.initialized RX2, Cond.code yX2_gainNow cX2_gainNow 2 (some .long), Cond.fieldLink RX2 19 "LookbackPlan" "month" "I", Cond.fieldLink RX2 22 "LookbackPlan" "priceNow" "I", Cond.methodLink RX2 63 yX2_memberOrThrow, Cond.instanceMethod yX2_memberOrThrow, Cond.selects RX2 yX2_memberOrThrow yX2_memberOrThrow, Cond.code yX2_memberOrThrow cX2_memberOrThrow 3 (some (.object "LookbackPlan$Member")), Cond.classLink RX2 117 "java/lang/IndexOutOfBoundsException", Cond.initialized "java/lang/IndexOutOfBoundsException", Cond.fieldLink RX2 11 "LookbackPlan" "members" "[LLookbackPlan$Member;", Cond.instanceMethod yX1_gainIfAllSold, Cond.initialized RX1, Cond.selects RX1 yX1_gainIfAllSold yX1_gainIfAllSold, Cond.code yX1_gainIfAllSold cX1_gainIfAllSold 7 (some .long), Cond.fieldLink RX1 11 "LookbackPlan$Member" "lots" "[LLookbackPlan$Lot;", Cond.instanceMethod yX0_gainEach, Cond.initialized RX0, Cond.selects RX0 yX0_gainEach yX0_gainEach, Cond.code yX0_gainEach cX0_gainEach 3 (some .long)]
def wsL_gainNow_r2 : List Cond := [Cond.fieldLink RX0 18 "LookbackPlan$Lot" "paidEach" "I", Cond.methodLink RX0 46 yX0_payEach, Cond.instanceMethod yX0_payEach, Cond.selects RX0 yX0_payEach yX0_payEach, Cond.code yX0_payEach cX0_payEach 4 (some .long), Cond.fieldLink RX0 15 "LookbackPlan$Lot" "monthPrice" "I", Cond.fieldLink RX0 24 "LookbackPlan$Lot" "offerPrice" "I", Cond.methodLink RX0 37 Lib.Math.min.name, Cond.static Lib.Math.min.name, Cond.initialized "java/lang/Math", Cond.code Lib.Math.min.name Lib.Math.min.code 2 (some .int), Cond.methodLink RX0 43 Lib.Math.max.name, Cond.static Lib.Math.max.name, Cond.code Lib.Math.max.name Lib.Math.max.code 2 (some .int), Cond.methodLink RX0 33 yX0_isEarly, Cond.instanceMethod yX0_isEarly, Cond.selects RX0 yX0_isEarly yX0_isEarly, Cond.code yX0_isEarly cX0_isEarly 2 (some .boolean), Cond.fieldLink RX0 21 "LookbackPlan$Lot" "offerMonth" "I", Cond.fieldLink RX0 9 "LookbackPlan$Lot" "month" "I"]
def wsL_gainNow : List Cond := .codeWith yL_gainNow cL_gainNow 4 (some .int) [(0, 8, 11, 27)] :: ((wsL_gainNow_r1 ++ wsL_gainNow_r2) ++ wsX20 ++ wsX10 ++ wsX00 ++ (vx_atS RX2 121 "java/lang/IndexOutOfBoundsException" ["java/lang/RuntimeException", "java/lang/Exception"]).filter goodWord)
def wsL_law0_r1 : List Cond := [Cond.classLink RL 8 RX2, Cond.instantiable RX2 5, Cond.initialized RX2, Cond.classLink RL 80 RX3, Cond.instantiable RX3 20, Cond.initialized RX3, Cond.arrayClass .long, Cond.methodLink RL 79 yX2_init, Cond.instanceMethod yX2_init, Cond.code yX2_init cX2_init 1 none, Cond.methodLink RX2 3 objectInit, Cond.instanceMethod objectInit, Cond.code objectInit ⟨#[0xb1]⟩ 1 none, Cond.classLink RX2 9 RX1, Cond.fieldLink RX2 11 "LookbackPlan" "members" "[LLookbackPlan$Member;", Cond.fieldLink RX2 15 "LookbackPlan" "memberCount" "I", Cond.fieldLink RX2 19 "LookbackPlan" "month" "I", Cond.fieldLink RX2 22 "LookbackPlan" "priceNow" "I", Cond.constant RX2 25 (2500000), Cond.fieldLink RX2 26 "LookbackPlan" "ceiling" "I", Cond.methodLink RL 82 yX3_init, Cond.instanceMethod yX3_init, Cond.code yX3_init cX3_init 1 none, Cond.methodLink RX3 1 objectInit]
def wsL_law0_r2 : List Cond := [Cond.fieldLink RX3 9 "LookbackPlanModel" "month" "I", Cond.arrayClass .int, Cond.fieldLink RX3 13 "LookbackPlanModel" "price" "[I", Cond.constant RX3 17 (2500000), Cond.fieldLink RX3 18 "LookbackPlanModel" "ceiling" "I", Cond.fieldLink RX3 21 "LookbackPlanModel" "rate" "[I", Cond.arrayClass .boolean, Cond.fieldLink RX3 24 "LookbackPlanModel" "left" "[Z", Cond.fieldLink RX3 28 "LookbackPlanModel" "money" "[I", Cond.fieldLink RX3 31 "LookbackPlanModel" "back" "[I", Cond.fieldLink RX3 34 "LookbackPlanModel" "spent" "[J", Cond.fieldLink RX3 38 "LookbackPlanModel" "kept" "[J", Cond.fieldLink RX3 41 "LookbackPlanModel" "first" "[I", Cond.fieldLink RX3 44 "LookbackPlanModel" "times" "[I", Cond.fieldLink RX3 47 "LookbackPlanModel" "resets" "[I", Cond.fieldLink RX3 50 "LookbackPlanModel" "pay" "[J", Cond.fieldLink RX3 53 "LookbackPlanModel" "gain" "[J", Cond.fieldLink RX3 56 "LookbackPlanModel" "bought" "[I", Cond.fieldLink RX3 59 "LookbackPlanModel" "had" "[I", Cond.fieldLink RX3 62 "LookbackPlanModel" "paid" "[I", Cond.fieldLink RX3 65 "LookbackPlanModel" "offer" "[I", Cond.methodLink RL 83 yL_next, Cond.static yL_next, Cond.initialized RL]
def wsL_law0_r3 : List Cond := [Cond.codeWith yL_next cL_next 4 (some .int) [(0, 9, 12, 13), (0, 9, 15, 15)], Cond.classLink RL 13 "java/lang/IllegalArgumentException", Cond.classLink RL 15 "java/lang/IllegalStateException", Cond.methodLink RL 7 yX2_next, Cond.instanceMethod yX2_next, Cond.selects RX2 yX2_next yX2_next, Cond.code yX2_next cX2_next 2 (some .int), Cond.classLink RX2 30 "java/lang/IllegalArgumentException", Cond.initialized "java/lang/IllegalArgumentException", Cond.classLink RX2 37 "java/lang/IllegalStateException", Cond.initialized "java/lang/IllegalStateException", Cond.constant RX2 29 (100000), Cond.methodLink RX2 42 yX2_isPurchaseMonth, Cond.static yX2_isPurchaseMonth, Cond.code yX2_isPurchaseMonth cX2_isPurchaseMonth 1 (some .boolean), Cond.methodLink RX2 46 yX2_buyForAll, Cond.instanceMethod yX2_buyForAll, Cond.selects RX2 yX2_buyForAll yX2_buyForAll, Cond.code yX2_buyForAll cX2_buyForAll 3 none, Cond.instanceMethod yX1_buyShares, Cond.initialized RX1, Cond.selects RX1 yX1_buyShares yX1_buyShares, Cond.code yX1_buyShares cX1_buyShares 11 none, Cond.fieldLink RX1 28 "LookbackPlan$Member" "offerPrice" "I"]
def wsL_law0_r4 : List Cond := [Cond.methodLink RX1 45 Lib.Math.min.name, Cond.static Lib.Math.min.name, Cond.initialized "java/lang/Math", Cond.code Lib.Math.min.name Lib.Math.min.code 2 (some .int), Cond.fieldLink RX1 31 "LookbackPlan$Member" "money" "J", Cond.methodLink RX1 63 Lib.MathLoose.min_long.x, Cond.static Lib.MathLoose.min_long.x, Cond.code Lib.MathLoose.min_long.x Lib.MathLoose.min_long.code 4 (some .long), Cond.classLink RX1 9 RX0, Cond.instantiable RX0 7, Cond.initialized RX0, Cond.fieldLink RX1 25 "LookbackPlan$Member" "offerMonth" "I", Cond.fieldLink RX1 76 "LookbackPlan$Member" "spent" "J", Cond.fieldLink RX1 79 "LookbackPlan$Member" "offerPurchases" "I", Cond.methodLink RX1 51 yX1_purchasePrice, Cond.static yX1_purchasePrice, Cond.code yX1_purchasePrice cX1_purchasePrice 1 (some .int), Cond.methodLink RX1 55 yX1_wholeTimes, Cond.static yX1_wholeTimes, Cond.code yX1_wholeTimes cX1_wholeTimes 4 (some .long), Cond.methodLink RX1 59 yX1_countedIn, Cond.instanceMethod yX1_countedIn, Cond.selects RX1 yX1_countedIn yX1_countedIn, Cond.code yX1_countedIn cX1_countedIn 2 (some .long)]
def wsL_law0_r5 : List Cond := [Cond.fieldLink RX1 17 "LookbackPlan$Member" "countedByYear" "[J", Cond.instanceMethod yX0_init, Cond.code yX0_init cX0_init 7 none, Cond.methodLink RX0 3 objectInit, Cond.fieldLink RX0 9 "LookbackPlan$Lot" "month" "I", Cond.fieldLink RX0 15 "LookbackPlan$Lot" "monthPrice" "I", Cond.fieldLink RX0 18 "LookbackPlan$Lot" "paidEach" "I", Cond.fieldLink RX0 21 "LookbackPlan$Lot" "offerMonth" "I", Cond.fieldLink RX0 24 "LookbackPlan$Lot" "offerPrice" "I", Cond.fieldLink RX0 27 "LookbackPlan$Lot" "bought" "I", Cond.fieldLink RX0 30 "LookbackPlan$Lot" "left" "I", Cond.methodLink RX1 68 yX1_putLot, Cond.instanceMethod yX1_putLot, Cond.selects RX1 yX1_putLot yX1_putLot, Cond.code yX1_putLot cX1_putLot 3 none, Cond.fieldLink RX1 11 "LookbackPlan$Member" "lots" "[LLookbackPlan$Lot;", Cond.methodLink RX1 72 yX1_addCounted, Cond.instanceMethod yX1_addCounted, Cond.selects RX1 yX1_addCounted yX1_addCounted, Cond.code yX1_addCounted cX1_addCounted 4 none, Cond.methodLink RX1 82 yX1_renewOffer, Cond.instanceMethod yX1_renewOffer, Cond.selects RX1 yX1_renewOffer yX1_renewOffer, Cond.code yX1_renewOffer cX1_renewOffer 4 none]
def wsL_law0_r6 : List Cond := [Cond.fieldLink RX1 86 "LookbackPlan$Member" "resets" "I", Cond.methodLink RL 88 yX3_next, Cond.instanceMethod yX3_next, Cond.selects RX3 yX3_next yX3_next, Cond.code yX3_next cX3_next 3 (some .int), Cond.constant RX3 82 (100000), Cond.fieldLink RX3 71 "LookbackPlanModel" "members" "I", Cond.methodLink RX3 74 yX3_isIn, Cond.static yX3_isIn, Cond.code yX3_isIn cX3_isIn 3 (some .boolean), Cond.methodLink RX3 83 yX3_mayBoth, Cond.instanceMethod yX3_mayBoth, Cond.selects RX3 yX3_mayBoth yX3_mayBoth, Cond.code yX3_mayBoth cX3_mayBoth 3 (some .boolean), Cond.fieldLink RX3 68 "LookbackPlanModel" "thrown" "I", Cond.methodLink RX3 87 yX3_buy, Cond.instanceMethod yX3_buy, Cond.selects RX3 yX3_buy yX3_buy, Cond.code yX3_buy cX3_buy 11 none, Cond.methodLink RX3 78 yX3_countedIn, Cond.instanceMethod yX3_countedIn, Cond.selects RX3 yX3_countedIn yX3_countedIn, Cond.code yX3_countedIn cX3_countedIn 6 (some .long), Cond.methodLink RL 89 yX3_thrown]
def wsL_law0_r7 : List Cond := [Cond.instanceMethod yX3_thrown, Cond.selects RX3 yX3_thrown yX3_thrown, Cond.code yX3_thrown cX3_thrown 1 (some .int), Cond.methodLink RL 93 yX2_month, Cond.instanceMethod yX2_month, Cond.selects RX2 yX2_month yX2_month, Cond.code yX2_month cX2_month 1 (some .int), Cond.methodLink RL 96 yX3_month, Cond.instanceMethod yX3_month, Cond.selects RX3 yX3_month yX3_month, Cond.code yX3_month cX3_month 1 (some .int), Cond.methodLink RL 97 yL_ceiling, Cond.static yL_ceiling, Cond.codeWith yL_ceiling cL_ceiling 4 (some .int) [(0, 9, 12, 13)], Cond.methodLink RL 17 yX2_ceiling, Cond.instanceMethod yX2_ceiling, Cond.selects RX2 yX2_ceiling yX2_ceiling, Cond.code yX2_ceiling cX2_ceiling 3 (some .int), Cond.constant RX2 49 (10000000), Cond.methodLink RL 99 yX3_ceiling, Cond.instanceMethod yX3_ceiling, Cond.selects RX3 yX3_ceiling yX3_ceiling, Cond.code yX3_ceiling cX3_ceiling 3 (some .int), Cond.constant RX3 91 (10000000)]
def wsL_law0_r8 : List Cond := [Cond.methodLink RX3 92 yX3_may, Cond.instanceMethod yX3_may, Cond.selects RX3 yX3_may yX3_may, Cond.code yX3_may cX3_may 2 (some .boolean), Cond.methodLink RL 100 yL_join, Cond.static yL_join, Cond.codeWith yL_join cL_join 4 (some .int) [(0, 9, 12, 13), (0, 9, 15, 15)], Cond.methodLink RL 20 yX2_join, Cond.instanceMethod yX2_join, Cond.selects RX2 yX2_join yX2_join, Cond.code yX2_join cX2_join 3 (some .int), Cond.instantiable RX1 14, Cond.methodLink RX2 52 yX2_refuseBadRate, Cond.static yX2_refuseBadRate, Cond.code yX2_refuseBadRate cX2_refuseBadRate 1 none, Cond.instanceMethod yX1_init, Cond.code yX1_init cX1_init 4 none, Cond.methodLink RX1 3 objectInit, Cond.fieldLink RX1 21 "LookbackPlan$Member" "rate" "I", Cond.methodLink RL 102 yX3_join, Cond.instanceMethod yX3_join, Cond.selects RX3 yX3_join yX3_join, Cond.code yX3_join cX3_join 2 (some .int), Cond.methodLink RL 103 yL_rate]
def wsL_law0_r9 : List Cond := [Cond.static yL_rate, Cond.codeWith yL_rate cL_rate 5 (some .int) [(0, 10, 13, 27), (0, 10, 17, 13), (0, 10, 21, 15)], Cond.classLink RL 27 "java/lang/IndexOutOfBoundsException", Cond.methodLink RL 23 yX2_rate, Cond.instanceMethod yX2_rate, Cond.selects RX2 yX2_rate yX2_rate, Cond.code yX2_rate cX2_rate 5 (some .int), Cond.methodLink RX2 63 yX2_memberOrThrow, Cond.instanceMethod yX2_memberOrThrow, Cond.selects RX2 yX2_memberOrThrow yX2_memberOrThrow, Cond.code yX2_memberOrThrow cX2_memberOrThrow 3 (some (.object "LookbackPlan$Member")), Cond.classLink RX2 117 "java/lang/IndexOutOfBoundsException", Cond.initialized "java/lang/IndexOutOfBoundsException", Cond.methodLink RX2 67 yX2_refuseLeft, Cond.static yX2_refuseLeft, Cond.code yX2_refuseLeft cX2_refuseLeft 1 none, Cond.methodLink RL 106 yX3_rate, Cond.instanceMethod yX3_rate, Cond.selects RX3 yX3_rate yX3_rate, Cond.code yX3_rate cX3_rate 4 (some .int), Cond.methodLink RX3 96 yX3_isMember, Cond.instanceMethod yX3_isMember, Cond.selects RX3 yX3_isMember yX3_isMember, Cond.code yX3_isMember cX3_isMember 2 (some .boolean)]
def wsL_law0_r10 : List Cond := [Cond.methodLink RX3 100 yX3_isStaying, Cond.instanceMethod yX3_isStaying, Cond.selects RX3 yX3_isStaying yX3_isStaying, Cond.code yX3_isStaying cX3_isStaying 2 (some .boolean), Cond.methodLink RX3 103 yX3_mayAll, Cond.instanceMethod yX3_mayAll, Cond.selects RX3 yX3_mayAll yX3_mayAll, Cond.code yX3_mayAll cX3_mayAll 4 (some .boolean), Cond.methodLink RL 107 yL_slip, Cond.static yL_slip, Cond.codeWith yL_slip cL_slip 5 (some .int) [(0, 10, 13, 27), (0, 10, 17, 13), (0, 10, 21, 15)], Cond.methodLink RL 29 yX2_slip, Cond.instanceMethod yX2_slip, Cond.selects RX2 yX2_slip yX2_slip, Cond.code yX2_slip cX2_slip 4 (some .int), Cond.constant RX2 74 (5000000), Cond.instanceMethod yX1_takeSlip, Cond.selects RX1 yX1_takeSlip yX1_takeSlip, Cond.code yX1_takeSlip cX1_takeSlip 3 (some .int), Cond.fieldLink RX1 35 "LookbackPlan$Member" "keptOfSlips" "J", Cond.methodLink RL 109 yX3_slip, Cond.instanceMethod yX3_slip, Cond.selects RX3 yX3_slip yX3_slip, Cond.code yX3_slip cX3_slip 4 (some .int)]
def wsL_law0_r11 : List Cond := [Cond.constant RX3 107 (5000000), Cond.methodLink RL 110 yL_leave, Cond.static yL_leave, Cond.codeWith yL_leave cL_leave 4 (some .int) [(0, 9, 12, 27), (0, 9, 15, 15)], Cond.methodLink RL 32 yX2_leave, Cond.instanceMethod yX2_leave, Cond.selects RX2 yX2_leave yX2_leave, Cond.code yX2_leave cX2_leave 3 (some .int), Cond.instanceMethod yX1_giveBack, Cond.selects RX1 yX1_giveBack yX1_giveBack, Cond.code yX1_giveBack cX1_giveBack 3 (some .long), Cond.fieldLink RX1 38 "LookbackPlan$Member" "givenBack" "J", Cond.fieldLink RX1 41 "LookbackPlan$Member" "hasLeft" "Z", Cond.methodLink RL 112 yX3_leave, Cond.instanceMethod yX3_leave, Cond.selects RX3 yX3_leave yX3_leave, Cond.code yX3_leave cX3_leave 2 (some .int), Cond.methodLink RL 113 yL_money, Cond.static yL_money, Cond.codeWith yL_money cL_money 4 (some .int) [(0, 9, 12, 27)], Cond.methodLink RL 35 yX2_money, Cond.instanceMethod yX2_money, Cond.selects RX2 yX2_money yX2_money, Cond.code yX2_money cX2_money 2 (some .int)]
def wsL_law0_r12 : List Cond := [Cond.methodLink RL 115 yX3_money, Cond.instanceMethod yX3_money, Cond.selects RX3 yX3_money yX3_money, Cond.code yX3_money cX3_money 2 (some .int), Cond.methodLink RL 116 yL_offerMonth, Cond.static yL_offerMonth, Cond.codeWith yL_offerMonth cL_offerMonth 4 (some .int) [(0, 9, 12, 27)], Cond.methodLink RL 38 yX2_offerMonth, Cond.instanceMethod yX2_offerMonth, Cond.selects RX2 yX2_offerMonth yX2_offerMonth, Cond.code yX2_offerMonth cX2_offerMonth 2 (some .int), Cond.methodLink RL 118 yX3_offerMonth, Cond.instanceMethod yX3_offerMonth, Cond.selects RX3 yX3_offerMonth yX3_offerMonth, Cond.code yX3_offerMonth cX3_offerMonth 2 (some .int), Cond.methodLink RL 119 yL_offerPrice, Cond.static yL_offerPrice, Cond.codeWith yL_offerPrice cL_offerPrice 4 (some .int) [(0, 9, 12, 27)], Cond.methodLink RL 41 yX2_offerPrice, Cond.instanceMethod yX2_offerPrice, Cond.selects RX2 yX2_offerPrice yX2_offerPrice, Cond.code yX2_offerPrice cX2_offerPrice 2 (some .int), Cond.methodLink RL 121 yX3_offerPrice, Cond.instanceMethod yX3_offerPrice]
def wsL_law0_r13 : List Cond := [Cond.selects RX3 yX3_offerPrice yX3_offerPrice, Cond.code yX3_offerPrice cX3_offerPrice 2 (some .int), Cond.methodLink RL 122 yL_resets, Cond.static yL_resets, Cond.codeWith yL_resets cL_resets 4 (some .int) [(0, 9, 12, 27)], Cond.methodLink RL 44 yX2_resets, Cond.instanceMethod yX2_resets, Cond.selects RX2 yX2_resets yX2_resets, Cond.code yX2_resets cX2_resets 2 (some .int), Cond.methodLink RL 124 yX3_resets, Cond.instanceMethod yX3_resets, Cond.selects RX3 yX3_resets yX3_resets, Cond.code yX3_resets cX3_resets 2 (some .int), Cond.methodLink RL 125 yL_shares, Cond.static yL_shares, Cond.codeWith yL_shares cL_shares 4 (some .int) [(0, 9, 12, 27)], Cond.methodLink RL 47 yX2_shares, Cond.instanceMethod yX2_shares, Cond.selects RX2 yX2_shares yX2_shares, Cond.code yX2_shares cX2_shares 2 (some .int), Cond.instanceMethod yX1_sharesHeld, Cond.selects RX1 yX1_sharesHeld yX1_sharesHeld, Cond.code yX1_sharesHeld cX1_sharesHeld 4 (some .int), Cond.methodLink RL 127 yX3_shares]
def wsL_law0_r14 : List Cond := [Cond.instanceMethod yX3_shares, Cond.selects RX3 yX3_shares yX3_shares, Cond.code yX3_shares cX3_shares 2 (some .int), Cond.methodLink RX3 108 yX3_sharesOf, Cond.instanceMethod yX3_sharesOf, Cond.selects RX3 yX3_sharesOf yX3_sharesOf, Cond.code yX3_sharesOf cX3_sharesOf 4 (some .int), Cond.methodLink RL 128 yL_bought, Cond.static yL_bought, Cond.codeWith yL_bought cL_bought 5 (some .int) [(0, 10, 13, 27)], Cond.methodLink RL 50 yX2_bought, Cond.instanceMethod yX2_bought, Cond.selects RX2 yX2_bought yX2_bought, Cond.code yX2_bought cX2_bought 5 (some .int), Cond.methodLink RX2 102 yX2_refuseBadMonth, Cond.static yX2_refuseBadMonth, Cond.code yX2_refuseBadMonth cX2_refuseBadMonth 1 none, Cond.instanceMethod yX1_lotOf, Cond.selects RX1 yX1_lotOf yX1_lotOf, Cond.code yX1_lotOf cX1_lotOf 3 (some (.object "LookbackPlan$Lot")), Cond.methodLink RL 130 yX3_bought, Cond.instanceMethod yX3_bought, Cond.selects RX3 yX3_bought yX3_bought, Cond.code yX3_bought cX3_bought 3 (some .int)]
def wsL_law0_r15 : List Cond := [Cond.methodLink RL 131 yL_paidEach, Cond.static yL_paidEach, Cond.codeWith yL_paidEach cL_paidEach 5 (some .int) [(0, 10, 13, 27)], Cond.methodLink RL 53 yX2_paidEach, Cond.instanceMethod yX2_paidEach, Cond.selects RX2 yX2_paidEach yX2_paidEach, Cond.code yX2_paidEach cX2_paidEach 5 (some .int), Cond.methodLink RL 133 yX3_paidEach, Cond.instanceMethod yX3_paidEach, Cond.selects RX3 yX3_paidEach yX3_paidEach, Cond.code yX3_paidEach cX3_paidEach 3 (some .int), Cond.methodLink RL 134 yL_counted, Cond.static yL_counted, Cond.codeWith yL_counted cL_counted 5 (some .int) [(0, 9, 12, 27)], Cond.methodLink RL 56 yX2_counted, Cond.instanceMethod yX2_counted, Cond.selects RX2 yX2_counted yX2_counted, Cond.code yX2_counted cX2_counted 4 (some .long), Cond.methodLink RL 136 yX3_counted, Cond.instanceMethod yX3_counted, Cond.selects RX3 yX3_counted yX3_counted, Cond.code yX3_counted cX3_counted 3 (some .long), Cond.methodLink RL 137 yL_traced, Cond.static yL_traced]
def wsL_law0_r16 : List Cond := [Cond.codeWith yL_traced cL_traced 4 (some .int) [(0, 8, 11, 27)], Cond.methodLink RL 60 yX2_traced, Cond.instanceMethod yX2_traced, Cond.selects RX2 yX2_traced yX2_traced, Cond.code yX2_traced cX2_traced 3 (some .long), Cond.methodLink RL 139 yX3_traced, Cond.instanceMethod yX3_traced, Cond.selects RX3 yX3_traced yX3_traced, Cond.code yX3_traced cX3_traced 2 (some .long), Cond.methodLink RL 140 yL_kept, Cond.static yL_kept, Cond.codeWith yL_kept cL_kept 4 (some .int) [(0, 8, 11, 27)], Cond.methodLink RL 64 yX2_kept, Cond.instanceMethod yX2_kept, Cond.selects RX2 yX2_kept yX2_kept, Cond.code yX2_kept cX2_kept 2 (some .long), Cond.methodLink RL 142 yX3_kept, Cond.instanceMethod yX3_kept, Cond.selects RX3 yX3_kept yX3_kept, Cond.code yX3_kept cX3_kept 2 (some .long), Cond.methodLink RL 143 yL_sell, Cond.static yL_sell, Cond.codeWith yL_sell cL_sell 5 (some .int) [(0, 10, 13, 27), (0, 10, 17, 13), (0, 10, 21, 15)], Cond.methodLink RL 67 yX2_sell]
def wsL_law0_r17 : List Cond := [Cond.instanceMethod yX2_sell, Cond.selects RX2 yX2_sell yX2_sell, Cond.code yX2_sell cX2_sell 4 (some .int), Cond.constant RX2 135 (1000000), Cond.instanceMethod yX1_sellOldest, Cond.selects RX1 yX1_sellOldest yX1_sellOldest, Cond.code yX1_sellOldest cX1_sellOldest 9 (some .int), Cond.fieldLink RX1 99 "LookbackPlan$Member" "payOfSales" "J", Cond.fieldLink RX1 106 "LookbackPlan$Member" "gainOfSales" "J", Cond.instanceMethod yX0_payEach, Cond.selects RX0 yX0_payEach yX0_payEach, Cond.code yX0_payEach cX0_payEach 4 (some .long), Cond.methodLink RX0 37 Lib.Math.min.name, Cond.methodLink RX0 43 Lib.Math.max.name, Cond.static Lib.Math.max.name, Cond.code Lib.Math.max.name Lib.Math.max.code 2 (some .int), Cond.methodLink RX0 33 yX0_isEarly, Cond.instanceMethod yX0_isEarly, Cond.selects RX0 yX0_isEarly yX0_isEarly, Cond.code yX0_isEarly cX0_isEarly 2 (some .boolean), Cond.instanceMethod yX0_gainEach, Cond.selects RX0 yX0_gainEach yX0_gainEach, Cond.code yX0_gainEach cX0_gainEach 3 (some .long), Cond.methodLink RX0 46 yX0_payEach]
def wsL_law0_r18 : List Cond := [Cond.methodLink RL 145 yX3_sell, Cond.instanceMethod yX3_sell, Cond.selects RX3 yX3_sell yX3_sell, Cond.code yX3_sell cX3_sell 8 (some .int), Cond.constant RX3 118 (1000000), Cond.methodLink RX3 115 yX3_payOf, Cond.instanceMethod yX3_payOf, Cond.selects RX3 yX3_payOf yX3_payOf, Cond.code yX3_payOf cX3_payOf 5 (some .int), Cond.methodLink RX3 112 yX3_isEarly, Cond.instanceMethod yX3_isEarly, Cond.selects RX3 yX3_isEarly yX3_isEarly, Cond.code yX3_isEarly cX3_isEarly 2 (some .boolean), Cond.methodLink RX3 119 yX3_gainOf, Cond.instanceMethod yX3_gainOf, Cond.selects RX3 yX3_gainOf yX3_gainOf, Cond.code yX3_gainOf cX3_gainOf 3 (some .long), Cond.methodLink RL 146 yL_pay, Cond.static yL_pay, Cond.codeWith yL_pay cL_pay 4 (some .int) [(0, 8, 11, 27)], Cond.methodLink RL 70 yX2_pay, Cond.instanceMethod yX2_pay, Cond.selects RX2 yX2_pay yX2_pay, Cond.code yX2_pay cX2_pay 2 (some .long)]
def wsL_law0_r19 : List Cond := [Cond.methodLink RL 148 yX3_pay, Cond.instanceMethod yX3_pay, Cond.selects RX3 yX3_pay yX3_pay, Cond.code yX3_pay cX3_pay 2 (some .long), Cond.methodLink RL 149 yL_gain, Cond.static yL_gain, Cond.codeWith yL_gain cL_gain 4 (some .int) [(0, 8, 11, 27)], Cond.methodLink RL 73 yX2_gain, Cond.instanceMethod yX2_gain, Cond.selects RX2 yX2_gain yX2_gain, Cond.code yX2_gain cX2_gain 2 (some .long), Cond.methodLink RL 151 yX3_gain, Cond.instanceMethod yX3_gain, Cond.selects RX3 yX3_gain yX3_gain, Cond.code yX3_gain cX3_gain 2 (some .long), Cond.methodLink RL 152 yL_gainNow, Cond.static yL_gainNow, Cond.codeWith yL_gainNow cL_gainNow 4 (some .int) [(0, 8, 11, 27)], Cond.methodLink RL 76 yX2_gainNow, Cond.instanceMethod yX2_gainNow, Cond.selects RX2 yX2_gainNow yX2_gainNow, Cond.code yX2_gainNow cX2_gainNow 2 (some .long), Cond.instanceMethod yX1_gainIfAllSold, Cond.selects RX1 yX1_gainIfAllSold yX1_gainIfAllSold]
def wsL_law0_r20 : List Cond := [Cond.code yX1_gainIfAllSold cX1_gainIfAllSold 7 (some .long), Cond.methodLink RL 154 yX3_gainNow, Cond.instanceMethod yX3_gainNow, Cond.selects RX3 yX3_gainNow yX3_gainNow, Cond.code yX3_gainNow cX3_gainNow 5 (some .long)]
def wsL_law0 : List Cond := (wsL_law0_r1 ++ (wsL_law0_r2 ++ (wsL_law0_r3 ++ (wsL_law0_r4 ++ (wsL_law0_r5 ++ (wsL_law0_r6 ++ (wsL_law0_r7 ++ (wsL_law0_r8 ++ (wsL_law0_r9 ++ (wsL_law0_r10 ++ (wsL_law0_r11 ++ (wsL_law0_r12 ++ (wsL_law0_r13 ++ (wsL_law0_r14 ++ (wsL_law0_r15 ++ (wsL_law0_r16 ++ (wsL_law0_r17 ++ (wsL_law0_r18 ++ (wsL_law0_r19 ++ wsL_law0_r20))))))))))))))))))) ++ wsX20 ++ wsX30 ++ wsX10 ++ wsX00 ++ ([] : List Cond)
def wsL_law : List Cond := wsL_law0 ++ (vx_atS RX2 34 "java/lang/IllegalArgumentException" ["java/lang/RuntimeException", "java/lang/Exception"]).filter goodWord ++ (vx_atS RX2 41 "java/lang/IllegalStateException" ["java/lang/RuntimeException", "java/lang/Exception"]).filter goodWord ++ (vx_atS RX2 121 "java/lang/IndexOutOfBoundsException" ["java/lang/RuntimeException", "java/lang/Exception"]).filter goodWord
end
section
set_option maxRecDepth 20000 in
theorem wsL_law_in0_1 : ∀ w ∈ wsL_law0_r1, w ∈ lw_tbl := fun w h => (goodIn_p wsL_law0_r1 [44, 47, 521] (by decide +kernel) (by decide +kernel) w h).1
set_option maxRecDepth 20000 in
theorem wsL_law_in0_2 : ∀ w ∈ wsL_law0_r2, w ∈ lw_tbl := fun w h => (goodIn_p wsL_law0_r2 [] (by decide +kernel) (by decide +kernel) w h).1
set_option maxRecDepth 20000 in
theorem wsL_law_in0_3 : ∀ w ∈ wsL_law0_r3, w ∈ lw_tbl := fun w h => (goodIn_p wsL_law0_r3 [79, 167, 171, 176] (by decide +kernel) (by decide +kernel) w h).1
set_option maxRecDepth 20000 in
theorem wsL_law_in0_4 : ∀ w ∈ wsL_law0_r4, w ∈ lw_tbl := fun w h => (goodIn_p wsL_law0_r4 [179, 192, 182, 185, 189] (by decide +kernel) (by decide +kernel) w h).1
set_option maxRecDepth 20000 in
theorem wsL_law_in0_5 : ∀ w ∈ wsL_law0_r5, w ∈ lw_tbl := fun w h => (goodIn_p wsL_law0_r5 [197, 228, 232, 236] (by decide +kernel) (by decide +kernel) w h).1
set_option maxRecDepth 20000 in
theorem wsL_law_in0_6 : ∀ w ∈ wsL_law0_r6, w ∈ lw_tbl := fun w h => (goodIn_p wsL_law0_r6 [594, 598, 602, 606, 610] (by decide +kernel) (by decide +kernel) w h).1
set_option maxRecDepth 20000 in
theorem wsL_law_in0_7 : ∀ w ∈ wsL_law0_r7, w ∈ lw_tbl := fun w h => (goodIn_p wsL_law0_r7 [590, 70, 614, 243, 618] (by decide +kernel) (by decide +kernel) w h).1
set_option maxRecDepth 20000 in
theorem wsL_law_in0_8 : ∀ w ∈ wsL_law0_r8, w ∈ lw_tbl := fun w h => (goodIn_p wsL_law0_r8 [623, 252, 255, 261, 627] (by decide +kernel) (by decide +kernel) w h).1
set_option maxRecDepth 20000 in
theorem wsL_law_in0_9 : ∀ w ∈ wsL_law0_r9, w ∈ lw_tbl := fun w h => (goodIn_p wsL_law0_r9 [326, 330, 349, 631, 635] (by decide +kernel) (by decide +kernel) w h).1
set_option maxRecDepth 20000 in
theorem wsL_law_in0_10 : ∀ w ∈ wsL_law0_r10, w ∈ lw_tbl := fun w h => (goodIn_p wsL_law0_r10 [639, 643, 357, 363, 647] (by decide +kernel) (by decide +kernel) w h).1
end
section
set_option maxRecDepth 20000 in
theorem wsL_law_in0_11 : ∀ w ∈ wsL_law0_r11, w ∈ lw_tbl := fun w h => (goodIn_p wsL_law0_r11 [370, 374, 652, 381] (by decide +kernel) (by decide +kernel) w h).1
set_option maxRecDepth 20000 in
theorem wsL_law_in0_12 : ∀ w ∈ wsL_law0_r12, w ∈ lw_tbl := fun w h => (goodIn_p wsL_law0_r12 [656, 388, 660, 395] (by decide +kernel) (by decide +kernel) w h).1
set_option maxRecDepth 20000 in
theorem wsL_law_in0_13 : ∀ w ∈ wsL_law0_r13, w ∈ lw_tbl := fun w h => (goodIn_p wsL_law0_r13 [664, 402, 668, 409, 413] (by decide +kernel) (by decide +kernel) w h).1
set_option maxRecDepth 20000 in
theorem wsL_law_in0_14 : ∀ w ∈ wsL_law0_r14, w ∈ lw_tbl := fun w h => (goodIn_p wsL_law0_r14 [672, 676, 420, 423, 428, 680] (by decide +kernel) (by decide +kernel) w h).1
set_option maxRecDepth 20000 in
theorem wsL_law_in0_15 : ∀ w ∈ wsL_law0_r15, w ∈ lw_tbl := fun w h => (goodIn_p wsL_law0_r15 [436, 684, 443, 688] (by decide +kernel) (by decide +kernel) w h).1
set_option maxRecDepth 20000 in
theorem wsL_law_in0_16 : ∀ w ∈ wsL_law0_r16, w ∈ lw_tbl := fun w h => (goodIn_p wsL_law0_r16 [452, 692, 459, 696] (by decide +kernel) (by decide +kernel) w h).1
set_option maxRecDepth 20000 in
theorem wsL_law_in0_17 : ∀ w ∈ wsL_law0_r17, w ∈ lw_tbl := fun w h => (goodIn_p wsL_law0_r17 [466, 473, 477, 485, 481, 489] (by decide +kernel) (by decide +kernel) w h).1
set_option maxRecDepth 20000 in
theorem wsL_law_in0_18 : ∀ w ∈ wsL_law0_r18, w ∈ lw_tbl := fun w h => (goodIn_p wsL_law0_r18 [700, 705, 709, 713, 498] (by decide +kernel) (by decide +kernel) w h).1
set_option maxRecDepth 20000 in
theorem wsL_law_in0_19 : ∀ w ∈ wsL_law0_r19, w ∈ lw_tbl := fun w h => (goodIn_p wsL_law0_r19 [717, 505, 721, 512] (by decide +kernel) (by decide +kernel) w h).1
set_option maxRecDepth 20000 in
theorem wsL_law_in0_20 : ∀ w ∈ wsL_law0_r20, w ∈ lw_tbl := fun w h => (goodIn_p wsL_law0_r20 [516, 725] (by decide +kernel) (by decide +kernel) w h).1
end
section
theorem wsL_law_iwsX20 : ∀ w ∈ wsX20, w ∈ lw_tbl := by decide +kernel
theorem wsL_law_iwsX30 : ∀ w ∈ wsX30, w ∈ lw_tbl := by decide +kernel
theorem wsL_law_iwsX10 : ∀ w ∈ wsX10, w ∈ lw_tbl := by decide +kernel
theorem wsL_law_iwsX00 : ∀ w ∈ wsX00, w ∈ lw_tbl := by decide +kernel
theorem wsL_law_in0 : ∀ w ∈ wsL_law0, w ∈ lw_tbl := fun w => (fun h => (List.mem_append.mp h).elim (fun h => (List.mem_append.mp h).elim (fun h => (List.mem_append.mp h).elim (fun h => (List.mem_append.mp h).elim (fun h => (List.mem_append.mp h).elim (fun h => (List.mem_append.mp h).elim (wsL_law_in0_1 w) (fun h => (List.mem_append.mp h).elim (wsL_law_in0_2 w) (fun h => (List.mem_append.mp h).elim (wsL_law_in0_3 w) (fun h => (List.mem_append.mp h).elim (wsL_law_in0_4 w) (fun h => (List.mem_append.mp h).elim (wsL_law_in0_5 w) (fun h => (List.mem_append.mp h).elim (wsL_law_in0_6 w) (fun h => (List.mem_append.mp h).elim (wsL_law_in0_7 w) (fun h => (List.mem_append.mp h).elim (wsL_law_in0_8 w) (fun h => (List.mem_append.mp h).elim (wsL_law_in0_9 w) (fun h => (List.mem_append.mp h).elim (wsL_law_in0_10 w) (fun h => (List.mem_append.mp h).elim (wsL_law_in0_11 w) (fun h => (List.mem_append.mp h).elim (wsL_law_in0_12 w) (fun h => (List.mem_append.mp h).elim (wsL_law_in0_13 w) (fun h => (List.mem_append.mp h).elim (wsL_law_in0_14 w) (fun h => (List.mem_append.mp h).elim (wsL_law_in0_15 w) (fun h => (List.mem_append.mp h).elim (wsL_law_in0_16 w) (fun h => (List.mem_append.mp h).elim (wsL_law_in0_17 w) (fun h => (List.mem_append.mp h).elim (wsL_law_in0_18 w) (fun h => (List.mem_append.mp h).elim (wsL_law_in0_19 w) (wsL_law_in0_20 w)))))))))))))))))))) (wsL_law_iwsX20 w)) (wsL_law_iwsX30 w)) (wsL_law_iwsX10 w)) (wsL_law_iwsX00 w)) (fun h => absurd h List.not_mem_nil))
theorem wsL_law_x0 : ∀ w ∈ (vx_atS RX2 34 "java/lang/IllegalArgumentException" ["java/lang/RuntimeException", "java/lang/Exception"]).filter goodWord, w ∈ lw_tbl := by decide +kernel
theorem wsL_law_x1 : ∀ w ∈ (vx_atS RX2 41 "java/lang/IllegalStateException" ["java/lang/RuntimeException", "java/lang/Exception"]).filter goodWord, w ∈ lw_tbl := by decide +kernel
theorem wsL_law_x2 : ∀ w ∈ (vx_atS RX2 121 "java/lang/IndexOutOfBoundsException" ["java/lang/RuntimeException", "java/lang/Exception"]).filter goodWord, w ∈ lw_tbl := by decide +kernel
theorem wsL_law_in : ∀ w ∈ wsL_law, w ∈ lw_tbl := fun w h => (List.mem_append.mp h).elim (fun h => (List.mem_append.mp h).elim (fun h => (List.mem_append.mp h).elim (fun h => wsL_law_in0 w h) (fun h => wsL_law_x0 w h)) (fun h => wsL_law_x1 w h)) (fun h => wsL_law_x2 w h)
theorem inlX0 : ∀ w ∈ wsX00, w ∈ wsL_law := fun _ h => List.mem_append_left _ (List.mem_append_left _ (List.mem_append_left _ (List.mem_append_left _ (List.mem_append_right _ h))))
theorem inX0 : ∀ w ∈ wsX00, w ∈ lw_tbl := fun w h => wsL_law_in w (inlX0 w h)
theorem inlX1 : ∀ w ∈ wsX10, w ∈ wsL_law := fun _ h => List.mem_append_left _ (List.mem_append_left _ (List.mem_append_left _ (List.mem_append_left _ (List.mem_append_left _ (List.mem_append_right _ h)))))
theorem inX1 : ∀ w ∈ wsX10, w ∈ lw_tbl := fun w h => wsL_law_in w (inlX1 w h)
theorem inlX2 : ∀ w ∈ wsX20, w ∈ wsL_law := fun _ h => List.mem_append_left _ (List.mem_append_left _ (List.mem_append_left _ (List.mem_append_left _ (List.mem_append_left _ (List.mem_append_left _ (List.mem_append_left _ (List.mem_append_right _ h)))))))
theorem inX2 : ∀ w ∈ wsX20, w ∈ lw_tbl := fun w h => wsL_law_in w (inlX2 w h)
theorem inlX3 : ∀ w ∈ wsX30, w ∈ wsL_law := fun _ h => List.mem_append_left _ (List.mem_append_left _ (List.mem_append_left _ (List.mem_append_left _ (List.mem_append_left _ (List.mem_append_left _ (List.mem_append_right _ h))))))
theorem inX3 : ∀ w ∈ wsX30, w ∈ lw_tbl := fun w h => wsL_law_in w (inlX3 w h)
theorem inJ9 : ∀ w ∈ wsJ90, w ∈ lw_tbl := by decide +kernel
theorem inJ0 : ∀ w ∈ wsJ00, w ∈ lw_tbl := by decide +kernel
abbrev vwCl : List vw_C := [(RX0, TX0, 7), (RX1, TX1, 14), (RX2, TX2, 5), (RX3, TX3, 20)]
end
section
set_option maxRecDepth 20000 in
theorem ggX0_payEach_X0_isEarly : GoodIn wsX0_payEach wsX0_isEarly := goodIn_r _ [15, 16, 17, 18, 19, 20, 21, 22, 23, 24] (by decide +kernel) (by decide +kernel)
set_option maxRecDepth 20000 in
theorem gX0_payEach_X0_isEarly : GoodIn wsX0_payEach (wsV RX0 33 RX0 yX0_isEarly wsX0_isEarly) := goodIn_app (goodIn_of _ (by decide +kernel)) ggX0_payEach_X0_isEarly
set_option maxRecDepth 20000 in
theorem ggX0_gainEach_X0_payEach : GoodIn wsX0_gainEach wsX0_payEach := goodIn_r _ [6, 7, 1, 8, 9, 10, 11, 12, 13, 14, 15, 16, 17, 18, 5, 19, 20, 21, 22, 23, 24, 25, 26, 27, 28] (by decide +kernel) (by decide +kernel)
set_option maxRecDepth 20000 in
theorem gX0_gainEach_X0_payEach : GoodIn wsX0_gainEach (wsV RX0 46 RX0 yX0_payEach wsX0_payEach) := goodIn_app (goodIn_of _ (by decide +kernel)) ggX0_gainEach_X0_payEach
set_option maxRecDepth 20000 in
theorem ggX1_buyShares_X1_purchasePrice : GoodIn wsX1_buyShares wsX1_purchasePrice := goodIn_r _ [19] (by decide +kernel) (by decide +kernel)
set_option maxRecDepth 20000 in
theorem gX1_buyShares_X1_purchasePrice : GoodIn wsX1_buyShares (va_wsS RX1 51 yX1_purchasePrice wsX1_purchasePrice) := goodIn_app (goodIn_of _ (by decide +kernel)) ggX1_buyShares_X1_purchasePrice
set_option maxRecDepth 20000 in
theorem ggX1_buyShares_X1_wholeTimes : GoodIn wsX1_buyShares wsX1_wholeTimes := goodIn_r _ [22] (by decide +kernel) (by decide +kernel)
set_option maxRecDepth 20000 in
theorem gX1_buyShares_X1_wholeTimes : GoodIn wsX1_buyShares (va_wsS RX1 55 yX1_wholeTimes wsX1_wholeTimes) := goodIn_app (goodIn_of _ (by decide +kernel)) ggX1_buyShares_X1_wholeTimes
set_option maxRecDepth 20000 in
theorem ggX1_buyShares_X1_countedIn : GoodIn wsX1_buyShares wsX1_countedIn := goodIn_r _ [26, 27, 54, 55, 56, 57, 58, 59, 60, 61, 62, 63, 64, 65, 66, 67] (by decide +kernel) (by decide +kernel)
set_option maxRecDepth 20000 in
theorem gX1_buyShares_X1_countedIn : GoodIn wsX1_buyShares (wsV RX1 59 RX1 yX1_countedIn wsX1_countedIn) := goodIn_app (goodIn_of _ (by decide +kernel)) ggX1_buyShares_X1_countedIn
set_option maxRecDepth 20000 in
theorem ggX1_buyShares_X0_init : GoodIn wsX1_buyShares wsX0_init := goodIn_r _ [29, 30, 31, 32, 33, 34, 35, 36, 37, 38, 39, 68, 69, 70, 71, 72, 73, 74] (by decide +kernel) (by decide +kernel)
set_option maxRecDepth 20000 in
theorem gX1_buyShares_X0_init_n65 : GoodIn wsX1_buyShares (wsX0_init) := ggX1_buyShares_X0_init
set_option maxRecDepth 20000 in
theorem ggX1_buyShares_X1_putLot : GoodIn wsX1_buyShares wsX1_putLot := goodIn_r _ [43, 44, 68, 69, 70, 71, 72, 73, 74, 54, 55, 56, 57, 58, 59, 60, 61, 62, 63, 64, 65, 66, 67] (by decide +kernel) (by decide +kernel)
set_option maxRecDepth 20000 in
theorem gX1_buyShares_X1_putLot : GoodIn wsX1_buyShares (wsV RX1 68 RX1 yX1_putLot wsX1_putLot) := goodIn_app (goodIn_of _ (by decide +kernel)) ggX1_buyShares_X1_putLot
set_option maxRecDepth 20000 in
theorem ggX1_buyShares_X1_addCounted : GoodIn wsX1_buyShares wsX1_addCounted := goodIn_r _ [48, 27, 54, 55, 56, 57, 58, 59, 60, 61, 62, 63, 64, 65, 66, 67] (by decide +kernel) (by decide +kernel)
set_option maxRecDepth 20000 in
theorem gX1_buyShares_X1_addCounted : GoodIn wsX1_buyShares (wsV RX1 72 RX1 yX1_addCounted wsX1_addCounted) := goodIn_app (goodIn_of _ (by decide +kernel)) ggX1_buyShares_X1_addCounted
set_option maxRecDepth 20000 in
theorem ggX1_buyShares_X1_renewOffer : GoodIn wsX1_buyShares wsX1_renewOffer := goodIn_r _ [52, 1, 53, 15, 13, 54, 55, 56, 57, 58, 59, 60, 61, 62, 63, 64, 65, 66, 67] (by decide +kernel) (by decide +kernel)
set_option maxRecDepth 20000 in
theorem gX1_buyShares_X1_renewOffer : GoodIn wsX1_buyShares (wsV RX1 82 RX1 yX1_renewOffer wsX1_renewOffer) := goodIn_app (goodIn_of _ (by decide +kernel)) ggX1_buyShares_X1_renewOffer
set_option maxRecDepth 20000 in
theorem ggX1_lotOf_X2_isPurchaseMonth : GoodIn wsX1_lotOf wsX2_isPurchaseMonth := goodIn_r _ [4] (by decide +kernel) (by decide +kernel)
set_option maxRecDepth 20000 in
theorem gX1_lotOf_X2_isPurchaseMonth_n89 : GoodIn wsX1_lotOf (wsX2_isPurchaseMonth) := ggX1_lotOf_X2_isPurchaseMonth
set_option maxRecDepth 20000 in
theorem ggX1_sellOldest_X0_payEach : GoodIn wsX1_sellOldest wsX0_payEach := goodIn_r _ [11, 12, 13, 14, 15, 3, 4, 5, 16, 17, 18, 19, 20, 21, 9, 22, 23, 24, 43, 44, 45, 46, 47, 48, 49] (by decide +kernel) (by decide +kernel)
set_option maxRecDepth 20000 in
theorem gX1_sellOldest_X0_payEach_n102 : GoodIn wsX1_sellOldest (wsX0_payEach) := ggX1_sellOldest_X0_payEach
set_option maxRecDepth 20000 in
theorem ggX1_sellOldest_X0_gainEach : GoodIn wsX1_sellOldest wsX0_gainEach := goodIn_r _ [27, 13, 28, 8, 10, 9, 11, 12, 14, 15, 3, 4, 5, 16, 17, 18, 19, 20, 21, 22, 23, 24, 43, 44, 45, 46, 47, 48, 49] (by decide +kernel) (by decide +kernel)
set_option maxRecDepth 20000 in
theorem gX1_sellOldest_X0_gainEach_n109 : GoodIn wsX1_sellOldest (wsX0_gainEach) := ggX1_sellOldest_X0_gainEach
set_option maxRecDepth 20000 in
theorem ggX1_sellOldest_X0_isEarly : GoodIn wsX1_sellOldest wsX0_isEarly := goodIn_r _ [22, 23, 24, 43, 44, 45, 46, 47, 48, 49] (by decide +kernel) (by decide +kernel)
set_option maxRecDepth 20000 in
theorem gX1_sellOldest_X0_isEarly_n112 : GoodIn wsX1_sellOldest (wsX0_isEarly) := ggX1_sellOldest_X0_isEarly
set_option maxRecDepth 20000 in
theorem ggX1_gainIfAllSold_X0_gainEach : GoodIn wsX1_gainIfAllSold wsX0_gainEach := goodIn_r _ [5, 6, 7, 8, 9, 3, 10, 11, 12, 13, 14, 15, 16, 17, 18, 19, 20, 21, 22, 23, 24, 25, 40, 41, 42, 43, 44, 45, 46] (by decide +kernel) (by decide +kernel)
set_option maxRecDepth 20000 in
theorem gX1_gainIfAllSold_X0_gainEach_n109 : GoodIn wsX1_gainIfAllSold (wsX0_gainEach) := ggX1_gainIfAllSold_X0_gainEach
set_option maxRecDepth 20000 in
theorem ggX2_next_X2_isPurchaseMonth : GoodIn wsX2_next wsX2_isPurchaseMonth := goodIn_r _ [11] (by decide +kernel) (by decide +kernel)
set_option maxRecDepth 20000 in
theorem gX2_next_X2_isPurchaseMonth : GoodIn wsX2_next (va_wsS RX2 42 yX2_isPurchaseMonth wsX2_isPurchaseMonth) := goodIn_app (goodIn_of _ (by decide +kernel)) ggX2_next_X2_isPurchaseMonth
set_option maxRecDepth 20000 in
theorem ggX2_next_X2_buyForAll : GoodIn wsX2_next wsX2_buyForAll := goodIn_r _ [15, 16, 6, 7, 17, 18, 19, 20, 21, 22, 23, 24, 25, 26, 27, 28, 29, 30, 31, 32, 33, 34, 35, 36, 37, 38, 39, 40, 41, 42, 43, 44, 45, 46, 47, 48, 49, 50, 51, 52, 53, 54, 55, 56, 57, 58, 59, 60, 61, 62, 63, 64, 65, 66, 67, 68, 69, 70, 71, 72, 73, 74, 75, 76, 77, 78, 79, 80, 81, 82, 83, 84, 85, 86, 87, 88, 89, 90, 91, 92, 93, 94, 95, 96, 97, 98, 99] (by decide +kernel) (by decide +kernel)
set_option maxRecDepth 20000 in
theorem gX2_next_X2_buyForAll : GoodIn wsX2_next (wsV RX2 46 RX2 yX2_buyForAll wsX2_buyForAll) := goodIn_app (goodIn_of _ (by decide +kernel)) ggX2_next_X2_buyForAll
set_option maxRecDepth 20000 in
theorem ggX2_join_X2_refuseBadRate : GoodIn wsX2_join wsX2_refuseBadRate := goodIn_ca (goodIn_r _ [13, 14, 15] (by decide +kernel) (by decide +kernel)) (goodIn_sub (fun _ h => List.mem_cons_of_mem _ (List.mem_append_right _ h)) (by decide +kernel))
set_option maxRecDepth 20000 in
theorem gX2_join_X2_refuseBadRate : GoodIn wsX2_join (va_wsS RX2 52 yX2_refuseBadRate wsX2_refuseBadRate) := goodIn_app (goodIn_of _ (by decide +kernel)) ggX2_join_X2_refuseBadRate
set_option maxRecDepth 20000 in
theorem ggX2_join_X1_init : GoodIn wsX2_join wsX1_init := goodIn_r _ [17, 18, 19, 20, 21, 22, 23, 24, 25, 26, 27, 33, 34, 35, 36, 37, 38, 39, 40, 41, 42, 43, 44, 45, 46] (by decide +kernel) (by decide +kernel)
set_option maxRecDepth 20000 in
theorem gX2_join_X1_init_n60 : GoodIn wsX2_join (wsX1_init) := ggX2_join_X1_init
set_option maxRecDepth 20000 in
theorem ggX2_rate_X2_memberOrThrow : GoodIn wsX2_rate wsX2_memberOrThrow := goodIn_ca (goodIn_r _ [5, 6, 7, 8, 33, 34, 35, 36, 37] (by decide +kernel) (by decide +kernel)) (goodIn_sub (fun _ h => List.mem_cons_of_mem _ (List.mem_append_left _ (List.mem_append_left _ (List.mem_append_right _ h)))) (by decide +kernel))
set_option maxRecDepth 20000 in
theorem gX2_rate_X2_memberOrThrow : GoodIn wsX2_rate (wsV RX2 63 RX2 yX2_memberOrThrow wsX2_memberOrThrow) := goodIn_app (goodIn_of _ (by decide +kernel)) ggX2_rate_X2_memberOrThrow
set_option maxRecDepth 20000 in
theorem ggX2_rate_X2_refuseBadRate : GoodIn wsX2_rate wsX2_refuseBadRate := goodIn_ca (goodIn_r _ [11, 12, 13] (by decide +kernel) (by decide +kernel)) (goodIn_sub (fun _ h => List.mem_cons_of_mem _ (List.mem_append_left _ (List.mem_append_right _ h))) (by decide +kernel))
set_option maxRecDepth 20000 in
theorem gX2_rate_X2_refuseBadRate : GoodIn wsX2_rate (va_wsS RX2 52 yX2_refuseBadRate wsX2_refuseBadRate) := goodIn_app (goodIn_of _ (by decide +kernel)) ggX2_rate_X2_refuseBadRate
set_option maxRecDepth 20000 in
theorem ggX2_rate_X2_refuseLeft : GoodIn wsX2_rate wsX2_refuseLeft := goodIn_ca (goodIn_r _ [16, 17, 18, 19, 20, 21, 22, 23, 24, 25, 26, 27, 28, 29, 30, 31, 32] (by decide +kernel) (by decide +kernel)) (goodIn_sub (fun _ h => List.mem_cons_of_mem _ (List.mem_append_right _ h)) (by decide +kernel))
set_option maxRecDepth 20000 in
theorem gX2_rate_X2_refuseLeft : GoodIn wsX2_rate (va_wsS RX2 67 yX2_refuseLeft wsX2_refuseLeft) := goodIn_app (goodIn_of _ (by decide +kernel)) ggX2_rate_X2_refuseLeft
set_option maxRecDepth 20000 in
theorem ggX2_slip_X2_memberOrThrow : GoodIn wsX2_slip wsX2_memberOrThrow := goodIn_ca (goodIn_r _ [8, 9, 10, 11, 24, 25, 26, 27, 28] (by decide +kernel) (by decide +kernel)) (goodIn_sub (fun _ h => List.mem_cons_of_mem _ (List.mem_append_left _ (List.mem_append_right _ h))) (by decide +kernel))
set_option maxRecDepth 20000 in
theorem gX2_slip_X2_memberOrThrow : GoodIn wsX2_slip (wsV RX2 63 RX2 yX2_memberOrThrow wsX2_memberOrThrow) := goodIn_app (goodIn_of _ (by decide +kernel)) ggX2_slip_X2_memberOrThrow
set_option maxRecDepth 20000 in
theorem ggX2_slip_X2_refuseLeft : GoodIn wsX2_slip wsX2_refuseLeft := goodIn_ca (goodIn_r _ [14, 15, 16, 29, 30, 31, 32, 33, 34, 35, 36, 37, 38, 39, 40, 41, 42] (by decide +kernel) (by decide +kernel)) (goodIn_sub (fun _ h => List.mem_cons_of_mem _ (List.mem_append_right _ h)) (by decide +kernel))
set_option maxRecDepth 20000 in
theorem gX2_slip_X2_refuseLeft : GoodIn wsX2_slip (va_wsS RX2 67 yX2_refuseLeft wsX2_refuseLeft) := goodIn_app (goodIn_of _ (by decide +kernel)) ggX2_slip_X2_refuseLeft
set_option maxRecDepth 20000 in
theorem ggX2_slip_X1_takeSlip : GoodIn wsX2_slip wsX1_takeSlip := goodIn_r _ [20, 21, 22, 23, 29, 30, 31, 32, 33, 34, 35, 36, 37, 38, 39, 40, 41, 42] (by decide +kernel) (by decide +kernel)
set_option maxRecDepth 20000 in
theorem gX2_slip_X1_takeSlip_n77 : GoodIn wsX2_slip (wsX1_takeSlip) := ggX2_slip_X1_takeSlip
set_option maxRecDepth 20000 in
theorem ggX2_leave_X2_memberOrThrow : GoodIn wsX2_leave wsX2_memberOrThrow := goodIn_ca (goodIn_r _ [5, 6, 7, 8, 21, 22, 23, 24, 25] (by decide +kernel) (by decide +kernel)) (goodIn_sub (fun _ h => List.mem_cons_of_mem _ (List.mem_append_left _ (List.mem_append_right _ h))) (by decide +kernel))
set_option maxRecDepth 20000 in
theorem gX2_leave_X2_memberOrThrow : GoodIn wsX2_leave (wsV RX2 63 RX2 yX2_memberOrThrow wsX2_memberOrThrow) := goodIn_app (goodIn_of _ (by decide +kernel)) ggX2_leave_X2_memberOrThrow
set_option maxRecDepth 20000 in
theorem ggX2_leave_X2_refuseLeft : GoodIn wsX2_leave wsX2_refuseLeft := goodIn_ca (goodIn_r _ [11, 12, 13, 26, 27, 28, 29, 30, 31, 32, 33, 34, 35, 36, 37, 38, 39] (by decide +kernel) (by decide +kernel)) (goodIn_sub (fun _ h => List.mem_cons_of_mem _ (List.mem_append_right _ h)) (by decide +kernel))
set_option maxRecDepth 20000 in
theorem gX2_leave_X2_refuseLeft : GoodIn wsX2_leave (va_wsS RX2 67 yX2_refuseLeft wsX2_refuseLeft) := goodIn_app (goodIn_of _ (by decide +kernel)) ggX2_leave_X2_refuseLeft
set_option maxRecDepth 20000 in
theorem ggX2_leave_X1_giveBack : GoodIn wsX2_leave wsX1_giveBack := goodIn_r _ [17, 18, 19, 20, 26, 27, 28, 29, 30, 31, 32, 33, 34, 35, 36, 37, 38, 39] (by decide +kernel) (by decide +kernel)
set_option maxRecDepth 20000 in
theorem gX2_leave_X1_giveBack_n81 : GoodIn wsX2_leave (wsX1_giveBack) := ggX2_leave_X1_giveBack
set_option maxRecDepth 20000 in
theorem ggX2_money_X2_memberOrThrow : GoodIn wsX2_money wsX2_memberOrThrow := goodIn_ca (goodIn_r _ [5, 6, 7, 8, 23, 24, 25, 26, 27] (by decide +kernel) (by decide +kernel)) (goodIn_sub (fun _ h => List.mem_cons_of_mem _ (List.mem_append_right _ h)) (by decide +kernel))
set_option maxRecDepth 20000 in
theorem gX2_money_X2_memberOrThrow : GoodIn wsX2_money (wsV RX2 63 RX2 yX2_memberOrThrow wsX2_memberOrThrow) := goodIn_app (goodIn_of _ (by decide +kernel)) ggX2_money_X2_memberOrThrow
set_option maxRecDepth 20000 in
theorem ggX2_offerMonth_X2_memberOrThrow : GoodIn wsX2_offerMonth wsX2_memberOrThrow := goodIn_ca (goodIn_r _ [5, 6, 7, 8, 23, 24, 25, 26, 27] (by decide +kernel) (by decide +kernel)) (goodIn_sub (fun _ h => List.mem_cons_of_mem _ (List.mem_append_right _ h)) (by decide +kernel))
set_option maxRecDepth 20000 in
theorem gX2_offerMonth_X2_memberOrThrow : GoodIn wsX2_offerMonth (wsV RX2 63 RX2 yX2_memberOrThrow wsX2_memberOrThrow) := goodIn_app (goodIn_of _ (by decide +kernel)) ggX2_offerMonth_X2_memberOrThrow
set_option maxRecDepth 20000 in
theorem ggX2_offerPrice_X2_memberOrThrow : GoodIn wsX2_offerPrice wsX2_memberOrThrow := goodIn_ca (goodIn_r _ [5, 6, 7, 8, 23, 24, 25, 26, 27] (by decide +kernel) (by decide +kernel)) (goodIn_sub (fun _ h => List.mem_cons_of_mem _ (List.mem_append_right _ h)) (by decide +kernel))
set_option maxRecDepth 20000 in
theorem gX2_offerPrice_X2_memberOrThrow : GoodIn wsX2_offerPrice (wsV RX2 63 RX2 yX2_memberOrThrow wsX2_memberOrThrow) := goodIn_app (goodIn_of _ (by decide +kernel)) ggX2_offerPrice_X2_memberOrThrow
set_option maxRecDepth 20000 in
theorem ggX2_resets_X2_memberOrThrow : GoodIn wsX2_resets wsX2_memberOrThrow := goodIn_ca (goodIn_r _ [5, 6, 7, 8, 23, 24, 25, 26, 27] (by decide +kernel) (by decide +kernel)) (goodIn_sub (fun _ h => List.mem_cons_of_mem _ (List.mem_append_right _ h)) (by decide +kernel))
set_option maxRecDepth 20000 in
theorem gX2_resets_X2_memberOrThrow : GoodIn wsX2_resets (wsV RX2 63 RX2 yX2_memberOrThrow wsX2_memberOrThrow) := goodIn_app (goodIn_of _ (by decide +kernel)) ggX2_resets_X2_memberOrThrow
set_option maxRecDepth 20000 in
theorem ggX2_shares_X2_memberOrThrow : GoodIn wsX2_shares wsX2_memberOrThrow := goodIn_ca (goodIn_r _ [5, 6, 7, 8, 14, 15, 16, 17, 18] (by decide +kernel) (by decide +kernel)) (goodIn_sub (fun _ h => List.mem_cons_of_mem _ (List.mem_append_right _ h)) (by decide +kernel))
set_option maxRecDepth 20000 in
theorem gX2_shares_X2_memberOrThrow : GoodIn wsX2_shares (wsV RX2 63 RX2 yX2_memberOrThrow wsX2_memberOrThrow) := goodIn_app (goodIn_of _ (by decide +kernel)) ggX2_shares_X2_memberOrThrow
set_option maxRecDepth 20000 in
theorem ggX2_shares_X1_sharesHeld : GoodIn wsX2_shares wsX1_sharesHeld := goodIn_r _ [12, 13, 19, 20, 21, 22, 23, 24, 25, 26, 27, 28, 29, 30, 31, 32, 33, 34, 35, 36, 37, 38, 39] (by decide +kernel) (by decide +kernel)
set_option maxRecDepth 20000 in
theorem gX2_shares_X1_sharesHeld_n98 : GoodIn wsX2_shares (wsX1_sharesHeld) := ggX2_shares_X1_sharesHeld
set_option maxRecDepth 20000 in
theorem ggX2_bought_X2_memberOrThrow : GoodIn wsX2_bought wsX2_memberOrThrow := goodIn_ca (goodIn_r _ [5, 6, 7, 8, 26, 27, 28, 29, 30] (by decide +kernel) (by decide +kernel)) (goodIn_sub (fun _ h => List.mem_cons_of_mem _ (List.mem_append_right _ h)) (by decide +kernel))
set_option maxRecDepth 20000 in
theorem gX2_bought_X2_memberOrThrow : GoodIn wsX2_bought (wsV RX2 63 RX2 yX2_memberOrThrow wsX2_memberOrThrow) := goodIn_app (goodIn_of _ (by decide +kernel)) ggX2_bought_X2_memberOrThrow
set_option maxRecDepth 20000 in
theorem ggX2_bought_X2_refuseBadMonth : GoodIn wsX2_bought wsX2_refuseBadMonth := goodIn_ca (goodIn_r _ [11, 6, 7] (by decide +kernel) (by decide +kernel)) (goodIn_sub (fun _ h => List.mem_cons_of_mem _ (List.mem_append_right _ h)) (by decide +kernel))
set_option maxRecDepth 20000 in
theorem gX2_bought_X2_refuseBadMonth : GoodIn wsX2_bought (va_wsS RX2 102 yX2_refuseBadMonth wsX2_refuseBadMonth) := goodIn_app (goodIn_of _ (by decide +kernel)) ggX2_bought_X2_refuseBadMonth
set_option maxRecDepth 20000 in
theorem ggX2_bought_X1_lotOf : GoodIn wsX2_bought wsX1_lotOf := goodIn_r _ [15, 16, 17, 4, 18, 31, 32, 33, 34, 35, 36, 37, 38, 39, 40, 41, 42, 43, 44] (by decide +kernel) (by decide +kernel)
set_option maxRecDepth 20000 in
theorem gX2_bought_X1_lotOf_n105 : GoodIn wsX2_bought (wsX1_lotOf) := ggX2_bought_X1_lotOf
set_option maxRecDepth 20000 in
theorem ggX2_paidEach_X2_memberOrThrow : GoodIn wsX2_paidEach wsX2_memberOrThrow := goodIn_ca (goodIn_r _ [5, 6, 7, 8, 26, 27, 28, 29, 30] (by decide +kernel) (by decide +kernel)) (goodIn_sub (fun _ h => List.mem_cons_of_mem _ (List.mem_append_right _ h)) (by decide +kernel))
set_option maxRecDepth 20000 in
theorem gX2_paidEach_X2_memberOrThrow : GoodIn wsX2_paidEach (wsV RX2 63 RX2 yX2_memberOrThrow wsX2_memberOrThrow) := goodIn_app (goodIn_of _ (by decide +kernel)) ggX2_paidEach_X2_memberOrThrow
set_option maxRecDepth 20000 in
theorem ggX2_paidEach_X2_refuseBadMonth : GoodIn wsX2_paidEach wsX2_refuseBadMonth := goodIn_ca (goodIn_r _ [11, 6, 7] (by decide +kernel) (by decide +kernel)) (goodIn_sub (fun _ h => List.mem_cons_of_mem _ (List.mem_append_right _ h)) (by decide +kernel))
set_option maxRecDepth 20000 in
theorem gX2_paidEach_X2_refuseBadMonth : GoodIn wsX2_paidEach (va_wsS RX2 102 yX2_refuseBadMonth wsX2_refuseBadMonth) := goodIn_app (goodIn_of _ (by decide +kernel)) ggX2_paidEach_X2_refuseBadMonth
set_option maxRecDepth 20000 in
theorem ggX2_paidEach_X1_lotOf : GoodIn wsX2_paidEach wsX1_lotOf := goodIn_r _ [15, 16, 17, 4, 18, 31, 32, 33, 34, 35, 36, 37, 38, 39, 40, 41, 42, 43, 44] (by decide +kernel) (by decide +kernel)
set_option maxRecDepth 20000 in
theorem gX2_paidEach_X1_lotOf_n105 : GoodIn wsX2_paidEach (wsX1_lotOf) := ggX2_paidEach_X1_lotOf
set_option maxRecDepth 20000 in
theorem ggX2_counted_X2_memberOrThrow : GoodIn wsX2_counted wsX2_memberOrThrow := goodIn_ca (goodIn_r _ [7, 1, 2, 8, 14, 15, 16, 17, 18] (by decide +kernel) (by decide +kernel)) (goodIn_sub (fun _ h => List.mem_cons_of_mem _ (List.mem_append_right _ h)) (by decide +kernel))
set_option maxRecDepth 20000 in
theorem gX2_counted_X2_memberOrThrow : GoodIn wsX2_counted (wsV RX2 63 RX2 yX2_memberOrThrow wsX2_memberOrThrow) := goodIn_app (goodIn_of _ (by decide +kernel)) ggX2_counted_X2_memberOrThrow
set_option maxRecDepth 20000 in
theorem ggX2_counted_X1_countedIn : GoodIn wsX2_counted wsX1_countedIn := goodIn_r _ [12, 13, 19, 20, 21, 22, 23, 24, 25, 26, 27, 28, 29, 30, 31, 32] (by decide +kernel) (by decide +kernel)
set_option maxRecDepth 20000 in
theorem gX2_counted_X1_countedIn_n122 : GoodIn wsX2_counted (wsX1_countedIn) := ggX2_counted_X1_countedIn
set_option maxRecDepth 20000 in
theorem ggX2_traced_X2_memberOrThrow : GoodIn wsX2_traced wsX2_memberOrThrow := goodIn_ca (goodIn_r _ [5, 6, 7, 8, 23, 24, 25, 26, 27] (by decide +kernel) (by decide +kernel)) (goodIn_sub (fun _ h => List.mem_cons_of_mem _ (List.mem_append_right _ h)) (by decide +kernel))
set_option maxRecDepth 20000 in
theorem gX2_traced_X2_memberOrThrow : GoodIn wsX2_traced (wsV RX2 63 RX2 yX2_memberOrThrow wsX2_memberOrThrow) := goodIn_app (goodIn_of _ (by decide +kernel)) ggX2_traced_X2_memberOrThrow
set_option maxRecDepth 20000 in
theorem ggX2_kept_X2_memberOrThrow : GoodIn wsX2_kept wsX2_memberOrThrow := goodIn_ca (goodIn_r _ [5, 6, 7, 8, 23, 24, 25, 26, 27] (by decide +kernel) (by decide +kernel)) (goodIn_sub (fun _ h => List.mem_cons_of_mem _ (List.mem_append_right _ h)) (by decide +kernel))
set_option maxRecDepth 20000 in
theorem gX2_kept_X2_memberOrThrow : GoodIn wsX2_kept (wsV RX2 63 RX2 yX2_memberOrThrow wsX2_memberOrThrow) := goodIn_app (goodIn_of _ (by decide +kernel)) ggX2_kept_X2_memberOrThrow
set_option maxRecDepth 20000 in
theorem ggX2_sell_X2_memberOrThrow : GoodIn wsX2_sell wsX2_memberOrThrow := goodIn_ca (goodIn_r _ [12, 13, 14, 15, 51, 52, 53, 54, 55] (by decide +kernel) (by decide +kernel)) (goodIn_sub (fun _ h => List.mem_cons_of_mem _ (List.mem_append_right _ h)) (by decide +kernel))
set_option maxRecDepth 20000 in
theorem gX2_sell_X2_memberOrThrow : GoodIn wsX2_sell (wsV RX2 63 RX2 yX2_memberOrThrow wsX2_memberOrThrow) := goodIn_app (goodIn_of _ (by decide +kernel)) ggX2_sell_X2_memberOrThrow
set_option maxRecDepth 20000 in
theorem ggX2_sell_X1_sharesHeld : GoodIn wsX2_sell wsX1_sharesHeld := goodIn_r _ [19, 20, 56, 57, 58, 59, 60, 61, 62, 63, 64, 65, 66, 67, 68, 69, 70, 71, 72, 73, 74, 75, 76] (by decide +kernel) (by decide +kernel)
set_option maxRecDepth 20000 in
theorem gX2_sell_X1_sharesHeld_n98 : GoodIn wsX2_sell (wsX1_sharesHeld) := ggX2_sell_X1_sharesHeld
set_option maxRecDepth 20000 in
theorem ggX2_sell_X1_sellOldest : GoodIn wsX2_sell wsX1_sellOldest := goodIn_r _ [23, 20, 24, 25, 26, 27, 28, 29, 30, 31, 32, 33, 34, 35, 36, 37, 38, 39, 40, 41, 42, 43, 44, 45, 46, 47, 48, 49, 50, 56, 57, 58, 59, 60, 61, 62, 63, 64, 65, 66, 67, 68, 69, 70, 71, 72, 73, 74, 75, 76] (by decide +kernel) (by decide +kernel)
set_option maxRecDepth 20000 in
theorem gX2_sell_X1_sellOldest_n140 : GoodIn wsX2_sell (wsX1_sellOldest) := ggX2_sell_X1_sellOldest
set_option maxRecDepth 20000 in
theorem ggX2_pay_X2_memberOrThrow : GoodIn wsX2_pay wsX2_memberOrThrow := goodIn_ca (goodIn_r _ [5, 6, 7, 8, 23, 24, 25, 26, 27] (by decide +kernel) (by decide +kernel)) (goodIn_sub (fun _ h => List.mem_cons_of_mem _ (List.mem_append_right _ h)) (by decide +kernel))
set_option maxRecDepth 20000 in
theorem gX2_pay_X2_memberOrThrow : GoodIn wsX2_pay (wsV RX2 63 RX2 yX2_memberOrThrow wsX2_memberOrThrow) := goodIn_app (goodIn_of _ (by decide +kernel)) ggX2_pay_X2_memberOrThrow
set_option maxRecDepth 20000 in
theorem ggX2_gain_X2_memberOrThrow : GoodIn wsX2_gain wsX2_memberOrThrow := goodIn_ca (goodIn_r _ [5, 6, 7, 8, 23, 24, 25, 26, 27] (by decide +kernel) (by decide +kernel)) (goodIn_sub (fun _ h => List.mem_cons_of_mem _ (List.mem_append_right _ h)) (by decide +kernel))
set_option maxRecDepth 20000 in
theorem gX2_gain_X2_memberOrThrow : GoodIn wsX2_gain (wsV RX2 63 RX2 yX2_memberOrThrow wsX2_memberOrThrow) := goodIn_app (goodIn_of _ (by decide +kernel)) ggX2_gain_X2_memberOrThrow
set_option maxRecDepth 20000 in
theorem ggX2_gainNow_X2_memberOrThrow : GoodIn wsX2_gainNow wsX2_memberOrThrow := goodIn_ca (goodIn_r _ [7, 8, 9, 10, 40, 41, 42, 43, 44] (by decide +kernel) (by decide +kernel)) (goodIn_sub (fun _ h => List.mem_cons_of_mem _ (List.mem_append_right _ h)) (by decide +kernel))
set_option maxRecDepth 20000 in
theorem gX2_gainNow_X2_memberOrThrow : GoodIn wsX2_gainNow (wsV RX2 63 RX2 yX2_memberOrThrow wsX2_memberOrThrow) := goodIn_app (goodIn_of _ (by decide +kernel)) ggX2_gainNow_X2_memberOrThrow
set_option maxRecDepth 20000 in
theorem ggX2_gainNow_X1_gainIfAllSold : GoodIn wsX2_gainNow wsX1_gainIfAllSold := goodIn_r _ [14, 15, 16, 17, 18, 19, 20, 21, 22, 23, 24, 25, 26, 27, 28, 29, 30, 31, 32, 33, 34, 35, 36, 37, 38, 39, 45, 46, 47, 48, 49, 50, 51, 52, 53, 54, 55, 56, 57, 58, 59, 60, 61, 62, 63, 64, 65] (by decide +kernel) (by decide +kernel)
set_option maxRecDepth 20000 in
theorem gX2_gainNow_X1_gainIfAllSold_n150 : GoodIn wsX2_gainNow (wsX1_gainIfAllSold) := ggX2_gainNow_X1_gainIfAllSold
set_option maxRecDepth 20000 in
theorem ggX2_buyForAll_X1_buyShares : GoodIn wsX2_buyForAll wsX1_buyShares := goodIn_r _ [8, 9, 10, 11, 12, 13, 14, 15, 16, 17, 18, 19, 20, 21, 22, 23, 24, 25, 6, 26, 27, 28, 29, 30, 31, 32, 33, 34, 35, 36, 37, 38, 39, 40, 41, 42, 43, 44, 45, 46, 47, 48, 49, 50, 51, 52, 53, 54, 55, 56, 57, 58, 59, 60, 66, 67, 68, 69, 70, 71, 72, 73, 74, 75, 76, 77, 78, 79, 80, 81, 82, 83, 84, 85, 86] (by decide +kernel) (by decide +kernel)
set_option maxRecDepth 20000 in
theorem gX2_buyForAll_X1_buyShares_n166 : GoodIn wsX2_buyForAll (wsX1_buyShares) := ggX2_buyForAll_X1_buyShares
set_option maxRecDepth 20000 in
theorem ggX3_isMember_X3_isIn : GoodIn wsX3_isMember wsX3_isIn := goodIn_r _ [5] (by decide +kernel) (by decide +kernel)
set_option maxRecDepth 20000 in
theorem gX3_isMember_X3_isIn : GoodIn wsX3_isMember (va_wsS RX3 74 yX3_isIn wsX3_isIn) := goodIn_app (goodIn_of _ (by decide +kernel)) ggX3_isMember_X3_isIn
set_option maxRecDepth 20000 in
theorem ggX3_buy_X3_countedIn : GoodIn wsX3_buy wsX3_countedIn := goodIn_r _ [17, 6, 1, 9, 18, 19, 20, 21, 22, 23, 24, 25, 26, 27, 28, 29, 30, 31, 32, 33, 34, 35, 36, 37] (by decide +kernel) (by decide +kernel)
set_option maxRecDepth 20000 in
theorem gX3_buy_X3_countedIn : GoodIn wsX3_buy (wsV RX3 78 RX3 yX3_countedIn wsX3_countedIn) := goodIn_app (goodIn_of _ (by decide +kernel)) ggX3_buy_X3_countedIn
set_option maxRecDepth 20000 in
theorem ggX3_next_X3_isIn : GoodIn wsX3_next wsX3_isIn := goodIn_r _ [9] (by decide +kernel) (by decide +kernel)
set_option maxRecDepth 20000 in
theorem gX3_next_X3_isIn : GoodIn wsX3_next (va_wsS RX3 74 yX3_isIn wsX3_isIn) := goodIn_app (goodIn_of _ (by decide +kernel)) ggX3_next_X3_isIn
set_option maxRecDepth 20000 in
theorem ggX3_next_X3_mayBoth : GoodIn wsX3_next wsX3_mayBoth := goodIn_r _ [13, 14, 33, 34, 35, 36, 37, 38, 39, 40, 41, 42, 43, 44, 45, 46, 47, 48, 49, 50, 51, 52] (by decide +kernel) (by decide +kernel)
set_option maxRecDepth 20000 in
theorem gX3_next_X3_mayBoth : GoodIn wsX3_next (wsV RX3 83 RX3 yX3_mayBoth wsX3_mayBoth) := goodIn_app (goodIn_of _ (by decide +kernel)) ggX3_next_X3_mayBoth
set_option maxRecDepth 20000 in
theorem ggX3_next_X3_buy : GoodIn wsX3_next wsX3_buy := goodIn_r _ [18, 5, 19, 2, 20, 21, 22, 23, 24, 25, 26, 27, 28, 29, 30, 31, 8, 32, 33, 34, 35, 36, 37, 38, 39, 40, 41, 42, 43, 44, 45, 46, 47, 48, 49, 50, 51, 52] (by decide +kernel) (by decide +kernel)
set_option maxRecDepth 20000 in
theorem gX3_next_X3_buy : GoodIn wsX3_next (wsV RX3 87 RX3 yX3_buy wsX3_buy) := goodIn_app (goodIn_of _ (by decide +kernel)) ggX3_next_X3_buy
set_option maxRecDepth 20000 in
theorem ggX3_ceiling_X3_isIn : GoodIn wsX3_ceiling wsX3_isIn := goodIn_r _ [6] (by decide +kernel) (by decide +kernel)
set_option maxRecDepth 20000 in
theorem gX3_ceiling_X3_isIn : GoodIn wsX3_ceiling (va_wsS RX3 74 yX3_isIn wsX3_isIn) := goodIn_app (goodIn_of _ (by decide +kernel)) ggX3_ceiling_X3_isIn
set_option maxRecDepth 20000 in
theorem ggX3_ceiling_X3_may : GoodIn wsX3_ceiling wsX3_may := goodIn_r _ [10, 11, 12, 13, 14, 15, 16, 17, 18, 19, 20, 21, 22, 23, 24, 25, 26, 27, 28, 29, 30, 31] (by decide +kernel) (by decide +kernel)
set_option maxRecDepth 20000 in
theorem gX3_ceiling_X3_may : GoodIn wsX3_ceiling (wsV RX3 92 RX3 yX3_may wsX3_may) := goodIn_app (goodIn_of _ (by decide +kernel)) ggX3_ceiling_X3_may
set_option maxRecDepth 20000 in
theorem ggX3_join_X3_isIn : GoodIn wsX3_join wsX3_isIn := goodIn_r _ [8] (by decide +kernel) (by decide +kernel)
set_option maxRecDepth 20000 in
theorem gX3_join_X3_isIn : GoodIn wsX3_join (va_wsS RX3 74 yX3_isIn wsX3_isIn) := goodIn_app (goodIn_of _ (by decide +kernel)) ggX3_join_X3_isIn
set_option maxRecDepth 20000 in
theorem ggX3_join_X3_mayBoth : GoodIn wsX3_join wsX3_mayBoth := goodIn_r _ [12, 13, 14, 15, 16, 17, 18, 19, 20, 21, 22, 23, 24, 25, 26, 27, 28, 29, 30, 31, 32, 33] (by decide +kernel) (by decide +kernel)
set_option maxRecDepth 20000 in
theorem gX3_join_X3_mayBoth : GoodIn wsX3_join (wsV RX3 83 RX3 yX3_mayBoth wsX3_mayBoth) := goodIn_app (goodIn_of _ (by decide +kernel)) ggX3_join_X3_mayBoth
set_option maxRecDepth 20000 in
theorem ggX3_isStaying_X3_isMember : GoodIn wsX3_isStaying wsX3_isMember := goodIn_r _ [6, 7, 8, 9, 5, 10, 11, 12, 13, 14, 15, 16, 17, 18, 19, 20, 21, 22, 23, 24, 25, 26, 27, 28, 29, 30] (by decide +kernel) (by decide +kernel)
set_option maxRecDepth 20000 in
theorem gX3_isStaying_X3_isMember : GoodIn wsX3_isStaying (wsV RX3 96 RX3 yX3_isMember wsX3_isMember) := goodIn_app (goodIn_of _ (by decide +kernel)) ggX3_isStaying_X3_isMember
set_option maxRecDepth 20000 in
theorem ggX3_rate_X3_isMember : GoodIn wsX3_rate wsX3_isMember := goodIn_r _ [6, 7, 8, 9, 5, 10, 21, 22, 23, 24, 25, 26, 27, 28, 29, 30, 31, 32, 33, 34, 35, 36, 37, 38, 39, 40] (by decide +kernel) (by decide +kernel)
set_option maxRecDepth 20000 in
theorem gX3_rate_X3_isMember : GoodIn wsX3_rate (wsV RX3 96 RX3 yX3_isMember wsX3_isMember) := goodIn_app (goodIn_of _ (by decide +kernel)) ggX3_rate_X3_isMember
set_option maxRecDepth 20000 in
theorem ggX3_rate_X3_isIn : GoodIn wsX3_rate wsX3_isIn := goodIn_r _ [10] (by decide +kernel) (by decide +kernel)
set_option maxRecDepth 20000 in
theorem gX3_rate_X3_isIn : GoodIn wsX3_rate (va_wsS RX3 74 yX3_isIn wsX3_isIn) := goodIn_app (goodIn_of _ (by decide +kernel)) ggX3_rate_X3_isIn
set_option maxRecDepth 20000 in
theorem ggX3_rate_X3_isStaying : GoodIn wsX3_rate wsX3_isStaying := goodIn_r _ [14, 15, 2, 3, 4, 5, 6, 7, 8, 9, 10, 21, 22, 23, 24, 25, 26, 27, 28, 29, 30, 31, 32, 33, 34, 35, 36, 37, 38, 39, 40] (by decide +kernel) (by decide +kernel)
set_option maxRecDepth 20000 in
theorem gX3_rate_X3_isStaying : GoodIn wsX3_rate (wsV RX3 100 RX3 yX3_isStaying wsX3_isStaying) := goodIn_app (goodIn_of _ (by decide +kernel)) ggX3_rate_X3_isStaying
set_option maxRecDepth 20000 in
theorem ggX3_rate_X3_mayAll : GoodIn wsX3_rate wsX3_mayAll := goodIn_r _ [19, 20, 21, 22, 23, 24, 25, 26, 27, 28, 29, 30, 31, 32, 33, 34, 35, 36, 37, 38, 39, 40] (by decide +kernel) (by decide +kernel)
set_option maxRecDepth 20000 in
theorem gX3_rate_X3_mayAll : GoodIn wsX3_rate (wsV RX3 103 RX3 yX3_mayAll wsX3_mayAll) := goodIn_app (goodIn_of _ (by decide +kernel)) ggX3_rate_X3_mayAll
set_option maxRecDepth 20000 in
theorem ggX3_slip_X3_isMember : GoodIn wsX3_slip wsX3_isMember := goodIn_r _ [9, 10, 11, 12, 8, 13, 24, 25, 26, 27, 28, 29, 30, 31, 32, 33, 34, 35, 36, 37, 38, 39, 40, 41, 42, 43] (by decide +kernel) (by decide +kernel)
set_option maxRecDepth 20000 in
theorem gX3_slip_X3_isMember : GoodIn wsX3_slip (wsV RX3 96 RX3 yX3_isMember wsX3_isMember) := goodIn_app (goodIn_of _ (by decide +kernel)) ggX3_slip_X3_isMember
set_option maxRecDepth 20000 in
theorem ggX3_slip_X3_isIn : GoodIn wsX3_slip wsX3_isIn := goodIn_r _ [13] (by decide +kernel) (by decide +kernel)
set_option maxRecDepth 20000 in
theorem gX3_slip_X3_isIn : GoodIn wsX3_slip (va_wsS RX3 74 yX3_isIn wsX3_isIn) := goodIn_app (goodIn_of _ (by decide +kernel)) ggX3_slip_X3_isIn
set_option maxRecDepth 20000 in
theorem ggX3_slip_X3_isStaying : GoodIn wsX3_slip wsX3_isStaying := goodIn_r _ [17, 18, 5, 6, 7, 8, 9, 10, 11, 12, 13, 24, 25, 26, 27, 28, 29, 30, 31, 32, 33, 34, 35, 36, 37, 38, 39, 40, 41, 42, 43] (by decide +kernel) (by decide +kernel)
set_option maxRecDepth 20000 in
theorem gX3_slip_X3_isStaying : GoodIn wsX3_slip (wsV RX3 100 RX3 yX3_isStaying wsX3_isStaying) := goodIn_app (goodIn_of _ (by decide +kernel)) ggX3_slip_X3_isStaying
set_option maxRecDepth 20000 in
theorem ggX3_slip_X3_mayAll : GoodIn wsX3_slip wsX3_mayAll := goodIn_r _ [22, 23, 24, 25, 26, 27, 28, 29, 30, 31, 32, 33, 34, 35, 36, 37, 38, 39, 40, 41, 42, 43] (by decide +kernel) (by decide +kernel)
set_option maxRecDepth 20000 in
theorem gX3_slip_X3_mayAll : GoodIn wsX3_slip (wsV RX3 103 RX3 yX3_mayAll wsX3_mayAll) := goodIn_app (goodIn_of _ (by decide +kernel)) ggX3_slip_X3_mayAll
set_option maxRecDepth 20000 in
theorem ggX3_leave_X3_isMember : GoodIn wsX3_leave wsX3_isMember := goodIn_r _ [8, 9, 10, 11, 7, 12, 22, 23, 24, 25, 26, 27, 28, 29, 30, 31, 32, 33, 34, 35, 36, 37, 38, 39, 40, 41] (by decide +kernel) (by decide +kernel)
set_option maxRecDepth 20000 in
theorem gX3_leave_X3_isMember : GoodIn wsX3_leave (wsV RX3 96 RX3 yX3_isMember wsX3_isMember) := goodIn_app (goodIn_of _ (by decide +kernel)) ggX3_leave_X3_isMember
set_option maxRecDepth 20000 in
theorem ggX3_leave_X3_isStaying : GoodIn wsX3_leave wsX3_isStaying := goodIn_r _ [16, 1, 4, 5, 6, 7, 8, 9, 10, 11, 12, 22, 23, 24, 25, 26, 27, 28, 29, 30, 31, 32, 33, 34, 35, 36, 37, 38, 39, 40, 41] (by decide +kernel) (by decide +kernel)
set_option maxRecDepth 20000 in
theorem gX3_leave_X3_isStaying : GoodIn wsX3_leave (wsV RX3 100 RX3 yX3_isStaying wsX3_isStaying) := goodIn_app (goodIn_of _ (by decide +kernel)) ggX3_leave_X3_isStaying
set_option maxRecDepth 20000 in
theorem ggX3_leave_X3_mayBoth : GoodIn wsX3_leave wsX3_mayBoth := goodIn_r _ [20, 21, 22, 23, 24, 25, 26, 27, 28, 29, 30, 31, 32, 33, 34, 35, 36, 37, 38, 39, 40, 41] (by decide +kernel) (by decide +kernel)
set_option maxRecDepth 20000 in
theorem gX3_leave_X3_mayBoth : GoodIn wsX3_leave (wsV RX3 83 RX3 yX3_mayBoth wsX3_mayBoth) := goodIn_app (goodIn_of _ (by decide +kernel)) ggX3_leave_X3_mayBoth
set_option maxRecDepth 20000 in
theorem ggX3_money_X3_isMember : GoodIn wsX3_money wsX3_isMember := goodIn_r _ [6, 7, 8, 9, 5, 10, 16, 17, 18, 19, 20, 21, 22, 23, 24, 25, 26, 27, 28, 29, 30, 31, 32, 33, 34, 35] (by decide +kernel) (by decide +kernel)
set_option maxRecDepth 20000 in
theorem gX3_money_X3_isMember : GoodIn wsX3_money (wsV RX3 96 RX3 yX3_isMember wsX3_isMember) := goodIn_app (goodIn_of _ (by decide +kernel)) ggX3_money_X3_isMember
set_option maxRecDepth 20000 in
theorem ggX3_money_X3_may : GoodIn wsX3_money wsX3_may := goodIn_r _ [14, 15, 16, 17, 18, 19, 20, 21, 22, 23, 24, 25, 26, 27, 28, 29, 30, 31, 32, 33, 34, 35] (by decide +kernel) (by decide +kernel)
set_option maxRecDepth 20000 in
theorem gX3_money_X3_may : GoodIn wsX3_money (wsV RX3 92 RX3 yX3_may wsX3_may) := goodIn_app (goodIn_of _ (by decide +kernel)) ggX3_money_X3_may
set_option maxRecDepth 20000 in
theorem ggX3_offerMonth_X3_isMember : GoodIn wsX3_offerMonth wsX3_isMember := goodIn_r _ [6, 7, 8, 9, 5, 10, 16, 17, 18, 19, 20, 21, 22, 23, 24, 25, 26, 27, 28, 29, 30, 31, 32, 33, 34, 35] (by decide +kernel) (by decide +kernel)
set_option maxRecDepth 20000 in
theorem gX3_offerMonth_X3_isMember : GoodIn wsX3_offerMonth (wsV RX3 96 RX3 yX3_isMember wsX3_isMember) := goodIn_app (goodIn_of _ (by decide +kernel)) ggX3_offerMonth_X3_isMember
set_option maxRecDepth 20000 in
theorem ggX3_offerMonth_X3_may : GoodIn wsX3_offerMonth wsX3_may := goodIn_r _ [14, 15, 16, 17, 18, 19, 20, 21, 22, 23, 24, 25, 26, 27, 28, 29, 30, 31, 32, 33, 34, 35] (by decide +kernel) (by decide +kernel)
set_option maxRecDepth 20000 in
theorem gX3_offerMonth_X3_may : GoodIn wsX3_offerMonth (wsV RX3 92 RX3 yX3_may wsX3_may) := goodIn_app (goodIn_of _ (by decide +kernel)) ggX3_offerMonth_X3_may
set_option maxRecDepth 20000 in
theorem ggX3_offerPrice_X3_isMember : GoodIn wsX3_offerPrice wsX3_isMember := goodIn_r _ [7, 8, 9, 10, 6, 11, 17, 18, 19, 20, 21, 22, 23, 24, 25, 26, 27, 28, 29, 30, 31, 32, 33, 34, 35, 36] (by decide +kernel) (by decide +kernel)
set_option maxRecDepth 20000 in
theorem gX3_offerPrice_X3_isMember : GoodIn wsX3_offerPrice (wsV RX3 96 RX3 yX3_isMember wsX3_isMember) := goodIn_app (goodIn_of _ (by decide +kernel)) ggX3_offerPrice_X3_isMember
set_option maxRecDepth 20000 in
theorem ggX3_offerPrice_X3_may : GoodIn wsX3_offerPrice wsX3_may := goodIn_r _ [15, 16, 17, 18, 19, 20, 21, 22, 23, 24, 25, 26, 27, 28, 29, 30, 31, 32, 33, 34, 35, 36] (by decide +kernel) (by decide +kernel)
set_option maxRecDepth 20000 in
theorem gX3_offerPrice_X3_may : GoodIn wsX3_offerPrice (wsV RX3 92 RX3 yX3_may wsX3_may) := goodIn_app (goodIn_of _ (by decide +kernel)) ggX3_offerPrice_X3_may
set_option maxRecDepth 20000 in
theorem ggX3_resets_X3_isMember : GoodIn wsX3_resets wsX3_isMember := goodIn_r _ [6, 7, 8, 9, 5, 10, 16, 17, 18, 19, 20, 21, 22, 23, 24, 25, 26, 27, 28, 29, 30, 31, 32, 33, 34, 35] (by decide +kernel) (by decide +kernel)
set_option maxRecDepth 20000 in
theorem gX3_resets_X3_isMember : GoodIn wsX3_resets (wsV RX3 96 RX3 yX3_isMember wsX3_isMember) := goodIn_app (goodIn_of _ (by decide +kernel)) ggX3_resets_X3_isMember
set_option maxRecDepth 20000 in
theorem ggX3_resets_X3_may : GoodIn wsX3_resets wsX3_may := goodIn_r _ [14, 15, 16, 17, 18, 19, 20, 21, 22, 23, 24, 25, 26, 27, 28, 29, 30, 31, 32, 33, 34, 35] (by decide +kernel) (by decide +kernel)
set_option maxRecDepth 20000 in
theorem gX3_resets_X3_may : GoodIn wsX3_resets (wsV RX3 92 RX3 yX3_may wsX3_may) := goodIn_app (goodIn_of _ (by decide +kernel)) ggX3_resets_X3_may
set_option maxRecDepth 20000 in
theorem ggX3_shares_X3_isMember : GoodIn wsX3_shares wsX3_isMember := goodIn_r _ [5, 6, 7, 8, 4, 9, 20, 21, 22, 23, 24, 25, 26, 27, 28, 29, 30, 31, 32, 33, 34, 35, 36, 37, 38, 39] (by decide +kernel) (by decide +kernel)
set_option maxRecDepth 20000 in
theorem gX3_shares_X3_isMember : GoodIn wsX3_shares (wsV RX3 96 RX3 yX3_isMember wsX3_isMember) := goodIn_app (goodIn_of _ (by decide +kernel)) ggX3_shares_X3_isMember
set_option maxRecDepth 20000 in
theorem ggX3_shares_X3_may : GoodIn wsX3_shares wsX3_may := goodIn_r _ [13, 14, 20, 21, 22, 23, 24, 25, 26, 27, 28, 29, 30, 31, 32, 33, 34, 35, 36, 37, 38, 39] (by decide +kernel) (by decide +kernel)
set_option maxRecDepth 20000 in
theorem gX3_shares_X3_may : GoodIn wsX3_shares (wsV RX3 92 RX3 yX3_may wsX3_may) := goodIn_app (goodIn_of _ (by decide +kernel)) ggX3_shares_X3_may
set_option maxRecDepth 20000 in
theorem ggX3_shares_X3_sharesOf : GoodIn wsX3_shares wsX3_sharesOf := goodIn_r _ [18, 19, 20, 21, 22, 23, 24, 25, 26, 27, 28, 29, 30, 31, 32, 33, 34, 35, 36, 37, 38, 39] (by decide +kernel) (by decide +kernel)
set_option maxRecDepth 20000 in
theorem gX3_shares_X3_sharesOf : GoodIn wsX3_shares (wsV RX3 108 RX3 yX3_sharesOf wsX3_sharesOf) := goodIn_app (goodIn_of _ (by decide +kernel)) ggX3_shares_X3_sharesOf
set_option maxRecDepth 20000 in
theorem ggX3_bought_X3_isMember : GoodIn wsX3_bought wsX3_isMember := goodIn_r _ [6, 7, 8, 9, 5, 10, 16, 17, 18, 19, 20, 21, 22, 23, 24, 25, 26, 27, 28, 29, 30, 31, 32, 33, 34, 35] (by decide +kernel) (by decide +kernel)
set_option maxRecDepth 20000 in
theorem gX3_bought_X3_isMember : GoodIn wsX3_bought (wsV RX3 96 RX3 yX3_isMember wsX3_isMember) := goodIn_app (goodIn_of _ (by decide +kernel)) ggX3_bought_X3_isMember
set_option maxRecDepth 20000 in
theorem ggX3_bought_X3_isIn : GoodIn wsX3_bought wsX3_isIn := goodIn_r _ [10] (by decide +kernel) (by decide +kernel)
set_option maxRecDepth 20000 in
theorem gX3_bought_X3_isIn : GoodIn wsX3_bought (va_wsS RX3 74 yX3_isIn wsX3_isIn) := goodIn_app (goodIn_of _ (by decide +kernel)) ggX3_bought_X3_isIn
set_option maxRecDepth 20000 in
theorem ggX3_bought_X3_may : GoodIn wsX3_bought wsX3_may := goodIn_r _ [14, 15, 16, 17, 18, 19, 20, 21, 22, 23, 24, 25, 26, 27, 28, 29, 30, 31, 32, 33, 34, 35] (by decide +kernel) (by decide +kernel)
set_option maxRecDepth 20000 in
theorem gX3_bought_X3_may : GoodIn wsX3_bought (wsV RX3 92 RX3 yX3_may wsX3_may) := goodIn_app (goodIn_of _ (by decide +kernel)) ggX3_bought_X3_may
set_option maxRecDepth 20000 in
theorem ggX3_paidEach_X3_isMember : GoodIn wsX3_paidEach wsX3_isMember := goodIn_r _ [7, 8, 9, 10, 6, 11, 17, 18, 19, 20, 21, 22, 23, 24, 25, 26, 27, 28, 29, 30, 31, 32, 33, 34, 35, 36] (by decide +kernel) (by decide +kernel)
set_option maxRecDepth 20000 in
theorem gX3_paidEach_X3_isMember : GoodIn wsX3_paidEach (wsV RX3 96 RX3 yX3_isMember wsX3_isMember) := goodIn_app (goodIn_of _ (by decide +kernel)) ggX3_paidEach_X3_isMember
set_option maxRecDepth 20000 in
theorem ggX3_paidEach_X3_isIn : GoodIn wsX3_paidEach wsX3_isIn := goodIn_r _ [11] (by decide +kernel) (by decide +kernel)
set_option maxRecDepth 20000 in
theorem gX3_paidEach_X3_isIn : GoodIn wsX3_paidEach (va_wsS RX3 74 yX3_isIn wsX3_isIn) := goodIn_app (goodIn_of _ (by decide +kernel)) ggX3_paidEach_X3_isIn
set_option maxRecDepth 20000 in
theorem ggX3_paidEach_X3_may : GoodIn wsX3_paidEach wsX3_may := goodIn_r _ [15, 16, 17, 18, 19, 20, 21, 22, 23, 24, 25, 26, 27, 28, 29, 30, 31, 32, 33, 34, 35, 36] (by decide +kernel) (by decide +kernel)
set_option maxRecDepth 20000 in
theorem gX3_paidEach_X3_may : GoodIn wsX3_paidEach (wsV RX3 92 RX3 yX3_may wsX3_may) := goodIn_app (goodIn_of _ (by decide +kernel)) ggX3_paidEach_X3_may
set_option maxRecDepth 20000 in
theorem ggX3_counted_X3_isMember : GoodIn wsX3_counted wsX3_isMember := goodIn_r _ [5, 6, 7, 8, 4, 9, 22, 23, 24, 25, 26, 27, 28, 29, 30, 31, 32, 33, 34, 35, 36, 37, 38, 39, 40, 41] (by decide +kernel) (by decide +kernel)
set_option maxRecDepth 20000 in
theorem gX3_counted_X3_isMember : GoodIn wsX3_counted (wsV RX3 96 RX3 yX3_isMember wsX3_isMember) := goodIn_app (goodIn_of _ (by decide +kernel)) ggX3_counted_X3_isMember
set_option maxRecDepth 20000 in
theorem ggX3_counted_X3_isIn : GoodIn wsX3_counted wsX3_isIn := goodIn_r _ [9] (by decide +kernel) (by decide +kernel)
set_option maxRecDepth 20000 in
theorem gX3_counted_X3_isIn : GoodIn wsX3_counted (va_wsS RX3 74 yX3_isIn wsX3_isIn) := goodIn_app (goodIn_of _ (by decide +kernel)) ggX3_counted_X3_isIn
set_option maxRecDepth 20000 in
theorem ggX3_counted_X3_may : GoodIn wsX3_counted wsX3_may := goodIn_r _ [13, 14, 22, 23, 24, 25, 26, 27, 28, 29, 30, 31, 32, 33, 34, 35, 36, 37, 38, 39, 40, 41] (by decide +kernel) (by decide +kernel)
set_option maxRecDepth 20000 in
theorem gX3_counted_X3_may : GoodIn wsX3_counted (wsV RX3 92 RX3 yX3_may wsX3_may) := goodIn_app (goodIn_of _ (by decide +kernel)) ggX3_counted_X3_may
set_option maxRecDepth 20000 in
theorem ggX3_counted_X3_countedIn : GoodIn wsX3_counted wsX3_countedIn := goodIn_r _ [18, 19, 20, 21, 22, 23, 24, 25, 26, 27, 28, 29, 30, 31, 32, 33, 34, 35, 36, 37, 38, 39, 40, 41] (by decide +kernel) (by decide +kernel)
set_option maxRecDepth 20000 in
theorem gX3_counted_X3_countedIn : GoodIn wsX3_counted (wsV RX3 78 RX3 yX3_countedIn wsX3_countedIn) := goodIn_app (goodIn_of _ (by decide +kernel)) ggX3_counted_X3_countedIn
set_option maxRecDepth 20000 in
theorem ggX3_traced_X3_isMember : GoodIn wsX3_traced wsX3_isMember := goodIn_r _ [8, 9, 10, 11, 7, 12, 18, 19, 20, 21, 22, 23, 24, 25, 26, 27, 28, 29, 30, 31, 32, 33, 34, 35, 36, 37] (by decide +kernel) (by decide +kernel)
set_option maxRecDepth 20000 in
theorem gX3_traced_X3_isMember : GoodIn wsX3_traced (wsV RX3 96 RX3 yX3_isMember wsX3_isMember) := goodIn_app (goodIn_of _ (by decide +kernel)) ggX3_traced_X3_isMember
set_option maxRecDepth 20000 in
theorem ggX3_traced_X3_may : GoodIn wsX3_traced wsX3_may := goodIn_r _ [16, 17, 18, 19, 20, 21, 22, 23, 24, 25, 26, 27, 28, 29, 30, 31, 32, 33, 34, 35, 36, 37] (by decide +kernel) (by decide +kernel)
set_option maxRecDepth 20000 in
theorem gX3_traced_X3_may : GoodIn wsX3_traced (wsV RX3 92 RX3 yX3_may wsX3_may) := goodIn_app (goodIn_of _ (by decide +kernel)) ggX3_traced_X3_may
set_option maxRecDepth 20000 in
theorem ggX3_kept_X3_isMember : GoodIn wsX3_kept wsX3_isMember := goodIn_r _ [6, 7, 8, 9, 5, 10, 16, 17, 18, 19, 20, 21, 22, 23, 24, 25, 26, 27, 28, 29, 30, 31, 32, 33, 34, 35] (by decide +kernel) (by decide +kernel)
set_option maxRecDepth 20000 in
theorem gX3_kept_X3_isMember : GoodIn wsX3_kept (wsV RX3 96 RX3 yX3_isMember wsX3_isMember) := goodIn_app (goodIn_of _ (by decide +kernel)) ggX3_kept_X3_isMember
set_option maxRecDepth 20000 in
theorem ggX3_kept_X3_may : GoodIn wsX3_kept wsX3_may := goodIn_r _ [14, 15, 16, 17, 18, 19, 20, 21, 22, 23, 24, 25, 26, 27, 28, 29, 30, 31, 32, 33, 34, 35] (by decide +kernel) (by decide +kernel)
set_option maxRecDepth 20000 in
theorem gX3_kept_X3_may : GoodIn wsX3_kept (wsV RX3 92 RX3 yX3_may wsX3_may) := goodIn_app (goodIn_of _ (by decide +kernel)) ggX3_kept_X3_may
set_option maxRecDepth 20000 in
theorem ggX3_payOf_X3_isEarly : GoodIn wsX3_payOf wsX3_isEarly := goodIn_r _ [9, 3, 4, 10, 11, 12, 13, 14, 15, 16, 17, 18, 19, 20, 21, 22, 23, 24, 25, 26, 27, 28, 29] (by decide +kernel) (by decide +kernel)
set_option maxRecDepth 20000 in
theorem gX3_payOf_X3_isEarly : GoodIn wsX3_payOf (wsV RX3 112 RX3 yX3_isEarly wsX3_isEarly) := goodIn_app (goodIn_of _ (by decide +kernel)) ggX3_payOf_X3_isEarly
set_option maxRecDepth 20000 in
theorem ggX3_gainOf_X3_payOf : GoodIn wsX3_gainOf wsX3_payOf := goodIn_r _ [8, 1, 3, 2, 9, 10, 11, 12, 7, 13, 14, 15, 16, 17, 18, 19, 20, 21, 22, 23, 24, 25, 26, 27, 28, 29, 30, 31, 32, 33] (by decide +kernel) (by decide +kernel)
set_option maxRecDepth 20000 in
theorem gX3_gainOf_X3_payOf : GoodIn wsX3_gainOf (wsV RX3 115 RX3 yX3_payOf wsX3_payOf) := goodIn_app (goodIn_of _ (by decide +kernel)) ggX3_gainOf_X3_payOf
set_option maxRecDepth 20000 in
theorem ggX3_sell_X3_isMember : GoodIn wsX3_sell wsX3_isMember := goodIn_r _ [9, 10, 11, 12, 8, 13, 39, 40, 41, 42, 43, 44, 45, 46, 47, 48, 49, 50, 51, 52, 53, 54, 55, 56, 57, 58] (by decide +kernel) (by decide +kernel)
set_option maxRecDepth 20000 in
theorem gX3_sell_X3_isMember : GoodIn wsX3_sell (wsV RX3 96 RX3 yX3_isMember wsX3_isMember) := goodIn_app (goodIn_of _ (by decide +kernel)) ggX3_sell_X3_isMember
set_option maxRecDepth 20000 in
theorem ggX3_sell_X3_isIn : GoodIn wsX3_sell wsX3_isIn := goodIn_r _ [13] (by decide +kernel) (by decide +kernel)
set_option maxRecDepth 20000 in
theorem gX3_sell_X3_isIn : GoodIn wsX3_sell (va_wsS RX3 74 yX3_isIn wsX3_isIn) := goodIn_app (goodIn_of _ (by decide +kernel)) ggX3_sell_X3_isIn
set_option maxRecDepth 20000 in
theorem ggX3_sell_X3_sharesOf : GoodIn wsX3_sell wsX3_sharesOf := goodIn_r _ [17, 2, 39, 40, 41, 42, 43, 44, 45, 46, 47, 48, 49, 50, 51, 52, 53, 54, 55, 56, 57, 58] (by decide +kernel) (by decide +kernel)
set_option maxRecDepth 20000 in
theorem gX3_sell_X3_sharesOf : GoodIn wsX3_sell (wsV RX3 108 RX3 yX3_sharesOf wsX3_sharesOf) := goodIn_app (goodIn_of _ (by decide +kernel)) ggX3_sell_X3_sharesOf
set_option maxRecDepth 20000 in
theorem ggX3_sell_X3_mayAll : GoodIn wsX3_sell wsX3_mayAll := goodIn_r _ [21, 22, 39, 40, 41, 42, 43, 44, 45, 46, 47, 48, 49, 50, 51, 52, 53, 54, 55, 56, 57, 58] (by decide +kernel) (by decide +kernel)
set_option maxRecDepth 20000 in
theorem gX3_sell_X3_mayAll : GoodIn wsX3_sell (wsV RX3 103 RX3 yX3_mayAll wsX3_mayAll) := goodIn_app (goodIn_of _ (by decide +kernel)) ggX3_sell_X3_mayAll
set_option maxRecDepth 20000 in
theorem ggX3_sell_X3_payOf : GoodIn wsX3_sell wsX3_payOf := goodIn_r _ [26, 27, 28, 29, 30, 31, 32, 33, 8, 34, 39, 40, 41, 42, 43, 44, 45, 46, 47, 48, 49, 50, 51, 52, 53, 54, 55, 56, 57, 58] (by decide +kernel) (by decide +kernel)
set_option maxRecDepth 20000 in
theorem gX3_sell_X3_payOf : GoodIn wsX3_sell (wsV RX3 115 RX3 yX3_payOf wsX3_payOf) := goodIn_app (goodIn_of _ (by decide +kernel)) ggX3_sell_X3_payOf
set_option maxRecDepth 20000 in
theorem ggX3_sell_X3_gainOf : GoodIn wsX3_sell wsX3_gainOf := goodIn_r _ [38, 27, 29, 28, 23, 24, 25, 8, 26, 30, 31, 32, 33, 34, 39, 40, 41, 42, 43, 44, 45, 46, 47, 48, 49, 50, 51, 52, 53, 54, 55, 56, 57, 58] (by decide +kernel) (by decide +kernel)
set_option maxRecDepth 20000 in
theorem gX3_sell_X3_gainOf : GoodIn wsX3_sell (wsV RX3 119 RX3 yX3_gainOf wsX3_gainOf) := goodIn_app (goodIn_of _ (by decide +kernel)) ggX3_sell_X3_gainOf
set_option maxRecDepth 20000 in
theorem ggX3_sell_X3_isEarly : GoodIn wsX3_sell wsX3_isEarly := goodIn_r _ [34, 29, 30, 39, 40, 41, 42, 43, 44, 45, 46, 47, 48, 49, 50, 51, 52, 53, 54, 55, 56, 57, 58] (by decide +kernel) (by decide +kernel)
set_option maxRecDepth 20000 in
theorem gX3_sell_X3_isEarly : GoodIn wsX3_sell (wsV RX3 112 RX3 yX3_isEarly wsX3_isEarly) := goodIn_app (goodIn_of _ (by decide +kernel)) ggX3_sell_X3_isEarly
set_option maxRecDepth 20000 in
theorem ggX3_pay_X3_isMember : GoodIn wsX3_pay wsX3_isMember := goodIn_r _ [6, 7, 8, 9, 5, 10, 16, 17, 18, 19, 20, 21, 22, 23, 24, 25, 26, 27, 28, 29, 30, 31, 32, 33, 34, 35] (by decide +kernel) (by decide +kernel)
set_option maxRecDepth 20000 in
theorem gX3_pay_X3_isMember : GoodIn wsX3_pay (wsV RX3 96 RX3 yX3_isMember wsX3_isMember) := goodIn_app (goodIn_of _ (by decide +kernel)) ggX3_pay_X3_isMember
set_option maxRecDepth 20000 in
theorem ggX3_pay_X3_may : GoodIn wsX3_pay wsX3_may := goodIn_r _ [14, 15, 16, 17, 18, 19, 20, 21, 22, 23, 24, 25, 26, 27, 28, 29, 30, 31, 32, 33, 34, 35] (by decide +kernel) (by decide +kernel)
set_option maxRecDepth 20000 in
theorem gX3_pay_X3_may : GoodIn wsX3_pay (wsV RX3 92 RX3 yX3_may wsX3_may) := goodIn_app (goodIn_of _ (by decide +kernel)) ggX3_pay_X3_may
set_option maxRecDepth 20000 in
theorem ggX3_gain_X3_isMember : GoodIn wsX3_gain wsX3_isMember := goodIn_r _ [6, 7, 8, 9, 5, 10, 16, 17, 18, 19, 20, 21, 22, 23, 24, 25, 26, 27, 28, 29, 30, 31, 32, 33, 34, 35] (by decide +kernel) (by decide +kernel)
set_option maxRecDepth 20000 in
theorem gX3_gain_X3_isMember : GoodIn wsX3_gain (wsV RX3 96 RX3 yX3_isMember wsX3_isMember) := goodIn_app (goodIn_of _ (by decide +kernel)) ggX3_gain_X3_isMember
set_option maxRecDepth 20000 in
theorem ggX3_gain_X3_may : GoodIn wsX3_gain wsX3_may := goodIn_r _ [14, 15, 16, 17, 18, 19, 20, 21, 22, 23, 24, 25, 26, 27, 28, 29, 30, 31, 32, 33, 34, 35] (by decide +kernel) (by decide +kernel)
set_option maxRecDepth 20000 in
theorem gX3_gain_X3_may : GoodIn wsX3_gain (wsV RX3 92 RX3 yX3_may wsX3_may) := goodIn_app (goodIn_of _ (by decide +kernel)) ggX3_gain_X3_may
set_option maxRecDepth 20000 in
theorem ggX3_gainNow_X3_isMember : GoodIn wsX3_gainNow wsX3_isMember := goodIn_r _ [6, 7, 8, 9, 5, 10, 32, 33, 34, 35, 36, 37, 38, 39, 40, 41, 42, 43, 44, 45, 46, 47, 48, 49, 50, 51] (by decide +kernel) (by decide +kernel)
set_option maxRecDepth 20000 in
theorem gX3_gainNow_X3_isMember : GoodIn wsX3_gainNow (wsV RX3 96 RX3 yX3_isMember wsX3_isMember) := goodIn_app (goodIn_of _ (by decide +kernel)) ggX3_gainNow_X3_isMember
set_option maxRecDepth 20000 in
theorem ggX3_gainNow_X3_may : GoodIn wsX3_gainNow wsX3_may := goodIn_r _ [14, 15, 32, 33, 34, 35, 36, 37, 38, 39, 40, 41, 42, 43, 44, 45, 46, 47, 48, 49, 50, 51] (by decide +kernel) (by decide +kernel)
set_option maxRecDepth 20000 in
theorem gX3_gainNow_X3_may : GoodIn wsX3_gainNow (wsV RX3 92 RX3 yX3_may wsX3_may) := goodIn_app (goodIn_of _ (by decide +kernel)) ggX3_gainNow_X3_may
set_option maxRecDepth 20000 in
theorem ggX3_gainNow_X3_gainOf : GoodIn wsX3_gainNow wsX3_gainOf := goodIn_r _ [19, 20, 21, 22, 23, 24, 25, 5, 26, 27, 28, 29, 30, 31, 32, 33, 34, 35, 36, 37, 38, 39, 40, 41, 42, 43, 44, 45, 46, 47, 48, 49, 50, 51] (by decide +kernel) (by decide +kernel)
set_option maxRecDepth 20000 in
theorem gX3_gainNow_X3_gainOf : GoodIn wsX3_gainNow (wsV RX3 119 RX3 yX3_gainOf wsX3_gainOf) := goodIn_app (goodIn_of _ (by decide +kernel)) ggX3_gainNow_X3_gainOf
set_option maxRecDepth 20000 in
theorem ggL_next_X2_next : GoodIn wsL_next wsX2_next := goodIn_ca (goodIn_ca (goodIn_r _ [7, 8, 9, 10, 11, 12, 13, 14, 15, 16, 6, 17, 18, 19, 20, 21, 22, 23, 24, 25, 26, 27, 28, 29, 30, 31, 32, 33, 34, 35, 36, 37, 38, 39, 40, 41, 42, 43, 44, 45, 46, 47, 48, 49, 50, 51, 52, 53, 54, 55, 56, 57, 58, 59, 60, 61, 62, 63, 64, 65, 66, 67, 68, 69, 70, 71, 72, 73, 74, 75, 76, 77, 78, 79, 80, 81, 82, 83, 84, 85, 86, 87, 88, 89, 90, 91, 92, 93, 94, 95, 96, 97, 98, 99, 100, 101, 102, 103, 104, 105] (by decide +kernel) (by decide +kernel)) (goodIn_sub (fun _ h => List.mem_cons_of_mem _ (List.mem_append_left _ (List.mem_append_right _ h))) (by decide +kernel))) (goodIn_sub (fun _ h => List.mem_cons_of_mem _ (List.mem_append_right _ h)) (by decide +kernel))
set_option maxRecDepth 20000 in
theorem gL_next_X2_next : GoodIn wsL_next (wsV RL 7 RX2 yX2_next wsX2_next) := goodIn_app (goodIn_of _ (by decide +kernel)) ggL_next_X2_next
set_option maxRecDepth 20000 in
theorem ggL_ceiling_X2_ceiling : GoodIn wsL_ceiling wsX2_ceiling := goodIn_ca (goodIn_r _ [6, 7, 8, 9, 10, 11, 12, 13, 14, 15] (by decide +kernel) (by decide +kernel)) (goodIn_sub (fun _ h => List.mem_cons_of_mem _ (List.mem_append_right _ h)) (by decide +kernel))
set_option maxRecDepth 20000 in
theorem gL_ceiling_X2_ceiling : GoodIn wsL_ceiling (wsV RL 17 RX2 yX2_ceiling wsX2_ceiling) := goodIn_app (goodIn_of _ (by decide +kernel)) ggL_ceiling_X2_ceiling
set_option maxRecDepth 20000 in
theorem ggL_join_X2_join : GoodIn wsL_join wsX2_join := goodIn_ca (goodIn_ca (goodIn_r _ [7, 8, 9, 10, 11, 12, 13, 14, 15, 16, 17, 18, 6, 19, 20, 21, 22, 23, 24, 25, 26, 27, 28, 29, 30, 31, 32, 33, 34, 35, 36, 37, 38, 39, 40, 41, 42, 43, 44, 45, 46, 47, 48, 49, 50, 51, 52] (by decide +kernel) (by decide +kernel)) (goodIn_sub (fun _ h => List.mem_cons_of_mem _ (List.mem_append_left _ (List.mem_append_right _ h))) (by decide +kernel))) (goodIn_sub (fun _ h => List.mem_cons_of_mem _ (List.mem_append_right _ h)) (by decide +kernel))
set_option maxRecDepth 20000 in
theorem gL_join_X2_join : GoodIn wsL_join (wsV RL 20 RX2 yX2_join wsX2_join) := goodIn_app (goodIn_of _ (by decide +kernel)) ggL_join_X2_join
set_option maxRecDepth 20000 in
theorem ggL_rate_X2_rate : GoodIn wsL_rate wsX2_rate := goodIn_ca (goodIn_ca (goodIn_ca (goodIn_r _ [8, 9, 10, 11, 7, 12, 13, 14, 15, 16, 17, 18, 19, 20, 21, 22, 23, 24, 25, 26, 27, 28, 29, 30, 31, 32, 33, 34, 35, 36, 37, 38, 39, 40, 41, 42, 43, 44] (by decide +kernel) (by decide +kernel)) (goodIn_sub (fun _ h => List.mem_cons_of_mem _ (List.mem_append_left _ (List.mem_append_left _ (List.mem_append_right _ h)))) (by decide +kernel))) (goodIn_sub (fun _ h => List.mem_cons_of_mem _ (List.mem_append_left _ (List.mem_append_right _ h))) (by decide +kernel))) (goodIn_sub (fun _ h => List.mem_cons_of_mem _ (List.mem_append_right _ h)) (by decide +kernel))
set_option maxRecDepth 20000 in
theorem gL_rate_X2_rate : GoodIn wsL_rate (wsV RL 23 RX2 yX2_rate wsX2_rate) := goodIn_app (goodIn_of _ (by decide +kernel)) ggL_rate_X2_rate
set_option maxRecDepth 20000 in
theorem ggL_slip_X2_slip : GoodIn wsL_slip wsX2_slip := goodIn_ca (goodIn_ca (goodIn_ca (goodIn_r _ [8, 9, 10, 11, 12, 13, 14, 7, 15, 16, 17, 18, 19, 20, 21, 22, 23, 24, 25, 26, 27, 28, 29, 30, 31, 32, 33, 34, 35, 36, 37, 38, 39, 40, 41, 42, 43, 44, 45, 46, 47, 48, 49] (by decide +kernel) (by decide +kernel)) (goodIn_sub (fun _ h => List.mem_cons_of_mem _ (List.mem_append_left _ (List.mem_append_left _ (List.mem_append_right _ h)))) (by decide +kernel))) (goodIn_sub (fun _ h => List.mem_cons_of_mem _ (List.mem_append_left _ (List.mem_append_right _ h))) (by decide +kernel))) (goodIn_sub (fun _ h => List.mem_cons_of_mem _ (List.mem_append_right _ h)) (by decide +kernel))
set_option maxRecDepth 20000 in
theorem gL_slip_X2_slip : GoodIn wsL_slip (wsV RL 29 RX2 yX2_slip wsX2_slip) := goodIn_app (goodIn_of _ (by decide +kernel)) ggL_slip_X2_slip
set_option maxRecDepth 20000 in
theorem ggL_leave_X2_leave : GoodIn wsL_leave wsX2_leave := goodIn_ca (goodIn_ca (goodIn_r _ [7, 8, 9, 10, 6, 11, 12, 13, 14, 15, 16, 17, 18, 19, 20, 21, 22, 23, 24, 25, 26, 27, 28, 29, 30, 31, 32, 33, 34, 35, 36, 37, 38, 39, 40, 41, 42, 43, 44, 45] (by decide +kernel) (by decide +kernel)) (goodIn_sub (fun _ h => List.mem_cons_of_mem _ (List.mem_append_left _ (List.mem_append_right _ h))) (by decide +kernel))) (goodIn_sub (fun _ h => List.mem_cons_of_mem _ (List.mem_append_right _ h)) (by decide +kernel))
set_option maxRecDepth 20000 in
theorem gL_leave_X2_leave : GoodIn wsL_leave (wsV RL 32 RX2 yX2_leave wsX2_leave) := goodIn_app (goodIn_of _ (by decide +kernel)) ggL_leave_X2_leave
set_option maxRecDepth 20000 in
theorem ggL_money_X2_money : GoodIn wsL_money wsX2_money := goodIn_ca (goodIn_r _ [6, 7, 8, 9, 5, 10, 11, 12, 13, 14, 15, 16, 17, 18, 19, 20, 21, 22, 23, 24, 25, 26, 27, 28, 29, 30, 31, 32] (by decide +kernel) (by decide +kernel)) (goodIn_sub (fun _ h => List.mem_cons_of_mem _ (List.mem_append_right _ h)) (by decide +kernel))
set_option maxRecDepth 20000 in
theorem gL_money_X2_money : GoodIn wsL_money (wsV RL 35 RX2 yX2_money wsX2_money) := goodIn_app (goodIn_of _ (by decide +kernel)) ggL_money_X2_money
set_option maxRecDepth 20000 in
theorem ggL_offerMonth_X2_offerMonth : GoodIn wsL_offerMonth wsX2_offerMonth := goodIn_ca (goodIn_r _ [6, 7, 8, 9, 5, 10, 11, 12, 13, 14, 15, 16, 17, 18, 19, 20, 21, 22, 23, 24, 25, 26, 27, 28, 29, 30, 31, 32] (by decide +kernel) (by decide +kernel)) (goodIn_sub (fun _ h => List.mem_cons_of_mem _ (List.mem_append_right _ h)) (by decide +kernel))
set_option maxRecDepth 20000 in
theorem gL_offerMonth_X2_offerMonth : GoodIn wsL_offerMonth (wsV RL 38 RX2 yX2_offerMonth wsX2_offerMonth) := goodIn_app (goodIn_of _ (by decide +kernel)) ggL_offerMonth_X2_offerMonth
set_option maxRecDepth 20000 in
theorem ggL_offerPrice_X2_offerPrice : GoodIn wsL_offerPrice wsX2_offerPrice := goodIn_ca (goodIn_r _ [6, 7, 8, 9, 5, 10, 11, 12, 13, 14, 15, 16, 17, 18, 19, 20, 21, 22, 23, 24, 25, 26, 27, 28, 29, 30, 31, 32] (by decide +kernel) (by decide +kernel)) (goodIn_sub (fun _ h => List.mem_cons_of_mem _ (List.mem_append_right _ h)) (by decide +kernel))
set_option maxRecDepth 20000 in
theorem gL_offerPrice_X2_offerPrice : GoodIn wsL_offerPrice (wsV RL 41 RX2 yX2_offerPrice wsX2_offerPrice) := goodIn_app (goodIn_of _ (by decide +kernel)) ggL_offerPrice_X2_offerPrice
set_option maxRecDepth 20000 in
theorem ggL_resets_X2_resets : GoodIn wsL_resets wsX2_resets := goodIn_ca (goodIn_r _ [6, 7, 8, 9, 5, 10, 11, 12, 13, 14, 15, 16, 17, 18, 19, 20, 21, 22, 23, 24, 25, 26, 27, 28, 29, 30, 31, 32] (by decide +kernel) (by decide +kernel)) (goodIn_sub (fun _ h => List.mem_cons_of_mem _ (List.mem_append_right _ h)) (by decide +kernel))
set_option maxRecDepth 20000 in
theorem gL_resets_X2_resets : GoodIn wsL_resets (wsV RL 44 RX2 yX2_resets wsX2_resets) := goodIn_app (goodIn_of _ (by decide +kernel)) ggL_resets_X2_resets
set_option maxRecDepth 20000 in
theorem ggL_shares_X2_shares : GoodIn wsL_shares wsX2_shares := goodIn_ca (goodIn_r _ [6, 7, 8, 9, 5, 10, 11, 12, 13, 14, 15, 16, 17, 18, 19, 20, 21, 22, 23, 24, 25, 26, 27, 28, 29, 30, 31, 32, 33, 34, 35, 36, 37, 38, 39, 40, 41, 42, 43, 44] (by decide +kernel) (by decide +kernel)) (goodIn_sub (fun _ h => List.mem_cons_of_mem _ (List.mem_append_right _ h)) (by decide +kernel))
set_option maxRecDepth 20000 in
theorem gL_shares_X2_shares : GoodIn wsL_shares (wsV RL 47 RX2 yX2_shares wsX2_shares) := goodIn_app (goodIn_of _ (by decide +kernel)) ggL_shares_X2_shares
set_option maxRecDepth 20000 in
theorem ggL_bought_X2_bought : GoodIn wsL_bought wsX2_bought := goodIn_ca (goodIn_r _ [6, 7, 8, 9, 5, 10, 11, 12, 13, 14, 15, 16, 17, 18, 19, 20, 21, 22, 23, 24, 25, 26, 27, 28, 29, 30, 31, 32, 33, 34, 35, 36, 37, 38, 39, 40, 41, 42, 43, 44, 45, 46, 47, 48, 49] (by decide +kernel) (by decide +kernel)) (goodIn_sub (fun _ h => List.mem_cons_of_mem _ (List.mem_append_right _ h)) (by decide +kernel))
set_option maxRecDepth 20000 in
theorem gL_bought_X2_bought : GoodIn wsL_bought (wsV RL 50 RX2 yX2_bought wsX2_bought) := goodIn_app (goodIn_of _ (by decide +kernel)) ggL_bought_X2_bought
set_option maxRecDepth 20000 in
theorem ggL_paidEach_X2_paidEach : GoodIn wsL_paidEach wsX2_paidEach := goodIn_ca (goodIn_r _ [6, 7, 8, 9, 5, 10, 11, 12, 13, 14, 15, 16, 17, 18, 19, 20, 21, 22, 23, 24, 25, 26, 27, 28, 29, 30, 31, 32, 33, 34, 35, 36, 37, 38, 39, 40, 41, 42, 43, 44, 45, 46, 47, 48, 49] (by decide +kernel) (by decide +kernel)) (goodIn_sub (fun _ h => List.mem_cons_of_mem _ (List.mem_append_right _ h)) (by decide +kernel))
set_option maxRecDepth 20000 in
theorem gL_paidEach_X2_paidEach : GoodIn wsL_paidEach (wsV RL 53 RX2 yX2_paidEach wsX2_paidEach) := goodIn_app (goodIn_of _ (by decide +kernel)) ggL_paidEach_X2_paidEach
set_option maxRecDepth 20000 in
theorem ggL_counted_X2_counted : GoodIn wsL_counted wsX2_counted := goodIn_ca (goodIn_r _ [6, 7, 8, 9, 10, 11, 5, 12, 13, 14, 15, 16, 17, 18, 19, 20, 21, 22, 23, 24, 25, 26, 27, 28, 29, 30, 31, 32, 33, 34, 35, 36, 37] (by decide +kernel) (by decide +kernel)) (goodIn_sub (fun _ h => List.mem_cons_of_mem _ (List.mem_append_right _ h)) (by decide +kernel))
set_option maxRecDepth 20000 in
theorem gL_counted_X2_counted : GoodIn wsL_counted (wsV RL 56 RX2 yX2_counted wsX2_counted) := goodIn_app (goodIn_of _ (by decide +kernel)) ggL_counted_X2_counted
set_option maxRecDepth 20000 in
theorem ggL_traced_X2_traced : GoodIn wsL_traced wsX2_traced := goodIn_ca (goodIn_r _ [6, 7, 8, 9, 5, 10, 11, 12, 13, 14, 15, 16, 17, 18, 19, 20, 21, 22, 23, 24, 25, 26, 27, 28, 29, 30, 31, 32] (by decide +kernel) (by decide +kernel)) (goodIn_sub (fun _ h => List.mem_cons_of_mem _ (List.mem_append_right _ h)) (by decide +kernel))
set_option maxRecDepth 20000 in
theorem gL_traced_X2_traced : GoodIn wsL_traced (wsV RL 60 RX2 yX2_traced wsX2_traced) := goodIn_app (goodIn_of _ (by decide +kernel)) ggL_traced_X2_traced
set_option maxRecDepth 20000 in
theorem ggL_kept_X2_kept : GoodIn wsL_kept wsX2_kept := goodIn_ca (goodIn_r _ [6, 7, 8, 9, 5, 10, 11, 12, 13, 14, 15, 16, 17, 18, 19, 20, 21, 22, 23, 24, 25, 26, 27, 28, 29, 30, 31, 32] (by decide +kernel) (by decide +kernel)) (goodIn_sub (fun _ h => List.mem_cons_of_mem _ (List.mem_append_right _ h)) (by decide +kernel))
set_option maxRecDepth 20000 in
theorem gL_kept_X2_kept : GoodIn wsL_kept (wsV RL 64 RX2 yX2_kept wsX2_kept) := goodIn_app (goodIn_of _ (by decide +kernel)) ggL_kept_X2_kept
set_option maxRecDepth 20000 in
theorem ggL_sell_X2_sell : GoodIn wsL_sell wsX2_sell := goodIn_ca (goodIn_ca (goodIn_ca (goodIn_r _ [8, 9, 10, 11, 12, 13, 14, 15, 16, 17, 18, 7, 19, 20, 21, 22, 23, 24, 25, 26, 27, 28, 29, 30, 31, 32, 33, 34, 35, 36, 37, 38, 39, 40, 41, 42, 43, 44, 45, 46, 47, 48, 49, 50, 51, 52, 53, 54, 55, 56, 57, 58, 59, 60, 61, 62, 63, 64, 65, 66, 67, 68, 69, 70, 71, 72, 73, 74, 75, 76, 77, 78, 79, 80, 81, 82, 83] (by decide +kernel) (by decide +kernel)) (goodIn_sub (fun _ h => List.mem_cons_of_mem _ (List.mem_append_left _ (List.mem_append_left _ (List.mem_append_right _ h)))) (by decide +kernel))) (goodIn_sub (fun _ h => List.mem_cons_of_mem _ (List.mem_append_left _ (List.mem_append_right _ h))) (by decide +kernel))) (goodIn_sub (fun _ h => List.mem_cons_of_mem _ (List.mem_append_right _ h)) (by decide +kernel))
set_option maxRecDepth 20000 in
theorem gL_sell_X2_sell : GoodIn wsL_sell (wsV RL 67 RX2 yX2_sell wsX2_sell) := goodIn_app (goodIn_of _ (by decide +kernel)) ggL_sell_X2_sell
set_option maxRecDepth 20000 in
theorem ggL_pay_X2_pay : GoodIn wsL_pay wsX2_pay := goodIn_ca (goodIn_r _ [6, 7, 8, 9, 5, 10, 11, 12, 13, 14, 15, 16, 17, 18, 19, 20, 21, 22, 23, 24, 25, 26, 27, 28, 29, 30, 31, 32] (by decide +kernel) (by decide +kernel)) (goodIn_sub (fun _ h => List.mem_cons_of_mem _ (List.mem_append_right _ h)) (by decide +kernel))
set_option maxRecDepth 20000 in
theorem gL_pay_X2_pay : GoodIn wsL_pay (wsV RL 70 RX2 yX2_pay wsX2_pay) := goodIn_app (goodIn_of _ (by decide +kernel)) ggL_pay_X2_pay
set_option maxRecDepth 20000 in
theorem ggL_gain_X2_gain : GoodIn wsL_gain wsX2_gain := goodIn_ca (goodIn_r _ [6, 7, 8, 9, 5, 10, 11, 12, 13, 14, 15, 16, 17, 18, 19, 20, 21, 22, 23, 24, 25, 26, 27, 28, 29, 30, 31, 32] (by decide +kernel) (by decide +kernel)) (goodIn_sub (fun _ h => List.mem_cons_of_mem _ (List.mem_append_right _ h)) (by decide +kernel))
set_option maxRecDepth 20000 in
theorem gL_gain_X2_gain : GoodIn wsL_gain (wsV RL 73 RX2 yX2_gain wsX2_gain) := goodIn_app (goodIn_of _ (by decide +kernel)) ggL_gain_X2_gain
set_option maxRecDepth 20000 in
theorem ggL_gainNow_X2_gainNow : GoodIn wsL_gainNow wsX2_gainNow := goodIn_ca (goodIn_r _ [6, 7, 8, 9, 10, 11, 5, 12, 13, 14, 15, 16, 17, 18, 19, 20, 21, 22, 23, 24, 25, 26, 27, 28, 29, 30, 31, 32, 33, 34, 35, 36, 37, 38, 39, 40, 41, 42, 43, 44, 45, 46, 47, 48, 49, 50, 51, 52, 53, 54, 55, 56, 57, 58, 59, 60, 61, 62, 63, 64, 65, 66, 67, 68, 69, 70] (by decide +kernel) (by decide +kernel)) (goodIn_sub (fun _ h => List.mem_cons_of_mem _ (List.mem_append_right _ h)) (by decide +kernel))
set_option maxRecDepth 20000 in
theorem gL_gainNow_X2_gainNow : GoodIn wsL_gainNow (wsV RL 76 RX2 yX2_gainNow wsX2_gainNow) := goodIn_app (goodIn_of _ (by decide +kernel)) ggL_gainNow_X2_gainNow
set_option maxRecDepth 20000 in
theorem ggL_law_X2_init : GoodIn wsL_law wsX2_init := goodIn_r _ [9, 10, 11, 12, 13, 14, 15, 16, 17, 18, 19, 461, 462, 463, 464, 465] (by decide +kernel) (by decide +kernel)
set_option maxRecDepth 20000 in
theorem gL_law_X2_init : GoodIn wsL_law (wsX2_init) := ggL_law_X2_init
set_option maxRecDepth 20000 in
theorem ggL_law_X3_init : GoodIn wsL_law wsX3_init := goodIn_r _ [22, 23, 11, 12, 24, 25, 26, 27, 28, 29, 30, 31, 32, 33, 6, 34, 35, 36, 37, 38, 39, 40, 41, 42, 43, 44, 466, 467, 468, 469, 470, 471, 472, 473, 474, 475, 476, 477, 478, 479, 480, 481, 482, 483, 484, 485] (by decide +kernel) (by decide +kernel)
set_option maxRecDepth 20000 in
theorem gL_law_X3_init : GoodIn wsL_law (wsX3_init) := ggL_law_X3_init
set_option maxRecDepth 20000 in
theorem ggL_law_L_next : GoodIn wsL_law wsL_next := goodIn_ca (goodIn_ca (goodIn_r _ [48, 49, 50, 51, 52, 53, 2, 54, 55, 56, 57, 58, 59, 16, 17, 60, 61, 62, 63, 64, 65, 66, 14, 19, 67, 68, 69, 70, 71, 72, 73, 74, 75, 76, 77, 78, 79, 80, 81, 82, 83, 84, 85, 86, 87, 88, 89, 90, 91, 92, 93, 94, 95, 96, 97, 98, 99, 11, 12, 100, 101, 102, 103, 104, 105, 106, 107, 108, 109, 110, 111, 112, 113, 114, 115, 116, 117, 118, 119, 120, 461, 462, 463, 464, 465, 486, 487, 488, 489, 490, 491, 492, 493, 494, 495, 496, 497, 498, 499, 500, 501, 502, 503, 504, 505, 506] (by decide +kernel) (by decide +kernel)) (goodIn_sub (fun _ h => List.mem_append_left _ (List.mem_append_left _ (List.mem_append_right _ h))) (by decide +kernel))) (goodIn_sub (fun _ h => List.mem_append_left _ (List.mem_append_right _ h)) (by decide +kernel))
set_option maxRecDepth 20000 in
theorem gL_law_L_next : GoodIn wsL_law (va_wsS RL 83 yL_next wsL_next) := goodIn_app (goodIn_of _ (by decide +kernel)) ggL_law_L_next
set_option maxRecDepth 20000 in
theorem ggL_law_X3_next : GoodIn wsL_law wsX3_next := goodIn_r _ [124, 125, 24, 126, 31, 26, 127, 128, 5, 129, 130, 131, 132, 133, 134, 135, 136, 137, 138, 36, 28, 32, 41, 42, 43, 44, 34, 37, 38, 139, 140, 141, 142, 466, 467, 468, 469, 470, 471, 472, 473, 474, 475, 476, 477, 478, 479, 480, 481, 482, 483, 484, 485] (by decide +kernel) (by decide +kernel)
set_option maxRecDepth 20000 in
theorem gL_law_X3_next : GoodIn wsL_law (wsV RL 88 RX3 yX3_next wsX3_next) := goodIn_app (goodIn_of _ (by decide +kernel)) ggL_law_X3_next
set_option maxRecDepth 20000 in
theorem ggL_law_X3_thrown : GoodIn wsL_law wsX3_thrown := goodIn_r _ [146, 134, 466, 467, 468, 469, 470, 471, 472, 473, 474, 475, 476, 477, 478, 479, 480, 481, 482, 483, 484, 485] (by decide +kernel) (by decide +kernel)
set_option maxRecDepth 20000 in
theorem gL_law_X3_thrown : GoodIn wsL_law (wsV RL 89 RX3 yX3_thrown wsX3_thrown) := goodIn_app (goodIn_of _ (by decide +kernel)) ggL_law_X3_thrown
set_option maxRecDepth 20000 in
theorem ggL_law_X2_month : GoodIn wsL_law wsX2_month := goodIn_r _ [150, 16, 461, 462, 463, 464, 465] (by decide +kernel) (by decide +kernel)
set_option maxRecDepth 20000 in
theorem gL_law_X2_month : GoodIn wsL_law (wsV RL 93 RX2 yX2_month wsX2_month) := goodIn_app (goodIn_of _ (by decide +kernel)) ggL_law_X2_month
set_option maxRecDepth 20000 in
theorem ggL_law_X3_month : GoodIn wsL_law wsX3_month := goodIn_r _ [154, 134, 24, 466, 467, 468, 469, 470, 471, 472, 473, 474, 475, 476, 477, 478, 479, 480, 481, 482, 483, 484, 485] (by decide +kernel) (by decide +kernel)
set_option maxRecDepth 20000 in
theorem gL_law_X3_month : GoodIn wsL_law (wsV RL 96 RX3 yX3_month wsX3_month) := goodIn_app (goodIn_of _ (by decide +kernel)) ggL_law_X3_month
set_option maxRecDepth 20000 in
theorem ggL_law_L_ceiling : GoodIn wsL_law wsL_ceiling := goodIn_ca (goodIn_r _ [157, 49, 158, 159, 160, 2, 161, 55, 56, 162, 19, 461, 462, 463, 464, 465] (by decide +kernel) (by decide +kernel)) (goodIn_sub (fun _ h => List.mem_append_left _ (List.mem_append_left _ (List.mem_append_right _ h))) (by decide +kernel))
set_option maxRecDepth 20000 in
theorem gL_law_L_ceiling : GoodIn wsL_law (va_wsS RL 97 yL_ceiling wsL_ceiling) := goodIn_app (goodIn_of _ (by decide +kernel)) ggL_law_L_ceiling
set_option maxRecDepth 20000 in
theorem ggL_law_X3_ceiling : GoodIn wsL_law wsX3_ceiling := goodIn_r _ [166, 167, 28, 127, 128, 5, 129, 168, 169, 170, 171, 134, 466, 467, 468, 469, 470, 471, 472, 473, 474, 475, 476, 477, 478, 479, 480, 481, 482, 483, 484, 485] (by decide +kernel) (by decide +kernel)
set_option maxRecDepth 20000 in
theorem gL_law_X3_ceiling : GoodIn wsL_law (wsV RL 99 RX3 yX3_ceiling wsX3_ceiling) := goodIn_app (goodIn_of _ (by decide +kernel)) ggL_law_X3_ceiling
set_option maxRecDepth 20000 in
theorem ggL_law_L_join : GoodIn wsL_law wsL_join := goodIn_ca (goodIn_ca (goodIn_r _ [174, 49, 50, 175, 176, 177, 2, 178, 57, 58, 16, 15, 14, 13, 179, 68, 17, 180, 181, 182, 55, 56, 183, 184, 185, 11, 12, 80, 111, 6, 96, 186, 83, 71, 461, 462, 463, 464, 465, 486, 487, 488, 489, 490, 491, 492, 493, 494, 495, 496, 497, 498, 499] (by decide +kernel) (by decide +kernel)) (goodIn_sub (fun _ h => List.mem_append_left _ (List.mem_append_right _ h)) (by decide +kernel))) (goodIn_sub (fun _ h => List.mem_append_left _ (List.mem_append_left _ (List.mem_append_right _ h))) (by decide +kernel))
set_option maxRecDepth 20000 in
theorem gL_law_L_join : GoodIn wsL_law (va_wsS RL 100 yL_join wsL_join) := goodIn_app (goodIn_of _ (by decide +kernel)) ggL_law_L_join
set_option maxRecDepth 20000 in
theorem ggL_law_X3_join : GoodIn wsL_law wsX3_join := goodIn_r _ [190, 24, 126, 29, 36, 127, 128, 5, 129, 130, 131, 132, 133, 134, 466, 467, 468, 469, 470, 471, 472, 473, 474, 475, 476, 477, 478, 479, 480, 481, 482, 483, 484, 485] (by decide +kernel) (by decide +kernel)
set_option maxRecDepth 20000 in
theorem gL_law_X3_join : GoodIn wsL_law (wsV RL 102 RX3 yX3_join wsX3_join) := goodIn_app (goodIn_of _ (by decide +kernel)) ggL_law_X3_join
set_option maxRecDepth 20000 in
theorem ggL_law_L_rate : GoodIn wsL_law wsL_rate := goodIn_ca (goodIn_ca (goodIn_ca (goodIn_r _ [193, 194, 49, 50, 195, 196, 197, 2, 198, 199, 200, 201, 202, 203, 204, 14, 180, 181, 182, 55, 56, 205, 206, 207, 57, 58, 486, 487, 488, 489, 490, 491, 492, 493, 494, 495, 496, 497, 498, 499, 461, 462, 463, 464, 465] (by decide +kernel) (by decide +kernel)) (goodIn_sub (fun _ h => List.mem_append_right _ h) (by decide +kernel))) (goodIn_sub (fun _ h => List.mem_append_left _ (List.mem_append_left _ (List.mem_append_right _ h))) (by decide +kernel))) (goodIn_sub (fun _ h => List.mem_append_left _ (List.mem_append_right _ h)) (by decide +kernel))
set_option maxRecDepth 20000 in
theorem gL_law_L_rate : GoodIn wsL_law (va_wsS RL 103 yL_rate wsL_rate) := goodIn_app (goodIn_of _ (by decide +kernel)) ggL_law_L_rate
set_option maxRecDepth 20000 in
theorem ggL_law_X3_rate : GoodIn wsL_law wsX3_rate := goodIn_r _ [211, 29, 212, 213, 214, 5, 215, 126, 127, 128, 129, 216, 217, 218, 219, 31, 220, 221, 222, 223, 134, 466, 467, 468, 469, 470, 471, 472, 473, 474, 475, 476, 477, 478, 479, 480, 481, 482, 483, 484, 485] (by decide +kernel) (by decide +kernel)
set_option maxRecDepth 20000 in
theorem gL_law_X3_rate : GoodIn wsL_law (wsV RL 106 RX3 yX3_rate wsX3_rate) := goodIn_app (goodIn_of _ (by decide +kernel)) ggL_law_X3_rate
set_option maxRecDepth 20000 in
theorem ggL_law_L_slip : GoodIn wsL_law wsL_slip := goodIn_ca (goodIn_ca (goodIn_ca (goodIn_r _ [226, 194, 49, 50, 227, 228, 229, 2, 230, 55, 56, 231, 199, 200, 201, 202, 203, 204, 14, 205, 206, 207, 57, 58, 232, 68, 233, 234, 186, 76, 235, 461, 462, 463, 464, 465, 486, 487, 488, 489, 490, 491, 492, 493, 494, 495, 496, 497, 498, 499] (by decide +kernel) (by decide +kernel)) (goodIn_sub (fun _ h => List.mem_append_left _ (List.mem_append_left _ (List.mem_append_right _ h))) (by decide +kernel))) (goodIn_sub (fun _ h => List.mem_append_right _ h) (by decide +kernel))) (goodIn_sub (fun _ h => List.mem_append_left _ (List.mem_append_right _ h)) (by decide +kernel))
set_option maxRecDepth 20000 in
theorem gL_law_L_slip : GoodIn wsL_law (va_wsS RL 107 yL_slip wsL_slip) := goodIn_app (goodIn_of _ (by decide +kernel)) ggL_law_L_slip
set_option maxRecDepth 20000 in
theorem ggL_law_X3_slip : GoodIn wsL_law wsX3_slip := goodIn_r _ [239, 240, 29, 32, 35, 212, 213, 214, 5, 215, 126, 127, 128, 129, 216, 217, 218, 219, 31, 220, 221, 222, 223, 134, 466, 467, 468, 469, 470, 471, 472, 473, 474, 475, 476, 477, 478, 479, 480, 481, 482, 483, 484, 485] (by decide +kernel) (by decide +kernel)
set_option maxRecDepth 20000 in
theorem gL_law_X3_slip : GoodIn wsL_law (wsV RL 109 RX3 yX3_slip wsX3_slip) := goodIn_app (goodIn_of _ (by decide +kernel)) ggL_law_X3_slip
set_option maxRecDepth 20000 in
theorem ggL_law_L_leave : GoodIn wsL_law wsL_leave := goodIn_ca (goodIn_ca (goodIn_r _ [243, 194, 50, 244, 245, 246, 2, 247, 199, 200, 201, 202, 203, 204, 14, 205, 206, 207, 57, 58, 248, 68, 249, 250, 76, 251, 252, 461, 462, 463, 464, 465, 486, 487, 488, 489, 490, 491, 492, 493, 494, 495, 496, 497, 498, 499] (by decide +kernel) (by decide +kernel)) (goodIn_sub (fun _ h => List.mem_append_right _ h) (by decide +kernel))) (goodIn_sub (fun _ h => List.mem_append_left _ (List.mem_append_right _ h)) (by decide +kernel))
set_option maxRecDepth 20000 in
theorem gL_law_L_leave : GoodIn wsL_law (va_wsS RL 110 yL_leave wsL_leave) := goodIn_app (goodIn_of _ (by decide +kernel)) ggL_law_L_leave
set_option maxRecDepth 20000 in
theorem ggL_law_X3_leave : GoodIn wsL_law wsX3_leave := goodIn_r _ [256, 31, 33, 32, 212, 213, 214, 5, 215, 126, 127, 128, 129, 216, 217, 218, 219, 130, 131, 132, 133, 134, 466, 467, 468, 469, 470, 471, 472, 473, 474, 475, 476, 477, 478, 479, 480, 481, 482, 483, 484, 485] (by decide +kernel) (by decide +kernel)
set_option maxRecDepth 20000 in
theorem gL_law_X3_leave : GoodIn wsL_law (wsV RL 112 RX3 yX3_leave wsX3_leave) := goodIn_app (goodIn_of _ (by decide +kernel)) ggL_law_X3_leave
set_option maxRecDepth 20000 in
theorem ggL_law_L_money : GoodIn wsL_law wsL_money := goodIn_ca (goodIn_r _ [259, 194, 260, 261, 262, 2, 263, 199, 200, 201, 202, 203, 204, 14, 486, 487, 488, 489, 490, 491, 492, 493, 494, 495, 496, 497, 498, 499, 461, 462, 463, 464, 465] (by decide +kernel) (by decide +kernel)) (goodIn_sub (fun _ h => List.mem_append_right _ h) (by decide +kernel))
set_option maxRecDepth 20000 in
theorem gL_law_L_money : GoodIn wsL_law (va_wsS RL 113 yL_money wsL_money) := goodIn_app (goodIn_of _ (by decide +kernel)) ggL_law_L_money
set_option maxRecDepth 20000 in
theorem ggL_law_X3_money : GoodIn wsL_law wsX3_money := goodIn_r _ [267, 32, 212, 213, 214, 5, 215, 126, 127, 128, 129, 168, 169, 170, 171, 134, 466, 467, 468, 469, 470, 471, 472, 473, 474, 475, 476, 477, 478, 479, 480, 481, 482, 483, 484, 485] (by decide +kernel) (by decide +kernel)
set_option maxRecDepth 20000 in
theorem gL_law_X3_money : GoodIn wsL_law (wsV RL 115 RX3 yX3_money wsX3_money) := goodIn_app (goodIn_of _ (by decide +kernel)) ggL_law_X3_money
set_option maxRecDepth 20000 in
theorem ggL_law_L_offerMonth : GoodIn wsL_law wsL_offerMonth := goodIn_ca (goodIn_r _ [270, 194, 271, 272, 273, 2, 274, 199, 200, 201, 202, 203, 204, 14, 486, 487, 488, 489, 490, 491, 492, 493, 494, 495, 496, 497, 498, 499, 461, 462, 463, 464, 465] (by decide +kernel) (by decide +kernel)) (goodIn_sub (fun _ h => List.mem_append_right _ h) (by decide +kernel))
set_option maxRecDepth 20000 in
theorem gL_law_L_offerMonth : GoodIn wsL_law (va_wsS RL 116 yL_offerMonth wsL_offerMonth) := goodIn_app (goodIn_of _ (by decide +kernel)) ggL_law_L_offerMonth
set_option maxRecDepth 20000 in
theorem ggL_law_X3_offerMonth : GoodIn wsL_law wsX3_offerMonth := goodIn_r _ [278, 36, 212, 213, 214, 5, 215, 126, 127, 128, 129, 168, 169, 170, 171, 134, 466, 467, 468, 469, 470, 471, 472, 473, 474, 475, 476, 477, 478, 479, 480, 481, 482, 483, 484, 485] (by decide +kernel) (by decide +kernel)
set_option maxRecDepth 20000 in
theorem gL_law_X3_offerMonth : GoodIn wsL_law (wsV RL 118 RX3 yX3_offerMonth wsX3_offerMonth) := goodIn_app (goodIn_of _ (by decide +kernel)) ggL_law_X3_offerMonth
set_option maxRecDepth 20000 in
theorem ggL_law_L_offerPrice : GoodIn wsL_law wsL_offerPrice := goodIn_ca (goodIn_r _ [281, 194, 282, 283, 284, 2, 285, 199, 200, 201, 202, 203, 204, 14, 486, 487, 488, 489, 490, 491, 492, 493, 494, 495, 496, 497, 498, 499, 461, 462, 463, 464, 465] (by decide +kernel) (by decide +kernel)) (goodIn_sub (fun _ h => List.mem_append_right _ h) (by decide +kernel))
set_option maxRecDepth 20000 in
theorem gL_law_L_offerPrice : GoodIn wsL_law (va_wsS RL 119 yL_offerPrice wsL_offerPrice) := goodIn_app (goodIn_of _ (by decide +kernel)) ggL_law_L_offerPrice
set_option maxRecDepth 20000 in
theorem ggL_law_X3_offerPrice : GoodIn wsL_law wsX3_offerPrice := goodIn_r _ [289, 26, 36, 212, 213, 214, 5, 215, 126, 127, 128, 129, 168, 169, 170, 171, 134, 466, 467, 468, 469, 470, 471, 472, 473, 474, 475, 476, 477, 478, 479, 480, 481, 482, 483, 484, 485] (by decide +kernel) (by decide +kernel)
set_option maxRecDepth 20000 in
theorem gL_law_X3_offerPrice : GoodIn wsL_law (wsV RL 121 RX3 yX3_offerPrice wsX3_offerPrice) := goodIn_app (goodIn_of _ (by decide +kernel)) ggL_law_X3_offerPrice
set_option maxRecDepth 20000 in
theorem ggL_law_L_resets : GoodIn wsL_law wsL_resets := goodIn_ca (goodIn_r _ [292, 194, 293, 294, 295, 2, 296, 199, 200, 201, 202, 203, 204, 14, 486, 487, 488, 489, 490, 491, 492, 493, 494, 495, 496, 497, 498, 499, 461, 462, 463, 464, 465] (by decide +kernel) (by decide +kernel)) (goodIn_sub (fun _ h => List.mem_append_right _ h) (by decide +kernel))
set_option maxRecDepth 20000 in
theorem gL_law_L_resets : GoodIn wsL_law (va_wsS RL 122 yL_resets wsL_resets) := goodIn_app (goodIn_of _ (by decide +kernel)) ggL_law_L_resets
set_option maxRecDepth 20000 in
theorem ggL_law_X3_resets : GoodIn wsL_law wsX3_resets := goodIn_r _ [300, 38, 212, 213, 214, 5, 215, 126, 127, 128, 129, 168, 169, 170, 171, 134, 466, 467, 468, 469, 470, 471, 472, 473, 474, 475, 476, 477, 478, 479, 480, 481, 482, 483, 484, 485] (by decide +kernel) (by decide +kernel)
set_option maxRecDepth 20000 in
theorem gL_law_X3_resets : GoodIn wsL_law (wsV RL 124 RX3 yX3_resets wsX3_resets) := goodIn_app (goodIn_of _ (by decide +kernel)) ggL_law_X3_resets
set_option maxRecDepth 20000 in
theorem ggL_law_L_shares : GoodIn wsL_law wsL_shares := goodIn_ca (goodIn_r _ [303, 194, 304, 305, 306, 2, 307, 199, 200, 201, 202, 203, 204, 14, 308, 68, 309, 310, 111, 461, 462, 463, 464, 465, 486, 487, 488, 489, 490, 491, 492, 493, 494, 495, 496, 497, 498, 499, 500, 501, 502, 503, 504, 505, 506] (by decide +kernel) (by decide +kernel)) (goodIn_sub (fun _ h => List.mem_append_right _ h) (by decide +kernel))
set_option maxRecDepth 20000 in
theorem gL_law_L_shares : GoodIn wsL_law (va_wsS RL 125 yL_shares wsL_shares) := goodIn_app (goodIn_of _ (by decide +kernel)) ggL_law_L_shares
set_option maxRecDepth 20000 in
theorem ggL_law_X3_shares : GoodIn wsL_law wsX3_shares := goodIn_r _ [314, 212, 213, 214, 5, 215, 126, 127, 128, 129, 168, 169, 170, 171, 134, 315, 316, 317, 318, 42, 466, 467, 468, 469, 470, 471, 472, 473, 474, 475, 476, 477, 478, 479, 480, 481, 482, 483, 484, 485] (by decide +kernel) (by decide +kernel)
set_option maxRecDepth 20000 in
theorem gL_law_X3_shares : GoodIn wsL_law (wsV RL 127 RX3 yX3_shares wsX3_shares) := goodIn_app (goodIn_of _ (by decide +kernel)) ggL_law_X3_shares
set_option maxRecDepth 20000 in
theorem ggL_law_L_bought : GoodIn wsL_law wsL_bought := goodIn_ca (goodIn_r _ [321, 194, 322, 323, 324, 2, 325, 199, 200, 201, 202, 203, 204, 14, 326, 327, 328, 329, 68, 330, 331, 111, 61, 62, 500, 501, 502, 503, 504, 505, 506, 461, 462, 463, 464, 465, 486, 487, 488, 489, 490, 491, 492, 493, 494, 495, 496, 497, 498, 499] (by decide +kernel) (by decide +kernel)) (goodIn_sub (fun _ h => List.mem_append_right _ h) (by decide +kernel))
set_option maxRecDepth 20000 in
theorem gL_law_L_bought : GoodIn wsL_law (va_wsS RL 128 yL_bought wsL_bought) := goodIn_app (goodIn_of _ (by decide +kernel)) ggL_law_L_bought
set_option maxRecDepth 20000 in
theorem ggL_law_X3_bought : GoodIn wsL_law wsX3_bought := goodIn_r _ [335, 41, 212, 213, 214, 5, 215, 126, 127, 128, 129, 168, 169, 170, 171, 134, 466, 467, 468, 469, 470, 471, 472, 473, 474, 475, 476, 477, 478, 479, 480, 481, 482, 483, 484, 485] (by decide +kernel) (by decide +kernel)
set_option maxRecDepth 20000 in
theorem gL_law_X3_bought : GoodIn wsL_law (wsV RL 130 RX3 yX3_bought wsX3_bought) := goodIn_app (goodIn_of _ (by decide +kernel)) ggL_law_X3_bought
set_option maxRecDepth 20000 in
theorem ggL_law_L_paidEach : GoodIn wsL_law wsL_paidEach := goodIn_ca (goodIn_r _ [338, 194, 339, 340, 341, 2, 342, 199, 200, 201, 202, 203, 204, 14, 326, 327, 328, 329, 68, 330, 331, 111, 61, 62, 500, 501, 502, 503, 504, 505, 506, 461, 462, 463, 464, 465, 486, 487, 488, 489, 490, 491, 492, 493, 494, 495, 496, 497, 498, 499] (by decide +kernel) (by decide +kernel)) (goodIn_sub (fun _ h => List.mem_append_right _ h) (by decide +kernel))
set_option maxRecDepth 20000 in
theorem gL_law_L_paidEach : GoodIn wsL_law (va_wsS RL 131 yL_paidEach wsL_paidEach) := goodIn_app (goodIn_of _ (by decide +kernel)) ggL_law_L_paidEach
set_option maxRecDepth 20000 in
theorem ggL_law_X3_paidEach : GoodIn wsL_law wsX3_paidEach := goodIn_r _ [346, 41, 43, 212, 213, 214, 5, 215, 126, 127, 128, 129, 168, 169, 170, 171, 134, 466, 467, 468, 469, 470, 471, 472, 473, 474, 475, 476, 477, 478, 479, 480, 481, 482, 483, 484, 485] (by decide +kernel) (by decide +kernel)
set_option maxRecDepth 20000 in
theorem gL_law_X3_paidEach : GoodIn wsL_law (wsV RL 133 RX3 yX3_paidEach wsX3_paidEach) := goodIn_app (goodIn_of _ (by decide +kernel)) ggL_law_X3_paidEach
set_option maxRecDepth 20000 in
theorem ggL_law_L_counted : GoodIn wsL_law wsL_counted := goodIn_ca (goodIn_r _ [349, 194, 350, 351, 352, 2, 353, 203, 204, 199, 200, 201, 202, 14, 93, 68, 94, 95, 96, 461, 462, 463, 464, 465, 486, 487, 488, 489, 490, 491, 492, 493, 494, 495, 496, 497, 498, 499] (by decide +kernel) (by decide +kernel)) (goodIn_sub (fun _ h => List.mem_append_right _ h) (by decide +kernel))
set_option maxRecDepth 20000 in
theorem gL_law_L_counted : GoodIn wsL_law (va_wsS RL 134 yL_counted wsL_counted) := goodIn_app (goodIn_of _ (by decide +kernel)) ggL_law_L_counted
set_option maxRecDepth 20000 in
theorem ggL_law_X3_counted : GoodIn wsL_law wsX3_counted := goodIn_r _ [357, 212, 213, 214, 5, 215, 126, 127, 128, 129, 168, 169, 170, 171, 134, 139, 140, 141, 142, 41, 26, 44, 466, 467, 468, 469, 470, 471, 472, 473, 474, 475, 476, 477, 478, 479, 480, 481, 482, 483, 484, 485] (by decide +kernel) (by decide +kernel)
set_option maxRecDepth 20000 in
theorem gL_law_X3_counted : GoodIn wsL_law (wsV RL 136 RX3 yX3_counted wsX3_counted) := goodIn_app (goodIn_of _ (by decide +kernel)) ggL_law_X3_counted
set_option maxRecDepth 20000 in
theorem ggL_law_L_traced : GoodIn wsL_law wsL_traced := goodIn_ca (goodIn_r _ [360, 194, 361, 362, 363, 2, 364, 199, 200, 201, 202, 203, 204, 14, 486, 487, 488, 489, 490, 491, 492, 493, 494, 495, 496, 497, 498, 499, 461, 462, 463, 464, 465] (by decide +kernel) (by decide +kernel)) (goodIn_sub (fun _ h => List.mem_append_right _ h) (by decide +kernel))
set_option maxRecDepth 20000 in
theorem gL_law_L_traced : GoodIn wsL_law (va_wsS RL 137 yL_traced wsL_traced) := goodIn_app (goodIn_of _ (by decide +kernel)) ggL_law_L_traced
set_option maxRecDepth 20000 in
theorem ggL_law_X3_traced : GoodIn wsL_law wsX3_traced := goodIn_r _ [368, 34, 32, 33, 212, 213, 214, 5, 215, 126, 127, 128, 129, 168, 169, 170, 171, 134, 466, 467, 468, 469, 470, 471, 472, 473, 474, 475, 476, 477, 478, 479, 480, 481, 482, 483, 484, 485] (by decide +kernel) (by decide +kernel)
set_option maxRecDepth 20000 in
theorem gL_law_X3_traced : GoodIn wsL_law (wsV RL 139 RX3 yX3_traced wsX3_traced) := goodIn_app (goodIn_of _ (by decide +kernel)) ggL_law_X3_traced
set_option maxRecDepth 20000 in
theorem ggL_law_L_kept : GoodIn wsL_law wsL_kept := goodIn_ca (goodIn_r _ [371, 194, 372, 373, 374, 2, 375, 199, 200, 201, 202, 203, 204, 14, 486, 487, 488, 489, 490, 491, 492, 493, 494, 495, 496, 497, 498, 499, 461, 462, 463, 464, 465] (by decide +kernel) (by decide +kernel)) (goodIn_sub (fun _ h => List.mem_append_right _ h) (by decide +kernel))
set_option maxRecDepth 20000 in
theorem gL_law_L_kept : GoodIn wsL_law (va_wsS RL 140 yL_kept wsL_kept) := goodIn_app (goodIn_of _ (by decide +kernel)) ggL_law_L_kept
set_option maxRecDepth 20000 in
theorem ggL_law_X3_kept : GoodIn wsL_law wsX3_kept := goodIn_r _ [379, 35, 212, 213, 214, 5, 215, 126, 127, 128, 129, 168, 169, 170, 171, 134, 466, 467, 468, 469, 470, 471, 472, 473, 474, 475, 476, 477, 478, 479, 480, 481, 482, 483, 484, 485] (by decide +kernel) (by decide +kernel)
set_option maxRecDepth 20000 in
theorem gL_law_X3_kept : GoodIn wsL_law (wsV RL 142 RX3 yX3_kept wsX3_kept) := goodIn_app (goodIn_of _ (by decide +kernel)) ggL_law_X3_kept
set_option maxRecDepth 20000 in
theorem ggL_law_L_sell : GoodIn wsL_law wsL_sell := goodIn_ca (goodIn_ca (goodIn_ca (goodIn_r _ [382, 194, 49, 50, 383, 384, 385, 2, 386, 55, 56, 57, 58, 387, 16, 17, 199, 200, 201, 202, 203, 204, 14, 308, 68, 309, 310, 111, 388, 389, 390, 72, 73, 74, 75, 391, 392, 393, 82, 394, 395, 101, 102, 104, 396, 397, 398, 399, 400, 401, 402, 403, 103, 100, 404, 405, 406, 407, 461, 462, 463, 464, 465, 486, 487, 488, 489, 490, 491, 492, 493, 494, 495, 496, 497, 498, 499, 500, 501, 502, 503, 504, 505, 506] (by decide +kernel) (by decide +kernel)) (goodIn_sub (fun _ h => List.mem_append_left _ (List.mem_append_left _ (List.mem_append_right _ h))) (by decide +kernel))) (goodIn_sub (fun _ h => List.mem_append_left _ (List.mem_append_right _ h)) (by decide +kernel))) (goodIn_sub (fun _ h => List.mem_append_right _ h) (by decide +kernel))
set_option maxRecDepth 20000 in
theorem gL_law_L_sell : GoodIn wsL_law (va_wsS RL 143 yL_sell wsL_sell) := goodIn_app (goodIn_of _ (by decide +kernel)) ggL_law_L_sell
set_option maxRecDepth 20000 in
theorem ggL_law_X3_sell : GoodIn wsL_law wsX3_sell := goodIn_r _ [411, 412, 42, 39, 40, 212, 213, 214, 5, 215, 126, 127, 128, 129, 315, 316, 317, 318, 220, 221, 222, 223, 134, 413, 414, 415, 416, 26, 43, 24, 44, 417, 418, 419, 420, 421, 422, 423, 424, 466, 467, 468, 469, 470, 471, 472, 473, 474, 475, 476, 477, 478, 479, 480, 481, 482, 483, 484, 485] (by decide +kernel) (by decide +kernel)
set_option maxRecDepth 20000 in
theorem gL_law_X3_sell : GoodIn wsL_law (wsV RL 145 RX3 yX3_sell wsX3_sell) := goodIn_app (goodIn_of _ (by decide +kernel)) ggL_law_X3_sell
set_option maxRecDepth 20000 in
theorem ggL_law_L_pay : GoodIn wsL_law wsL_pay := goodIn_ca (goodIn_r _ [427, 194, 428, 429, 430, 2, 431, 199, 200, 201, 202, 203, 204, 14, 486, 487, 488, 489, 490, 491, 492, 493, 494, 495, 496, 497, 498, 499, 461, 462, 463, 464, 465] (by decide +kernel) (by decide +kernel)) (goodIn_sub (fun _ h => List.mem_append_right _ h) (by decide +kernel))
set_option maxRecDepth 20000 in
theorem gL_law_L_pay : GoodIn wsL_law (va_wsS RL 146 yL_pay wsL_pay) := goodIn_app (goodIn_of _ (by decide +kernel)) ggL_law_L_pay
set_option maxRecDepth 20000 in
theorem ggL_law_X3_pay : GoodIn wsL_law wsX3_pay := goodIn_r _ [435, 39, 212, 213, 214, 5, 215, 126, 127, 128, 129, 168, 169, 170, 171, 134, 466, 467, 468, 469, 470, 471, 472, 473, 474, 475, 476, 477, 478, 479, 480, 481, 482, 483, 484, 485] (by decide +kernel) (by decide +kernel)
set_option maxRecDepth 20000 in
theorem gL_law_X3_pay : GoodIn wsL_law (wsV RL 148 RX3 yX3_pay wsX3_pay) := goodIn_app (goodIn_of _ (by decide +kernel)) ggL_law_X3_pay
set_option maxRecDepth 20000 in
theorem ggL_law_L_gain : GoodIn wsL_law wsL_gain := goodIn_ca (goodIn_r _ [438, 194, 439, 440, 441, 2, 442, 199, 200, 201, 202, 203, 204, 14, 486, 487, 488, 489, 490, 491, 492, 493, 494, 495, 496, 497, 498, 499, 461, 462, 463, 464, 465] (by decide +kernel) (by decide +kernel)) (goodIn_sub (fun _ h => List.mem_append_right _ h) (by decide +kernel))
set_option maxRecDepth 20000 in
theorem gL_law_L_gain : GoodIn wsL_law (va_wsS RL 149 yL_gain wsL_gain) := goodIn_app (goodIn_of _ (by decide +kernel)) ggL_law_L_gain
set_option maxRecDepth 20000 in
theorem ggL_law_X3_gain : GoodIn wsL_law wsX3_gain := goodIn_r _ [446, 40, 212, 213, 214, 5, 215, 126, 127, 128, 129, 168, 169, 170, 171, 134, 466, 467, 468, 469, 470, 471, 472, 473, 474, 475, 476, 477, 478, 479, 480, 481, 482, 483, 484, 485] (by decide +kernel) (by decide +kernel)
set_option maxRecDepth 20000 in
theorem gL_law_X3_gain : GoodIn wsL_law (wsV RL 151 RX3 yX3_gain wsX3_gain) := goodIn_app (goodIn_of _ (by decide +kernel)) ggL_law_X3_gain
set_option maxRecDepth 20000 in
theorem ggL_law_L_gainNow : GoodIn wsL_law wsL_gainNow := goodIn_ca (goodIn_r _ [449, 194, 450, 451, 452, 2, 453, 16, 17, 199, 200, 201, 202, 203, 204, 14, 454, 68, 455, 456, 111, 404, 82, 405, 406, 102, 407, 393, 394, 395, 101, 104, 396, 73, 74, 75, 397, 398, 399, 400, 401, 402, 403, 103, 100, 461, 462, 463, 464, 465, 486, 487, 488, 489, 490, 491, 492, 493, 494, 495, 496, 497, 498, 499, 500, 501, 502, 503, 504, 505, 506] (by decide +kernel) (by decide +kernel)) (goodIn_sub (fun _ h => List.mem_append_right _ h) (by decide +kernel))
set_option maxRecDepth 20000 in
theorem gL_law_L_gainNow : GoodIn wsL_law (va_wsS RL 152 yL_gainNow wsL_gainNow) := goodIn_app (goodIn_of _ (by decide +kernel)) ggL_law_L_gainNow
set_option maxRecDepth 20000 in
theorem ggL_law_X3_gainNow : GoodIn wsL_law wsX3_gainNow := goodIn_r _ [460, 42, 212, 213, 214, 5, 215, 126, 127, 128, 129, 168, 169, 170, 171, 134, 421, 422, 423, 424, 26, 24, 43, 413, 414, 415, 416, 44, 417, 418, 419, 420, 466, 467, 468, 469, 470, 471, 472, 473, 474, 475, 476, 477, 478, 479, 480, 481, 482, 483, 484, 485] (by decide +kernel) (by decide +kernel)
set_option maxRecDepth 20000 in
theorem gL_law_X3_gainNow : GoodIn wsL_law (wsV RL 154 RX3 yX3_gainNow wsX3_gainNow) := goodIn_app (goodIn_of _ (by decide +kernel)) ggL_law_X3_gainNow
end
section
theorem dX0_init_0 : decode cX0_init 0 = .ok (.aload_n 0, 1) := by decide +kernel
theorem dX0_init_1 : decode cX0_init 1 = .ok (.invokespecial 3, 3) := by decide +kernel
theorem dX0_init_4 : decode cX0_init 4 = .ok (.aload_n 0, 1) := by decide +kernel
theorem dX0_init_5 : decode cX0_init 5 = .ok (.iload_n 1, 1) := by decide +kernel
theorem dX0_init_6 : decode cX0_init 6 = .ok (.putfield 9, 3) := by decide +kernel
theorem dX0_init_9 : decode cX0_init 9 = .ok (.aload_n 0, 1) := by decide +kernel
theorem dX0_init_10 : decode cX0_init 10 = .ok (.iload_n 2, 1) := by decide +kernel
theorem dX0_init_11 : decode cX0_init 11 = .ok (.putfield 15, 3) := by decide +kernel
theorem dX0_init_14 : decode cX0_init 14 = .ok (.aload_n 0, 1) := by decide +kernel
theorem dX0_init_15 : decode cX0_init 15 = .ok (.iload_n 3, 1) := by decide +kernel
theorem dX0_init_16 : decode cX0_init 16 = .ok (.putfield 18, 3) := by decide +kernel
theorem dX0_init_19 : decode cX0_init 19 = .ok (.aload_n 0, 1) := by decide +kernel
theorem dX0_init_20 : decode cX0_init 20 = .ok (.iload 4, 2) := by decide +kernel
theorem dX0_init_22 : decode cX0_init 22 = .ok (.putfield 21, 3) := by decide +kernel
theorem dX0_init_25 : decode cX0_init 25 = .ok (.aload_n 0, 1) := by decide +kernel
theorem dX0_init_26 : decode cX0_init 26 = .ok (.iload 5, 2) := by decide +kernel
theorem dX0_init_28 : decode cX0_init 28 = .ok (.putfield 24, 3) := by decide +kernel
theorem dX0_init_31 : decode cX0_init 31 = .ok (.aload_n 0, 1) := by decide +kernel
theorem dX0_init_32 : decode cX0_init 32 = .ok (.iload 6, 2) := by decide +kernel
theorem dX0_init_34 : decode cX0_init 34 = .ok (.putfield 27, 3) := by decide +kernel
theorem dX0_init_37 : decode cX0_init 37 = .ok (.aload_n 0, 1) := by decide +kernel
theorem dX0_init_38 : decode cX0_init 38 = .ok (.iload 6, 2) := by decide +kernel
theorem dX0_init_40 : decode cX0_init 40 = .ok (.putfield 30, 3) := by decide +kernel
theorem dX0_init_43 : decode cX0_init 43 = .ok (.return_, 1) := by decide +kernel
theorem dX0_isEarly_0 : decode cX0_isEarly 0 = .ok (.iload_n 1, 1) := by decide +kernel
theorem dX0_isEarly_1 : decode cX0_isEarly 1 = .ok (.aload_n 0, 1) := by decide +kernel
theorem dX0_isEarly_2 : decode cX0_isEarly 2 = .ok (.getfield 21, 3) := by decide +kernel
theorem dX0_isEarly_5 : decode cX0_isEarly 5 = .ok (.isub, 1) := by decide +kernel
theorem dX0_isEarly_6 : decode cX0_isEarly 6 = .ok (.bipush 24, 2) := by decide +kernel
theorem dX0_isEarly_8 : decode cX0_isEarly 8 = .ok (.if_icmp .lt 14, 3) := by decide +kernel
theorem dX0_isEarly_11 : decode cX0_isEarly 11 = .ok (.iload_n 1, 1) := by decide +kernel
theorem dX0_isEarly_12 : decode cX0_isEarly 12 = .ok (.aload_n 0, 1) := by decide +kernel
theorem dX0_isEarly_13 : decode cX0_isEarly 13 = .ok (.getfield 9, 3) := by decide +kernel
theorem dX0_isEarly_16 : decode cX0_isEarly 16 = .ok (.isub, 1) := by decide +kernel
theorem dX0_isEarly_17 : decode cX0_isEarly 17 = .ok (.bipush 12, 2) := by decide +kernel
theorem dX0_isEarly_19 : decode cX0_isEarly 19 = .ok (.if_icmp .ge 7, 3) := by decide +kernel
theorem dX0_isEarly_22 : decode cX0_isEarly 22 = .ok (.iconst 1, 1) := by decide +kernel
theorem dX0_isEarly_23 : decode cX0_isEarly 23 = .ok (.goto 4, 3) := by decide +kernel
theorem dX0_isEarly_26 : decode cX0_isEarly 26 = .ok (.iconst 0, 1) := by decide +kernel
theorem dX0_isEarly_27 : decode cX0_isEarly 27 = .ok (.ireturn, 1) := by decide +kernel
theorem dX0_payEach_0 : decode cX0_payEach 0 = .ok (.aload_n 0, 1) := by decide +kernel
theorem dX0_payEach_1 : decode cX0_payEach 1 = .ok (.iload_n 1, 1) := by decide +kernel
theorem dX0_payEach_2 : decode cX0_payEach 2 = .ok (.invokevirtual 33, 3) := by decide +kernel
theorem dX0_payEach_5 : decode cX0_payEach 5 = .ok (.ifCond .eq 14, 3) := by decide +kernel
theorem dX0_payEach_8 : decode cX0_payEach 8 = .ok (.aload_n 0, 1) := by decide +kernel
theorem dX0_payEach_9 : decode cX0_payEach 9 = .ok (.getfield 15, 3) := by decide +kernel
theorem dX0_payEach_12 : decode cX0_payEach 12 = .ok (.aload_n 0, 1) := by decide +kernel
theorem dX0_payEach_13 : decode cX0_payEach 13 = .ok (.getfield 18, 3) := by decide +kernel
theorem dX0_payEach_16 : decode cX0_payEach 16 = .ok (.isub, 1) := by decide +kernel
theorem dX0_payEach_17 : decode cX0_payEach 17 = .ok (.i2l, 1) := by decide +kernel
theorem dX0_payEach_18 : decode cX0_payEach 18 = .ok (.lreturn, 1) := by decide +kernel
theorem dX0_payEach_19 : decode cX0_payEach 19 = .ok (.aload_n 0, 1) := by decide +kernel
theorem dX0_payEach_20 : decode cX0_payEach 20 = .ok (.getfield 24, 3) := by decide +kernel
theorem dX0_payEach_23 : decode cX0_payEach 23 = .ok (.bipush 15, 2) := by decide +kernel
theorem dX0_payEach_25 : decode cX0_payEach 25 = .ok (.imul, 1) := by decide +kernel
theorem dX0_payEach_26 : decode cX0_payEach 26 = .ok (.bipush 100, 2) := by decide +kernel
theorem dX0_payEach_28 : decode cX0_payEach 28 = .ok (.idiv, 1) := by decide +kernel
theorem dX0_payEach_29 : decode cX0_payEach 29 = .ok (.istore_n 3, 1) := by decide +kernel
theorem dX0_payEach_30 : decode cX0_payEach 30 = .ok (.iconst 0, 1) := by decide +kernel
theorem dX0_payEach_31 : decode cX0_payEach 31 = .ok (.iload_n 3, 1) := by decide +kernel
theorem dX0_payEach_32 : decode cX0_payEach 32 = .ok (.iload_n 2, 1) := by decide +kernel
theorem dX0_payEach_33 : decode cX0_payEach 33 = .ok (.aload_n 0, 1) := by decide +kernel
theorem dX0_payEach_34 : decode cX0_payEach 34 = .ok (.getfield 18, 3) := by decide +kernel
theorem dX0_payEach_37 : decode cX0_payEach 37 = .ok (.isub, 1) := by decide +kernel
theorem dX0_payEach_38 : decode cX0_payEach 38 = .ok (.invokestatic 37, 3) := by decide +kernel
theorem dX0_payEach_41 : decode cX0_payEach 41 = .ok (.invokestatic 43, 3) := by decide +kernel
theorem dX0_payEach_44 : decode cX0_payEach 44 = .ok (.i2l, 1) := by decide +kernel
theorem dX0_payEach_45 : decode cX0_payEach 45 = .ok (.lreturn, 1) := by decide +kernel
theorem dX0_gainEach_0 : decode cX0_gainEach 0 = .ok (.iload_n 2, 1) := by decide +kernel
theorem dX0_gainEach_1 : decode cX0_gainEach 1 = .ok (.aload_n 0, 1) := by decide +kernel
theorem dX0_gainEach_2 : decode cX0_gainEach 2 = .ok (.getfield 18, 3) := by decide +kernel
theorem dX0_gainEach_5 : decode cX0_gainEach 5 = .ok (.isub, 1) := by decide +kernel
theorem dX0_gainEach_6 : decode cX0_gainEach 6 = .ok (.i2l, 1) := by decide +kernel
theorem dX0_gainEach_7 : decode cX0_gainEach 7 = .ok (.aload_n 0, 1) := by decide +kernel
theorem dX0_gainEach_8 : decode cX0_gainEach 8 = .ok (.iload_n 1, 1) := by decide +kernel
theorem dX0_gainEach_9 : decode cX0_gainEach 9 = .ok (.iload_n 2, 1) := by decide +kernel
theorem dX0_gainEach_10 : decode cX0_gainEach 10 = .ok (.invokevirtual 46, 3) := by decide +kernel
theorem dX0_gainEach_13 : decode cX0_gainEach 13 = .ok (.lsub, 1) := by decide +kernel
theorem dX0_gainEach_14 : decode cX0_gainEach 14 = .ok (.lreturn, 1) := by decide +kernel
theorem dX1_init_0 : decode cX1_init 0 = .ok (.aload_n 0, 1) := by decide +kernel
theorem dX1_init_1 : decode cX1_init 1 = .ok (.invokespecial 3, 3) := by decide +kernel
theorem dX1_init_4 : decode cX1_init 4 = .ok (.aload_n 0, 1) := by decide +kernel
theorem dX1_init_5 : decode cX1_init 5 = .ok (.bipush 10, 2) := by decide +kernel
theorem dX1_init_7 : decode cX1_init 7 = .ok (.anewarray 9, 3) := by decide +kernel
theorem dX1_init_10 : decode cX1_init 10 = .ok (.putfield 11, 3) := by decide +kernel
theorem dX1_init_13 : decode cX1_init 13 = .ok (.aload_n 0, 1) := by decide +kernel
theorem dX1_init_14 : decode cX1_init 14 = .ok (.iconst 5, 1) := by decide +kernel
theorem dX1_init_15 : decode cX1_init 15 = .ok (.newarray .long, 2) := by decide +kernel
theorem dX1_init_17 : decode cX1_init 17 = .ok (.putfield 17, 3) := by decide +kernel
theorem dX1_init_20 : decode cX1_init 20 = .ok (.aload_n 0, 1) := by decide +kernel
theorem dX1_init_21 : decode cX1_init 21 = .ok (.iload_n 1, 1) := by decide +kernel
theorem dX1_init_22 : decode cX1_init 22 = .ok (.putfield 21, 3) := by decide +kernel
theorem dX1_init_25 : decode cX1_init 25 = .ok (.aload_n 0, 1) := by decide +kernel
theorem dX1_init_26 : decode cX1_init 26 = .ok (.iload_n 2, 1) := by decide +kernel
theorem dX1_init_27 : decode cX1_init 27 = .ok (.putfield 25, 3) := by decide +kernel
theorem dX1_init_30 : decode cX1_init 30 = .ok (.aload_n 0, 1) := by decide +kernel
theorem dX1_init_31 : decode cX1_init 31 = .ok (.iload_n 3, 1) := by decide +kernel
theorem dX1_init_32 : decode cX1_init 32 = .ok (.putfield 28, 3) := by decide +kernel
theorem dX1_init_35 : decode cX1_init 35 = .ok (.return_, 1) := by decide +kernel
theorem dX1_takeSlip_0 : decode cX1_takeSlip 0 = .ok (.iload_n 1, 1) := by decide +kernel
theorem dX1_takeSlip_1 : decode cX1_takeSlip 1 = .ok (.aload_n 0, 1) := by decide +kernel
theorem dX1_takeSlip_2 : decode cX1_takeSlip 2 = .ok (.getfield 21, 3) := by decide +kernel
theorem dX1_takeSlip_5 : decode cX1_takeSlip 5 = .ok (.imul, 1) := by decide +kernel
theorem dX1_takeSlip_6 : decode cX1_takeSlip 6 = .ok (.bipush 100, 2) := by decide +kernel
theorem dX1_takeSlip_8 : decode cX1_takeSlip 8 = .ok (.idiv, 1) := by decide +kernel
theorem dX1_takeSlip_9 : decode cX1_takeSlip 9 = .ok (.istore_n 2, 1) := by decide +kernel
theorem dX1_takeSlip_10 : decode cX1_takeSlip 10 = .ok (.aload_n 0, 1) := by decide +kernel
theorem dX1_takeSlip_11 : decode cX1_takeSlip 11 = .ok (.dup, 1) := by decide +kernel
theorem dX1_takeSlip_12 : decode cX1_takeSlip 12 = .ok (.getfield 31, 3) := by decide +kernel
theorem dX1_takeSlip_15 : decode cX1_takeSlip 15 = .ok (.iload_n 2, 1) := by decide +kernel
theorem dX1_takeSlip_16 : decode cX1_takeSlip 16 = .ok (.i2l, 1) := by decide +kernel
theorem dX1_takeSlip_17 : decode cX1_takeSlip 17 = .ok (.ladd, 1) := by decide +kernel
theorem dX1_takeSlip_18 : decode cX1_takeSlip 18 = .ok (.putfield 31, 3) := by decide +kernel
theorem dX1_takeSlip_21 : decode cX1_takeSlip 21 = .ok (.aload_n 0, 1) := by decide +kernel
theorem dX1_takeSlip_22 : decode cX1_takeSlip 22 = .ok (.dup, 1) := by decide +kernel
theorem dX1_takeSlip_23 : decode cX1_takeSlip 23 = .ok (.getfield 35, 3) := by decide +kernel
theorem dX1_takeSlip_26 : decode cX1_takeSlip 26 = .ok (.iload_n 2, 1) := by decide +kernel
theorem dX1_takeSlip_27 : decode cX1_takeSlip 27 = .ok (.i2l, 1) := by decide +kernel
theorem dX1_takeSlip_28 : decode cX1_takeSlip 28 = .ok (.ladd, 1) := by decide +kernel
theorem dX1_takeSlip_29 : decode cX1_takeSlip 29 = .ok (.putfield 35, 3) := by decide +kernel
theorem dX1_takeSlip_32 : decode cX1_takeSlip 32 = .ok (.iload_n 2, 1) := by decide +kernel
theorem dX1_takeSlip_33 : decode cX1_takeSlip 33 = .ok (.ireturn, 1) := by decide +kernel
theorem dX1_giveBack_0 : decode cX1_giveBack 0 = .ok (.aload_n 0, 1) := by decide +kernel
theorem dX1_giveBack_1 : decode cX1_giveBack 1 = .ok (.getfield 31, 3) := by decide +kernel
theorem dX1_giveBack_4 : decode cX1_giveBack 4 = .ok (.lstore_n 1, 1) := by decide +kernel
theorem dX1_giveBack_5 : decode cX1_giveBack 5 = .ok (.aload_n 0, 1) := by decide +kernel
theorem dX1_giveBack_6 : decode cX1_giveBack 6 = .ok (.dup, 1) := by decide +kernel
theorem dX1_giveBack_7 : decode cX1_giveBack 7 = .ok (.getfield 38, 3) := by decide +kernel
theorem dX1_giveBack_10 : decode cX1_giveBack 10 = .ok (.lload_n 1, 1) := by decide +kernel
theorem dX1_giveBack_11 : decode cX1_giveBack 11 = .ok (.ladd, 1) := by decide +kernel
theorem dX1_giveBack_12 : decode cX1_giveBack 12 = .ok (.putfield 38, 3) := by decide +kernel
theorem dX1_giveBack_15 : decode cX1_giveBack 15 = .ok (.aload_n 0, 1) := by decide +kernel
theorem dX1_giveBack_16 : decode cX1_giveBack 16 = .ok (.lconst 0, 1) := by decide +kernel
theorem dX1_giveBack_17 : decode cX1_giveBack 17 = .ok (.putfield 31, 3) := by decide +kernel
theorem dX1_giveBack_20 : decode cX1_giveBack 20 = .ok (.aload_n 0, 1) := by decide +kernel
theorem dX1_giveBack_21 : decode cX1_giveBack 21 = .ok (.iconst 1, 1) := by decide +kernel
theorem dX1_giveBack_22 : decode cX1_giveBack 22 = .ok (.putfield 41, 3) := by decide +kernel
theorem dX1_giveBack_25 : decode cX1_giveBack 25 = .ok (.lload_n 1, 1) := by decide +kernel
theorem dX1_giveBack_26 : decode cX1_giveBack 26 = .ok (.lreturn, 1) := by decide +kernel
theorem dX1_buyShares_0 : decode cX1_buyShares 0 = .ok (.iload_n 1, 1) := by decide +kernel
theorem dX1_buyShares_1 : decode cX1_buyShares 1 = .ok (.bipush 12, 2) := by decide +kernel
theorem dX1_buyShares_3 : decode cX1_buyShares 3 = .ok (.idiv, 1) := by decide +kernel
theorem dX1_buyShares_4 : decode cX1_buyShares 4 = .ok (.istore 4, 2) := by decide +kernel
theorem dX1_buyShares_6 : decode cX1_buyShares 6 = .ok (.aload_n 0, 1) := by decide +kernel
theorem dX1_buyShares_7 : decode cX1_buyShares 7 = .ok (.getfield 28, 3) := by decide +kernel
theorem dX1_buyShares_10 : decode cX1_buyShares 10 = .ok (.iload_n 2, 1) := by decide +kernel
theorem dX1_buyShares_11 : decode cX1_buyShares 11 = .ok (.invokestatic 45, 3) := by decide +kernel
theorem dX1_buyShares_14 : decode cX1_buyShares 14 = .ok (.invokestatic 51, 3) := by decide +kernel
theorem dX1_buyShares_17 : decode cX1_buyShares 17 = .ok (.istore 5, 2) := by decide +kernel
theorem dX1_buyShares_19 : decode cX1_buyShares 19 = .ok (.aload_n 0, 1) := by decide +kernel
theorem dX1_buyShares_20 : decode cX1_buyShares 20 = .ok (.getfield 31, 3) := by decide +kernel
theorem dX1_buyShares_23 : decode cX1_buyShares 23 = .ok (.iload 5, 2) := by decide +kernel
theorem dX1_buyShares_25 : decode cX1_buyShares 25 = .ok (.i2l, 1) := by decide +kernel
theorem dX1_buyShares_26 : decode cX1_buyShares 26 = .ok (.invokestatic 55, 3) := by decide +kernel
theorem dX1_buyShares_29 : decode cX1_buyShares 29 = .ok (.lstore 6, 2) := by decide +kernel
theorem dX1_buyShares_31 : decode cX1_buyShares 31 = .ok (.iload_n 3, 1) := by decide +kernel
theorem dX1_buyShares_32 : decode cX1_buyShares 32 = .ok (.i2l, 1) := by decide +kernel
theorem dX1_buyShares_33 : decode cX1_buyShares 33 = .ok (.aload_n 0, 1) := by decide +kernel
theorem dX1_buyShares_34 : decode cX1_buyShares 34 = .ok (.iload 4, 2) := by decide +kernel
theorem dX1_buyShares_36 : decode cX1_buyShares 36 = .ok (.invokevirtual 59, 3) := by decide +kernel
theorem dX1_buyShares_39 : decode cX1_buyShares 39 = .ok (.lsub, 1) := by decide +kernel
theorem dX1_buyShares_40 : decode cX1_buyShares 40 = .ok (.aload_n 0, 1) := by decide +kernel
theorem dX1_buyShares_41 : decode cX1_buyShares 41 = .ok (.getfield 28, 3) := by decide +kernel
theorem dX1_buyShares_44 : decode cX1_buyShares 44 = .ok (.i2l, 1) := by decide +kernel
theorem dX1_buyShares_45 : decode cX1_buyShares 45 = .ok (.invokestatic 55, 3) := by decide +kernel
theorem dX1_buyShares_48 : decode cX1_buyShares 48 = .ok (.lstore 8, 2) := by decide +kernel
theorem dX1_buyShares_50 : decode cX1_buyShares 50 = .ok (.lload 6, 2) := by decide +kernel
theorem dX1_buyShares_52 : decode cX1_buyShares 52 = .ok (.lload 8, 2) := by decide +kernel
theorem dX1_buyShares_54 : decode cX1_buyShares 54 = .ok (.invokestatic 63, 3) := by decide +kernel
theorem dX1_buyShares_57 : decode cX1_buyShares 57 = .ok (.l2i, 1) := by decide +kernel
theorem dX1_buyShares_58 : decode cX1_buyShares 58 = .ok (.istore 10, 2) := by decide +kernel
theorem dX1_buyShares_60 : decode cX1_buyShares 60 = .ok (.iload 10, 2) := by decide +kernel
theorem dX1_buyShares_62 : decode cX1_buyShares 62 = .ok (.ifCond .le 75, 3) := by decide +kernel
theorem dX1_buyShares_65 : decode cX1_buyShares 65 = .ok (.aload_n 0, 1) := by decide +kernel
theorem dX1_buyShares_66 : decode cX1_buyShares 66 = .ok (.new 9, 3) := by decide +kernel
theorem dX1_buyShares_69 : decode cX1_buyShares 69 = .ok (.dup, 1) := by decide +kernel
theorem dX1_buyShares_70 : decode cX1_buyShares 70 = .ok (.iload_n 1, 1) := by decide +kernel
theorem dX1_buyShares_71 : decode cX1_buyShares 71 = .ok (.iload_n 2, 1) := by decide +kernel
theorem dX1_buyShares_72 : decode cX1_buyShares 72 = .ok (.iload 5, 2) := by decide +kernel
theorem dX1_buyShares_74 : decode cX1_buyShares 74 = .ok (.aload_n 0, 1) := by decide +kernel
theorem dX1_buyShares_75 : decode cX1_buyShares 75 = .ok (.getfield 25, 3) := by decide +kernel
theorem dX1_buyShares_78 : decode cX1_buyShares 78 = .ok (.aload_n 0, 1) := by decide +kernel
theorem dX1_buyShares_79 : decode cX1_buyShares 79 = .ok (.getfield 28, 3) := by decide +kernel
theorem dX1_buyShares_82 : decode cX1_buyShares 82 = .ok (.iload 10, 2) := by decide +kernel
theorem dX1_buyShares_84 : decode cX1_buyShares 84 = .ok (.invokespecial 65, 3) := by decide +kernel
theorem dX1_buyShares_87 : decode cX1_buyShares 87 = .ok (.invokevirtual 68, 3) := by decide +kernel
theorem dX1_buyShares_90 : decode cX1_buyShares 90 = .ok (.aload_n 0, 1) := by decide +kernel
theorem dX1_buyShares_91 : decode cX1_buyShares 91 = .ok (.iload 4, 2) := by decide +kernel
theorem dX1_buyShares_93 : decode cX1_buyShares 93 = .ok (.iload 10, 2) := by decide +kernel
theorem dX1_buyShares_95 : decode cX1_buyShares 95 = .ok (.i2l, 1) := by decide +kernel
theorem dX1_buyShares_96 : decode cX1_buyShares 96 = .ok (.aload_n 0, 1) := by decide +kernel
theorem dX1_buyShares_97 : decode cX1_buyShares 97 = .ok (.getfield 28, 3) := by decide +kernel
theorem dX1_buyShares_100 : decode cX1_buyShares 100 = .ok (.i2l, 1) := by decide +kernel
theorem dX1_buyShares_101 : decode cX1_buyShares 101 = .ok (.lmul, 1) := by decide +kernel
theorem dX1_buyShares_102 : decode cX1_buyShares 102 = .ok (.invokevirtual 72, 3) := by decide +kernel
theorem dX1_buyShares_105 : decode cX1_buyShares 105 = .ok (.aload_n 0, 1) := by decide +kernel
theorem dX1_buyShares_106 : decode cX1_buyShares 106 = .ok (.dup, 1) := by decide +kernel
theorem dX1_buyShares_107 : decode cX1_buyShares 107 = .ok (.getfield 31, 3) := by decide +kernel
theorem dX1_buyShares_110 : decode cX1_buyShares 110 = .ok (.iload 10, 2) := by decide +kernel
theorem dX1_buyShares_112 : decode cX1_buyShares 112 = .ok (.i2l, 1) := by decide +kernel
theorem dX1_buyShares_113 : decode cX1_buyShares 113 = .ok (.iload 5, 2) := by decide +kernel
theorem dX1_buyShares_115 : decode cX1_buyShares 115 = .ok (.i2l, 1) := by decide +kernel
theorem dX1_buyShares_116 : decode cX1_buyShares 116 = .ok (.lmul, 1) := by decide +kernel
theorem dX1_buyShares_117 : decode cX1_buyShares 117 = .ok (.lsub, 1) := by decide +kernel
theorem dX1_buyShares_118 : decode cX1_buyShares 118 = .ok (.putfield 31, 3) := by decide +kernel
theorem dX1_buyShares_121 : decode cX1_buyShares 121 = .ok (.aload_n 0, 1) := by decide +kernel
theorem dX1_buyShares_122 : decode cX1_buyShares 122 = .ok (.dup, 1) := by decide +kernel
theorem dX1_buyShares_123 : decode cX1_buyShares 123 = .ok (.getfield 76, 3) := by decide +kernel
theorem dX1_buyShares_126 : decode cX1_buyShares 126 = .ok (.iload 10, 2) := by decide +kernel
theorem dX1_buyShares_128 : decode cX1_buyShares 128 = .ok (.i2l, 1) := by decide +kernel
theorem dX1_buyShares_129 : decode cX1_buyShares 129 = .ok (.iload 5, 2) := by decide +kernel
theorem dX1_buyShares_131 : decode cX1_buyShares 131 = .ok (.i2l, 1) := by decide +kernel
theorem dX1_buyShares_132 : decode cX1_buyShares 132 = .ok (.lmul, 1) := by decide +kernel
theorem dX1_buyShares_133 : decode cX1_buyShares 133 = .ok (.ladd, 1) := by decide +kernel
theorem dX1_buyShares_134 : decode cX1_buyShares 134 = .ok (.putfield 76, 3) := by decide +kernel
theorem dX1_buyShares_137 : decode cX1_buyShares 137 = .ok (.aload_n 0, 1) := by decide +kernel
theorem dX1_buyShares_138 : decode cX1_buyShares 138 = .ok (.dup, 1) := by decide +kernel
theorem dX1_buyShares_139 : decode cX1_buyShares 139 = .ok (.getfield 79, 3) := by decide +kernel
theorem dX1_buyShares_142 : decode cX1_buyShares 142 = .ok (.iconst 1, 1) := by decide +kernel
theorem dX1_buyShares_143 : decode cX1_buyShares 143 = .ok (.iadd, 1) := by decide +kernel
theorem dX1_buyShares_144 : decode cX1_buyShares 144 = .ok (.putfield 79, 3) := by decide +kernel
theorem dX1_buyShares_147 : decode cX1_buyShares 147 = .ok (.aload_n 0, 1) := by decide +kernel
theorem dX1_buyShares_148 : decode cX1_buyShares 148 = .ok (.iload_n 1, 1) := by decide +kernel
theorem dX1_buyShares_149 : decode cX1_buyShares 149 = .ok (.iload_n 2, 1) := by decide +kernel
theorem dX1_buyShares_150 : decode cX1_buyShares 150 = .ok (.invokevirtual 82, 3) := by decide +kernel
theorem dX1_buyShares_153 : decode cX1_buyShares 153 = .ok (.return_, 1) := by decide +kernel
theorem dX1_renewOffer_0 : decode cX1_renewOffer 0 = .ok (.iload_n 2, 1) := by decide +kernel
theorem dX1_renewOffer_1 : decode cX1_renewOffer 1 = .ok (.aload_n 0, 1) := by decide +kernel
theorem dX1_renewOffer_2 : decode cX1_renewOffer 2 = .ok (.getfield 28, 3) := by decide +kernel
theorem dX1_renewOffer_5 : decode cX1_renewOffer 5 = .ok (.if_icmp .ge 7, 3) := by decide +kernel
theorem dX1_renewOffer_8 : decode cX1_renewOffer 8 = .ok (.iconst 1, 1) := by decide +kernel
theorem dX1_renewOffer_9 : decode cX1_renewOffer 9 = .ok (.goto 4, 3) := by decide +kernel
theorem dX1_renewOffer_12 : decode cX1_renewOffer 12 = .ok (.iconst 0, 1) := by decide +kernel
theorem dX1_renewOffer_13 : decode cX1_renewOffer 13 = .ok (.istore_n 3, 1) := by decide +kernel
theorem dX1_renewOffer_14 : decode cX1_renewOffer 14 = .ok (.iload_n 3, 1) := by decide +kernel
theorem dX1_renewOffer_15 : decode cX1_renewOffer 15 = .ok (.ifCond .eq 13, 3) := by decide +kernel
theorem dX1_renewOffer_18 : decode cX1_renewOffer 18 = .ok (.aload_n 0, 1) := by decide +kernel
theorem dX1_renewOffer_19 : decode cX1_renewOffer 19 = .ok (.dup, 1) := by decide +kernel
theorem dX1_renewOffer_20 : decode cX1_renewOffer 20 = .ok (.getfield 86, 3) := by decide +kernel
theorem dX1_renewOffer_23 : decode cX1_renewOffer 23 = .ok (.iconst 1, 1) := by decide +kernel
theorem dX1_renewOffer_24 : decode cX1_renewOffer 24 = .ok (.iadd, 1) := by decide +kernel
theorem dX1_renewOffer_25 : decode cX1_renewOffer 25 = .ok (.putfield 86, 3) := by decide +kernel
theorem dX1_renewOffer_28 : decode cX1_renewOffer 28 = .ok (.iload_n 3, 1) := by decide +kernel
theorem dX1_renewOffer_29 : decode cX1_renewOffer 29 = .ok (.ifCond .ne 11, 3) := by decide +kernel
theorem dX1_renewOffer_32 : decode cX1_renewOffer 32 = .ok (.aload_n 0, 1) := by decide +kernel
theorem dX1_renewOffer_33 : decode cX1_renewOffer 33 = .ok (.getfield 79, 3) := by decide +kernel
theorem dX1_renewOffer_36 : decode cX1_renewOffer 36 = .ok (.iconst 4, 1) := by decide +kernel
theorem dX1_renewOffer_37 : decode cX1_renewOffer 37 = .ok (.if_icmp .lt 18, 3) := by decide +kernel
theorem dX1_renewOffer_40 : decode cX1_renewOffer 40 = .ok (.aload_n 0, 1) := by decide +kernel
theorem dX1_renewOffer_41 : decode cX1_renewOffer 41 = .ok (.iload_n 1, 1) := by decide +kernel
theorem dX1_renewOffer_42 : decode cX1_renewOffer 42 = .ok (.putfield 25, 3) := by decide +kernel
theorem dX1_renewOffer_45 : decode cX1_renewOffer 45 = .ok (.aload_n 0, 1) := by decide +kernel
theorem dX1_renewOffer_46 : decode cX1_renewOffer 46 = .ok (.iload_n 2, 1) := by decide +kernel
theorem dX1_renewOffer_47 : decode cX1_renewOffer 47 = .ok (.putfield 28, 3) := by decide +kernel
theorem dX1_renewOffer_50 : decode cX1_renewOffer 50 = .ok (.aload_n 0, 1) := by decide +kernel
theorem dX1_renewOffer_51 : decode cX1_renewOffer 51 = .ok (.iconst 0, 1) := by decide +kernel
theorem dX1_renewOffer_52 : decode cX1_renewOffer 52 = .ok (.putfield 79, 3) := by decide +kernel
theorem dX1_renewOffer_55 : decode cX1_renewOffer 55 = .ok (.return_, 1) := by decide +kernel
theorem dX1_purchasePrice_0 : decode cX1_purchasePrice 0 = .ok (.iload_n 0, 1) := by decide +kernel
theorem dX1_purchasePrice_1 : decode cX1_purchasePrice 1 = .ok (.bipush 85, 2) := by decide +kernel
theorem dX1_purchasePrice_3 : decode cX1_purchasePrice 3 = .ok (.imul, 1) := by decide +kernel
theorem dX1_purchasePrice_4 : decode cX1_purchasePrice 4 = .ok (.bipush 100, 2) := by decide +kernel
theorem dX1_purchasePrice_6 : decode cX1_purchasePrice 6 = .ok (.iadd, 1) := by decide +kernel
theorem dX1_purchasePrice_7 : decode cX1_purchasePrice 7 = .ok (.iconst 1, 1) := by decide +kernel
theorem dX1_purchasePrice_8 : decode cX1_purchasePrice 8 = .ok (.isub, 1) := by decide +kernel
theorem dX1_purchasePrice_9 : decode cX1_purchasePrice 9 = .ok (.bipush 100, 2) := by decide +kernel
theorem dX1_purchasePrice_11 : decode cX1_purchasePrice 11 = .ok (.idiv, 1) := by decide +kernel
theorem dX1_purchasePrice_12 : decode cX1_purchasePrice 12 = .ok (.ireturn, 1) := by decide +kernel
theorem dX1_wholeTimes_0 : decode cX1_wholeTimes 0 = .ok (.lload_n 0, 1) := by decide +kernel
theorem dX1_wholeTimes_1 : decode cX1_wholeTimes 1 = .ok (.lconst 0, 1) := by decide +kernel
theorem dX1_wholeTimes_2 : decode cX1_wholeTimes 2 = .ok (.lcmp, 1) := by decide +kernel
theorem dX1_wholeTimes_3 : decode cX1_wholeTimes 3 = .ok (.ifCond .le 9, 3) := by decide +kernel
theorem dX1_wholeTimes_6 : decode cX1_wholeTimes 6 = .ok (.lload_n 2, 1) := by decide +kernel
theorem dX1_wholeTimes_7 : decode cX1_wholeTimes 7 = .ok (.lconst 0, 1) := by decide +kernel
theorem dX1_wholeTimes_8 : decode cX1_wholeTimes 8 = .ok (.lcmp, 1) := by decide +kernel
theorem dX1_wholeTimes_9 : decode cX1_wholeTimes 9 = .ok (.ifCond .gt 7, 3) := by decide +kernel
theorem dX1_wholeTimes_12 : decode cX1_wholeTimes 12 = .ok (.lconst 0, 1) := by decide +kernel
theorem dX1_wholeTimes_13 : decode cX1_wholeTimes 13 = .ok (.goto 6, 3) := by decide +kernel
theorem dX1_wholeTimes_16 : decode cX1_wholeTimes 16 = .ok (.lload_n 0, 1) := by decide +kernel
theorem dX1_wholeTimes_17 : decode cX1_wholeTimes 17 = .ok (.lload_n 2, 1) := by decide +kernel
theorem dX1_wholeTimes_18 : decode cX1_wholeTimes 18 = .ok (.ldiv, 1) := by decide +kernel
theorem dX1_wholeTimes_19 : decode cX1_wholeTimes 19 = .ok (.lreturn, 1) := by decide +kernel
theorem dX1_countedIn_0 : decode cX1_countedIn 0 = .ok (.iload_n 1, 1) := by decide +kernel
theorem dX1_countedIn_1 : decode cX1_countedIn 1 = .ok (.ifCond .lt 12, 3) := by decide +kernel
theorem dX1_countedIn_4 : decode cX1_countedIn 4 = .ok (.iload_n 1, 1) := by decide +kernel
theorem dX1_countedIn_5 : decode cX1_countedIn 5 = .ok (.aload_n 0, 1) := by decide +kernel
theorem dX1_countedIn_6 : decode cX1_countedIn 6 = .ok (.getfield 17, 3) := by decide +kernel
theorem dX1_countedIn_9 : decode cX1_countedIn 9 = .ok (.arraylength, 1) := by decide +kernel
theorem dX1_countedIn_10 : decode cX1_countedIn 10 = .ok (.if_icmp .lt 7, 3) := by decide +kernel
theorem dX1_countedIn_13 : decode cX1_countedIn 13 = .ok (.lconst 0, 1) := by decide +kernel
theorem dX1_countedIn_14 : decode cX1_countedIn 14 = .ok (.goto 9, 3) := by decide +kernel
theorem dX1_countedIn_17 : decode cX1_countedIn 17 = .ok (.aload_n 0, 1) := by decide +kernel
theorem dX1_countedIn_18 : decode cX1_countedIn 18 = .ok (.getfield 17, 3) := by decide +kernel
theorem dX1_countedIn_21 : decode cX1_countedIn 21 = .ok (.iload_n 1, 1) := by decide +kernel
theorem dX1_countedIn_22 : decode cX1_countedIn 22 = .ok (.laload, 1) := by decide +kernel
theorem dX1_countedIn_23 : decode cX1_countedIn 23 = .ok (.lreturn, 1) := by decide +kernel
theorem dX1_addCounted_0 : decode cX1_addCounted 0 = .ok (.iload_n 1, 1) := by decide +kernel
theorem dX1_addCounted_1 : decode cX1_addCounted 1 = .ok (.ifCond .lt 22, 3) := by decide +kernel
theorem dX1_addCounted_4 : decode cX1_addCounted 4 = .ok (.iload_n 1, 1) := by decide +kernel
theorem dX1_addCounted_5 : decode cX1_addCounted 5 = .ok (.aload_n 0, 1) := by decide +kernel
theorem dX1_addCounted_6 : decode cX1_addCounted 6 = .ok (.getfield 17, 3) := by decide +kernel
theorem dX1_addCounted_9 : decode cX1_addCounted 9 = .ok (.arraylength, 1) := by decide +kernel
theorem dX1_addCounted_10 : decode cX1_addCounted 10 = .ok (.if_icmp .ge 13, 3) := by decide +kernel
theorem dX1_addCounted_13 : decode cX1_addCounted 13 = .ok (.aload_n 0, 1) := by decide +kernel
theorem dX1_addCounted_14 : decode cX1_addCounted 14 = .ok (.getfield 17, 3) := by decide +kernel
theorem dX1_addCounted_17 : decode cX1_addCounted 17 = .ok (.iload_n 1, 1) := by decide +kernel
theorem dX1_addCounted_18 : decode cX1_addCounted 18 = .ok (.dup2, 1) := by decide +kernel
theorem dX1_addCounted_19 : decode cX1_addCounted 19 = .ok (.laload, 1) := by decide +kernel
theorem dX1_addCounted_20 : decode cX1_addCounted 20 = .ok (.lload_n 2, 1) := by decide +kernel
theorem dX1_addCounted_21 : decode cX1_addCounted 21 = .ok (.ladd, 1) := by decide +kernel
theorem dX1_addCounted_22 : decode cX1_addCounted 22 = .ok (.lastore, 1) := by decide +kernel
theorem dX1_addCounted_23 : decode cX1_addCounted 23 = .ok (.return_, 1) := by decide +kernel
theorem dX1_lotOf_0 : decode cX1_lotOf 0 = .ok (.iload_n 1, 1) := by decide +kernel
theorem dX1_lotOf_1 : decode cX1_lotOf 1 = .ok (.invokestatic 89, 3) := by decide +kernel
theorem dX1_lotOf_4 : decode cX1_lotOf 4 = .ok (.ifCond .ne 5, 3) := by decide +kernel
theorem dX1_lotOf_7 : decode cX1_lotOf 7 = .ok (.aconst_null, 1) := by decide +kernel
theorem dX1_lotOf_8 : decode cX1_lotOf 8 = .ok (.areturn, 1) := by decide +kernel
theorem dX1_lotOf_9 : decode cX1_lotOf 9 = .ok (.iload_n 1, 1) := by decide +kernel
theorem dX1_lotOf_10 : decode cX1_lotOf 10 = .ok (.bipush 6, 2) := by decide +kernel
theorem dX1_lotOf_12 : decode cX1_lotOf 12 = .ok (.idiv, 1) := by decide +kernel
theorem dX1_lotOf_13 : decode cX1_lotOf 13 = .ok (.istore_n 2, 1) := by decide +kernel
theorem dX1_lotOf_14 : decode cX1_lotOf 14 = .ok (.iload_n 2, 1) := by decide +kernel
theorem dX1_lotOf_15 : decode cX1_lotOf 15 = .ok (.ifCond .lt 12, 3) := by decide +kernel
theorem dX1_lotOf_18 : decode cX1_lotOf 18 = .ok (.iload_n 2, 1) := by decide +kernel
theorem dX1_lotOf_19 : decode cX1_lotOf 19 = .ok (.aload_n 0, 1) := by decide +kernel
theorem dX1_lotOf_20 : decode cX1_lotOf 20 = .ok (.getfield 11, 3) := by decide +kernel
theorem dX1_lotOf_23 : decode cX1_lotOf 23 = .ok (.arraylength, 1) := by decide +kernel
theorem dX1_lotOf_24 : decode cX1_lotOf 24 = .ok (.if_icmp .lt 7, 3) := by decide +kernel
theorem dX1_lotOf_27 : decode cX1_lotOf 27 = .ok (.aconst_null, 1) := by decide +kernel
theorem dX1_lotOf_28 : decode cX1_lotOf 28 = .ok (.goto 9, 3) := by decide +kernel
theorem dX1_lotOf_31 : decode cX1_lotOf 31 = .ok (.aload_n 0, 1) := by decide +kernel
theorem dX1_lotOf_32 : decode cX1_lotOf 32 = .ok (.getfield 11, 3) := by decide +kernel
theorem dX1_lotOf_35 : decode cX1_lotOf 35 = .ok (.iload_n 2, 1) := by decide +kernel
theorem dX1_lotOf_36 : decode cX1_lotOf 36 = .ok (.aaload, 1) := by decide +kernel
theorem dX1_lotOf_37 : decode cX1_lotOf 37 = .ok (.areturn, 1) := by decide +kernel
theorem dX1_putLot_0 : decode cX1_putLot 0 = .ok (.aload_n 1, 1) := by decide +kernel
theorem dX1_putLot_1 : decode cX1_putLot 1 = .ok (.getfield 93, 3) := by decide +kernel
theorem dX1_putLot_4 : decode cX1_putLot 4 = .ok (.bipush 6, 2) := by decide +kernel
theorem dX1_putLot_6 : decode cX1_putLot 6 = .ok (.idiv, 1) := by decide +kernel
theorem dX1_putLot_7 : decode cX1_putLot 7 = .ok (.istore_n 2, 1) := by decide +kernel
theorem dX1_putLot_8 : decode cX1_putLot 8 = .ok (.iload_n 2, 1) := by decide +kernel
theorem dX1_putLot_9 : decode cX1_putLot 9 = .ok (.ifCond .lt 19, 3) := by decide +kernel
theorem dX1_putLot_12 : decode cX1_putLot 12 = .ok (.iload_n 2, 1) := by decide +kernel
theorem dX1_putLot_13 : decode cX1_putLot 13 = .ok (.aload_n 0, 1) := by decide +kernel
theorem dX1_putLot_14 : decode cX1_putLot 14 = .ok (.getfield 11, 3) := by decide +kernel
theorem dX1_putLot_17 : decode cX1_putLot 17 = .ok (.arraylength, 1) := by decide +kernel
theorem dX1_putLot_18 : decode cX1_putLot 18 = .ok (.if_icmp .ge 10, 3) := by decide +kernel
theorem dX1_putLot_21 : decode cX1_putLot 21 = .ok (.aload_n 0, 1) := by decide +kernel
theorem dX1_putLot_22 : decode cX1_putLot 22 = .ok (.getfield 11, 3) := by decide +kernel
theorem dX1_putLot_25 : decode cX1_putLot 25 = .ok (.iload_n 2, 1) := by decide +kernel
theorem dX1_putLot_26 : decode cX1_putLot 26 = .ok (.aload_n 1, 1) := by decide +kernel
theorem dX1_putLot_27 : decode cX1_putLot 27 = .ok (.aastore, 1) := by decide +kernel
theorem dX1_putLot_28 : decode cX1_putLot 28 = .ok (.return_, 1) := by decide +kernel
theorem dX1_sharesHeld_0 : decode cX1_sharesHeld 0 = .ok (.iconst 0, 1) := by decide +kernel
theorem dX1_sharesHeld_1 : decode cX1_sharesHeld 1 = .ok (.istore_n 1, 1) := by decide +kernel
theorem dX1_sharesHeld_2 : decode cX1_sharesHeld 2 = .ok (.iconst 0, 1) := by decide +kernel
theorem dX1_sharesHeld_3 : decode cX1_sharesHeld 3 = .ok (.istore_n 2, 1) := by decide +kernel
theorem dX1_sharesHeld_4 : decode cX1_sharesHeld 4 = .ok (.iload_n 2, 1) := by decide +kernel
theorem dX1_sharesHeld_5 : decode cX1_sharesHeld 5 = .ok (.aload_n 0, 1) := by decide +kernel
theorem dX1_sharesHeld_6 : decode cX1_sharesHeld 6 = .ok (.getfield 11, 3) := by decide +kernel
theorem dX1_sharesHeld_9 : decode cX1_sharesHeld 9 = .ok (.arraylength, 1) := by decide +kernel
theorem dX1_sharesHeld_10 : decode cX1_sharesHeld 10 = .ok (.if_icmp .ge 27, 3) := by decide +kernel
theorem dX1_sharesHeld_13 : decode cX1_sharesHeld 13 = .ok (.aload_n 0, 1) := by decide +kernel
theorem dX1_sharesHeld_14 : decode cX1_sharesHeld 14 = .ok (.getfield 11, 3) := by decide +kernel
theorem dX1_sharesHeld_17 : decode cX1_sharesHeld 17 = .ok (.iload_n 2, 1) := by decide +kernel
theorem dX1_sharesHeld_18 : decode cX1_sharesHeld 18 = .ok (.aaload, 1) := by decide +kernel
theorem dX1_sharesHeld_19 : decode cX1_sharesHeld 19 = .ok (.astore_n 3, 1) := by decide +kernel
theorem dX1_sharesHeld_20 : decode cX1_sharesHeld 20 = .ok (.aload_n 3, 1) := by decide +kernel
theorem dX1_sharesHeld_21 : decode cX1_sharesHeld 21 = .ok (.ifnull 10, 3) := by decide +kernel
theorem dX1_sharesHeld_24 : decode cX1_sharesHeld 24 = .ok (.iload_n 1, 1) := by decide +kernel
theorem dX1_sharesHeld_25 : decode cX1_sharesHeld 25 = .ok (.aload_n 3, 1) := by decide +kernel
theorem dX1_sharesHeld_26 : decode cX1_sharesHeld 26 = .ok (.getfield 96, 3) := by decide +kernel
theorem dX1_sharesHeld_29 : decode cX1_sharesHeld 29 = .ok (.iadd, 1) := by decide +kernel
theorem dX1_sharesHeld_30 : decode cX1_sharesHeld 30 = .ok (.istore_n 1, 1) := by decide +kernel
theorem dX1_sharesHeld_31 : decode cX1_sharesHeld 31 = .ok (.iinc 2 1, 3) := by decide +kernel
theorem dX1_sharesHeld_34 : decode cX1_sharesHeld 34 = .ok (.goto (-30), 3) := by decide +kernel
theorem dX1_sharesHeld_37 : decode cX1_sharesHeld 37 = .ok (.iload_n 1, 1) := by decide +kernel
theorem dX1_sharesHeld_38 : decode cX1_sharesHeld 38 = .ok (.ireturn, 1) := by decide +kernel
theorem dX1_sellOldest_0 : decode cX1_sellOldest 0 = .ok (.iconst 0, 1) := by decide +kernel
theorem dX1_sellOldest_1 : decode cX1_sellOldest 1 = .ok (.istore 4, 2) := by decide +kernel
theorem dX1_sellOldest_3 : decode cX1_sellOldest 3 = .ok (.iload_n 1, 1) := by decide +kernel
theorem dX1_sellOldest_4 : decode cX1_sellOldest 4 = .ok (.istore 5, 2) := by decide +kernel
theorem dX1_sellOldest_6 : decode cX1_sellOldest 6 = .ok (.iconst 0, 1) := by decide +kernel
theorem dX1_sellOldest_7 : decode cX1_sellOldest 7 = .ok (.istore 6, 2) := by decide +kernel
theorem dX1_sellOldest_9 : decode cX1_sellOldest 9 = .ok (.iload 6, 2) := by decide +kernel
theorem dX1_sellOldest_11 : decode cX1_sellOldest 11 = .ok (.aload_n 0, 1) := by decide +kernel
theorem dX1_sellOldest_12 : decode cX1_sellOldest 12 = .ok (.getfield 11, 3) := by decide +kernel
theorem dX1_sellOldest_15 : decode cX1_sellOldest 15 = .ok (.arraylength, 1) := by decide +kernel
theorem dX1_sellOldest_16 : decode cX1_sellOldest 16 = .ok (.if_icmp .ge 114, 3) := by decide +kernel
theorem dX1_sellOldest_19 : decode cX1_sellOldest 19 = .ok (.aload_n 0, 1) := by decide +kernel
theorem dX1_sellOldest_20 : decode cX1_sellOldest 20 = .ok (.getfield 11, 3) := by decide +kernel
theorem dX1_sellOldest_23 : decode cX1_sellOldest 23 = .ok (.iload 6, 2) := by decide +kernel
theorem dX1_sellOldest_25 : decode cX1_sellOldest 25 = .ok (.aaload, 1) := by decide +kernel
theorem dX1_sellOldest_26 : decode cX1_sellOldest 26 = .ok (.astore 7, 2) := by decide +kernel
theorem dX1_sellOldest_28 : decode cX1_sellOldest 28 = .ok (.aload 7, 2) := by decide +kernel
theorem dX1_sellOldest_30 : decode cX1_sellOldest 30 = .ok (.ifnull 94, 3) := by decide +kernel
theorem dX1_sellOldest_33 : decode cX1_sellOldest 33 = .ok (.iload 5, 2) := by decide +kernel
theorem dX1_sellOldest_35 : decode cX1_sellOldest 35 = .ok (.aload 7, 2) := by decide +kernel
theorem dX1_sellOldest_37 : decode cX1_sellOldest 37 = .ok (.getfield 96, 3) := by decide +kernel
theorem dX1_sellOldest_40 : decode cX1_sellOldest 40 = .ok (.invokestatic 45, 3) := by decide +kernel
theorem dX1_sellOldest_43 : decode cX1_sellOldest 43 = .ok (.istore 8, 2) := by decide +kernel
theorem dX1_sellOldest_45 : decode cX1_sellOldest 45 = .ok (.aload_n 0, 1) := by decide +kernel
theorem dX1_sellOldest_46 : decode cX1_sellOldest 46 = .ok (.dup, 1) := by decide +kernel
theorem dX1_sellOldest_47 : decode cX1_sellOldest 47 = .ok (.getfield 99, 3) := by decide +kernel
theorem dX1_sellOldest_50 : decode cX1_sellOldest 50 = .ok (.iload 8, 2) := by decide +kernel
theorem dX1_sellOldest_52 : decode cX1_sellOldest 52 = .ok (.i2l, 1) := by decide +kernel
theorem dX1_sellOldest_53 : decode cX1_sellOldest 53 = .ok (.aload 7, 2) := by decide +kernel
theorem dX1_sellOldest_55 : decode cX1_sellOldest 55 = .ok (.iload_n 2, 1) := by decide +kernel
theorem dX1_sellOldest_56 : decode cX1_sellOldest 56 = .ok (.iload_n 3, 1) := by decide +kernel
theorem dX1_sellOldest_57 : decode cX1_sellOldest 57 = .ok (.invokevirtual 102, 3) := by decide +kernel
theorem dX1_sellOldest_60 : decode cX1_sellOldest 60 = .ok (.lmul, 1) := by decide +kernel
theorem dX1_sellOldest_61 : decode cX1_sellOldest 61 = .ok (.ladd, 1) := by decide +kernel
theorem dX1_sellOldest_62 : decode cX1_sellOldest 62 = .ok (.putfield 99, 3) := by decide +kernel
theorem dX1_sellOldest_65 : decode cX1_sellOldest 65 = .ok (.aload_n 0, 1) := by decide +kernel
theorem dX1_sellOldest_66 : decode cX1_sellOldest 66 = .ok (.dup, 1) := by decide +kernel
theorem dX1_sellOldest_67 : decode cX1_sellOldest 67 = .ok (.getfield 106, 3) := by decide +kernel
theorem dX1_sellOldest_70 : decode cX1_sellOldest 70 = .ok (.iload 8, 2) := by decide +kernel
theorem dX1_sellOldest_72 : decode cX1_sellOldest 72 = .ok (.i2l, 1) := by decide +kernel
theorem dX1_sellOldest_73 : decode cX1_sellOldest 73 = .ok (.aload 7, 2) := by decide +kernel
theorem dX1_sellOldest_75 : decode cX1_sellOldest 75 = .ok (.iload_n 2, 1) := by decide +kernel
theorem dX1_sellOldest_76 : decode cX1_sellOldest 76 = .ok (.iload_n 3, 1) := by decide +kernel
theorem dX1_sellOldest_77 : decode cX1_sellOldest 77 = .ok (.invokevirtual 109, 3) := by decide +kernel
theorem dX1_sellOldest_80 : decode cX1_sellOldest 80 = .ok (.lmul, 1) := by decide +kernel
theorem dX1_sellOldest_81 : decode cX1_sellOldest 81 = .ok (.ladd, 1) := by decide +kernel
theorem dX1_sellOldest_82 : decode cX1_sellOldest 82 = .ok (.putfield 106, 3) := by decide +kernel
theorem dX1_sellOldest_85 : decode cX1_sellOldest 85 = .ok (.iload 4, 2) := by decide +kernel
theorem dX1_sellOldest_87 : decode cX1_sellOldest 87 = .ok (.aload 7, 2) := by decide +kernel
theorem dX1_sellOldest_89 : decode cX1_sellOldest 89 = .ok (.iload_n 2, 1) := by decide +kernel
theorem dX1_sellOldest_90 : decode cX1_sellOldest 90 = .ok (.invokevirtual 112, 3) := by decide +kernel
theorem dX1_sellOldest_93 : decode cX1_sellOldest 93 = .ok (.ifCond .eq 8, 3) := by decide +kernel
theorem dX1_sellOldest_96 : decode cX1_sellOldest 96 = .ok (.iload 8, 2) := by decide +kernel
theorem dX1_sellOldest_98 : decode cX1_sellOldest 98 = .ok (.goto 4, 3) := by decide +kernel
theorem dX1_sellOldest_101 : decode cX1_sellOldest 101 = .ok (.iconst 0, 1) := by decide +kernel
theorem dX1_sellOldest_102 : decode cX1_sellOldest 102 = .ok (.iadd, 1) := by decide +kernel
theorem dX1_sellOldest_103 : decode cX1_sellOldest 103 = .ok (.istore 4, 2) := by decide +kernel
theorem dX1_sellOldest_105 : decode cX1_sellOldest 105 = .ok (.aload 7, 2) := by decide +kernel
theorem dX1_sellOldest_107 : decode cX1_sellOldest 107 = .ok (.dup, 1) := by decide +kernel
theorem dX1_sellOldest_108 : decode cX1_sellOldest 108 = .ok (.getfield 96, 3) := by decide +kernel
theorem dX1_sellOldest_111 : decode cX1_sellOldest 111 = .ok (.iload 8, 2) := by decide +kernel
theorem dX1_sellOldest_113 : decode cX1_sellOldest 113 = .ok (.isub, 1) := by decide +kernel
theorem dX1_sellOldest_114 : decode cX1_sellOldest 114 = .ok (.putfield 96, 3) := by decide +kernel
theorem dX1_sellOldest_117 : decode cX1_sellOldest 117 = .ok (.iload 5, 2) := by decide +kernel
theorem dX1_sellOldest_119 : decode cX1_sellOldest 119 = .ok (.iload 8, 2) := by decide +kernel
theorem dX1_sellOldest_121 : decode cX1_sellOldest 121 = .ok (.isub, 1) := by decide +kernel
theorem dX1_sellOldest_122 : decode cX1_sellOldest 122 = .ok (.istore 5, 2) := by decide +kernel
theorem dX1_sellOldest_124 : decode cX1_sellOldest 124 = .ok (.iinc 6 1, 3) := by decide +kernel
theorem dX1_sellOldest_127 : decode cX1_sellOldest 127 = .ok (.goto (-118), 3) := by decide +kernel
theorem dX1_sellOldest_130 : decode cX1_sellOldest 130 = .ok (.iload 4, 2) := by decide +kernel
theorem dX1_sellOldest_132 : decode cX1_sellOldest 132 = .ok (.ireturn, 1) := by decide +kernel
theorem dX1_gainIfAllSold_0 : decode cX1_gainIfAllSold 0 = .ok (.lconst 0, 1) := by decide +kernel
theorem dX1_gainIfAllSold_1 : decode cX1_gainIfAllSold 1 = .ok (.lstore_n 3, 1) := by decide +kernel
theorem dX1_gainIfAllSold_2 : decode cX1_gainIfAllSold 2 = .ok (.iconst 0, 1) := by decide +kernel
theorem dX1_gainIfAllSold_3 : decode cX1_gainIfAllSold 3 = .ok (.istore 5, 2) := by decide +kernel
theorem dX1_gainIfAllSold_5 : decode cX1_gainIfAllSold 5 = .ok (.iload 5, 2) := by decide +kernel
theorem dX1_gainIfAllSold_7 : decode cX1_gainIfAllSold 7 = .ok (.aload_n 0, 1) := by decide +kernel
theorem dX1_gainIfAllSold_8 : decode cX1_gainIfAllSold 8 = .ok (.getfield 11, 3) := by decide +kernel
theorem dX1_gainIfAllSold_11 : decode cX1_gainIfAllSold 11 = .ok (.arraylength, 1) := by decide +kernel
theorem dX1_gainIfAllSold_12 : decode cX1_gainIfAllSold 12 = .ok (.if_icmp .ge 40, 3) := by decide +kernel
theorem dX1_gainIfAllSold_15 : decode cX1_gainIfAllSold 15 = .ok (.aload_n 0, 1) := by decide +kernel
theorem dX1_gainIfAllSold_16 : decode cX1_gainIfAllSold 16 = .ok (.getfield 11, 3) := by decide +kernel
theorem dX1_gainIfAllSold_19 : decode cX1_gainIfAllSold 19 = .ok (.iload 5, 2) := by decide +kernel
theorem dX1_gainIfAllSold_21 : decode cX1_gainIfAllSold 21 = .ok (.aaload, 1) := by decide +kernel
theorem dX1_gainIfAllSold_22 : decode cX1_gainIfAllSold 22 = .ok (.astore 6, 2) := by decide +kernel
theorem dX1_gainIfAllSold_24 : decode cX1_gainIfAllSold 24 = .ok (.aload 6, 2) := by decide +kernel
theorem dX1_gainIfAllSold_26 : decode cX1_gainIfAllSold 26 = .ok (.ifnull 20, 3) := by decide +kernel
theorem dX1_gainIfAllSold_29 : decode cX1_gainIfAllSold 29 = .ok (.lload_n 3, 1) := by decide +kernel
theorem dX1_gainIfAllSold_30 : decode cX1_gainIfAllSold 30 = .ok (.aload 6, 2) := by decide +kernel
theorem dX1_gainIfAllSold_32 : decode cX1_gainIfAllSold 32 = .ok (.getfield 96, 3) := by decide +kernel
theorem dX1_gainIfAllSold_35 : decode cX1_gainIfAllSold 35 = .ok (.i2l, 1) := by decide +kernel
theorem dX1_gainIfAllSold_36 : decode cX1_gainIfAllSold 36 = .ok (.aload 6, 2) := by decide +kernel
theorem dX1_gainIfAllSold_38 : decode cX1_gainIfAllSold 38 = .ok (.iload_n 1, 1) := by decide +kernel
theorem dX1_gainIfAllSold_39 : decode cX1_gainIfAllSold 39 = .ok (.iload_n 2, 1) := by decide +kernel
theorem dX1_gainIfAllSold_40 : decode cX1_gainIfAllSold 40 = .ok (.invokevirtual 109, 3) := by decide +kernel
theorem dX1_gainIfAllSold_43 : decode cX1_gainIfAllSold 43 = .ok (.lmul, 1) := by decide +kernel
theorem dX1_gainIfAllSold_44 : decode cX1_gainIfAllSold 44 = .ok (.ladd, 1) := by decide +kernel
theorem dX1_gainIfAllSold_45 : decode cX1_gainIfAllSold 45 = .ok (.lstore_n 3, 1) := by decide +kernel
theorem dX1_gainIfAllSold_46 : decode cX1_gainIfAllSold 46 = .ok (.iinc 5 1, 3) := by decide +kernel
theorem dX1_gainIfAllSold_49 : decode cX1_gainIfAllSold 49 = .ok (.goto (-44), 3) := by decide +kernel
theorem dX1_gainIfAllSold_52 : decode cX1_gainIfAllSold 52 = .ok (.lload_n 3, 1) := by decide +kernel
theorem dX1_gainIfAllSold_53 : decode cX1_gainIfAllSold 53 = .ok (.lreturn, 1) := by decide +kernel
theorem dX2_init_0 : decode cX2_init 0 = .ok (.aload_n 0, 1) := by decide +kernel
theorem dX2_init_1 : decode cX2_init 1 = .ok (.invokespecial 3, 3) := by decide +kernel
theorem dX2_init_4 : decode cX2_init 4 = .ok (.aload_n 0, 1) := by decide +kernel
theorem dX2_init_5 : decode cX2_init 5 = .ok (.bipush 6, 2) := by decide +kernel
theorem dX2_init_7 : decode cX2_init 7 = .ok (.anewarray 9, 3) := by decide +kernel
theorem dX2_init_10 : decode cX2_init 10 = .ok (.putfield 11, 3) := by decide +kernel
theorem dX2_init_13 : decode cX2_init 13 = .ok (.aload_n 0, 1) := by decide +kernel
theorem dX2_init_14 : decode cX2_init 14 = .ok (.iconst 0, 1) := by decide +kernel
theorem dX2_init_15 : decode cX2_init 15 = .ok (.putfield 15, 3) := by decide +kernel
theorem dX2_init_18 : decode cX2_init 18 = .ok (.aload_n 0, 1) := by decide +kernel
theorem dX2_init_19 : decode cX2_init 19 = .ok (.iconst (-1), 1) := by decide +kernel
theorem dX2_init_20 : decode cX2_init 20 = .ok (.putfield 19, 3) := by decide +kernel
theorem dX2_init_23 : decode cX2_init 23 = .ok (.aload_n 0, 1) := by decide +kernel
theorem dX2_init_24 : decode cX2_init 24 = .ok (.iconst 0, 1) := by decide +kernel
theorem dX2_init_25 : decode cX2_init 25 = .ok (.putfield 22, 3) := by decide +kernel
theorem dX2_init_28 : decode cX2_init 28 = .ok (.aload_n 0, 1) := by decide +kernel
theorem dX2_init_29 : decode cX2_init 29 = .ok (.ldc 25, 2) := by decide +kernel
theorem dX2_init_31 : decode cX2_init 31 = .ok (.putfield 26, 3) := by decide +kernel
theorem dX2_init_34 : decode cX2_init 34 = .ok (.return_, 1) := by decide +kernel
theorem dX2_next_0 : decode cX2_next 0 = .ok (.iload_n 1, 1) := by decide +kernel
theorem dX2_next_1 : decode cX2_next 1 = .ok (.iconst 1, 1) := by decide +kernel
theorem dX2_next_2 : decode cX2_next 2 = .ok (.if_icmp .lt 9, 3) := by decide +kernel
theorem dX2_next_5 : decode cX2_next 5 = .ok (.iload_n 1, 1) := by decide +kernel
theorem dX2_next_6 : decode cX2_next 6 = .ok (.ldc 29, 2) := by decide +kernel
theorem dX2_next_8 : decode cX2_next 8 = .ok (.if_icmp .le 13, 3) := by decide +kernel
theorem dX2_next_11 : decode cX2_next 11 = .ok (.new 30, 3) := by decide +kernel
theorem dX2_next_14 : decode cX2_next 14 = .ok (.dup, 1) := by decide +kernel
theorem dX2_next_15 : decode cX2_next 15 = .ok (.ldc 32, 2) := by decide +kernel
theorem dX2_next_17 : decode cX2_next 17 = .ok (.invokespecial 34, 3) := by decide +kernel
theorem dX2_next_20 : decode cX2_next 20 = .ok (.athrow, 1) := by decide +kernel
theorem dX2_next_21 : decode cX2_next 21 = .ok (.aload_n 0, 1) := by decide +kernel
theorem dX2_next_22 : decode cX2_next 22 = .ok (.getfield 19, 3) := by decide +kernel
theorem dX2_next_25 : decode cX2_next 25 = .ok (.bipush 59, 2) := by decide +kernel
theorem dX2_next_27 : decode cX2_next 27 = .ok (.if_icmp .lt 13, 3) := by decide +kernel
theorem dX2_next_30 : decode cX2_next 30 = .ok (.new 37, 3) := by decide +kernel
theorem dX2_next_33 : decode cX2_next 33 = .ok (.dup, 1) := by decide +kernel
theorem dX2_next_34 : decode cX2_next 34 = .ok (.ldc 39, 2) := by decide +kernel
theorem dX2_next_36 : decode cX2_next 36 = .ok (.invokespecial 41, 3) := by decide +kernel
theorem dX2_next_39 : decode cX2_next 39 = .ok (.athrow, 1) := by decide +kernel
theorem dX2_next_40 : decode cX2_next 40 = .ok (.aload_n 0, 1) := by decide +kernel
theorem dX2_next_41 : decode cX2_next 41 = .ok (.getfield 19, 3) := by decide +kernel
theorem dX2_next_44 : decode cX2_next 44 = .ok (.invokestatic 42, 3) := by decide +kernel
theorem dX2_next_47 : decode cX2_next 47 = .ok (.ifCond .eq 7, 3) := by decide +kernel
theorem dX2_next_50 : decode cX2_next 50 = .ok (.aload_n 0, 1) := by decide +kernel
theorem dX2_next_51 : decode cX2_next 51 = .ok (.invokevirtual 46, 3) := by decide +kernel
theorem dX2_next_54 : decode cX2_next 54 = .ok (.aload_n 0, 1) := by decide +kernel
theorem dX2_next_55 : decode cX2_next 55 = .ok (.dup, 1) := by decide +kernel
theorem dX2_next_56 : decode cX2_next 56 = .ok (.getfield 19, 3) := by decide +kernel
theorem dX2_next_59 : decode cX2_next 59 = .ok (.iconst 1, 1) := by decide +kernel
theorem dX2_next_60 : decode cX2_next 60 = .ok (.iadd, 1) := by decide +kernel
theorem dX2_next_61 : decode cX2_next 61 = .ok (.putfield 19, 3) := by decide +kernel
theorem dX2_next_64 : decode cX2_next 64 = .ok (.aload_n 0, 1) := by decide +kernel
theorem dX2_next_65 : decode cX2_next 65 = .ok (.iload_n 1, 1) := by decide +kernel
theorem dX2_next_66 : decode cX2_next 66 = .ok (.putfield 22, 3) := by decide +kernel
theorem dX2_next_69 : decode cX2_next 69 = .ok (.aload_n 0, 1) := by decide +kernel
theorem dX2_next_70 : decode cX2_next 70 = .ok (.getfield 19, 3) := by decide +kernel
theorem dX2_next_73 : decode cX2_next 73 = .ok (.ireturn, 1) := by decide +kernel
theorem dX2_month_0 : decode cX2_month 0 = .ok (.aload_n 0, 1) := by decide +kernel
theorem dX2_month_1 : decode cX2_month 1 = .ok (.getfield 19, 3) := by decide +kernel
theorem dX2_month_4 : decode cX2_month 4 = .ok (.ireturn, 1) := by decide +kernel
theorem dX2_ceiling_0 : decode cX2_ceiling 0 = .ok (.iload_n 1, 1) := by decide +kernel
theorem dX2_ceiling_1 : decode cX2_ceiling 1 = .ok (.ifCond .lt 9, 3) := by decide +kernel
theorem dX2_ceiling_4 : decode cX2_ceiling 4 = .ok (.iload_n 1, 1) := by decide +kernel
theorem dX2_ceiling_5 : decode cX2_ceiling 5 = .ok (.ldc 49, 2) := by decide +kernel
theorem dX2_ceiling_7 : decode cX2_ceiling 7 = .ok (.if_icmp .le 13, 3) := by decide +kernel
theorem dX2_ceiling_10 : decode cX2_ceiling 10 = .ok (.new 30, 3) := by decide +kernel
theorem dX2_ceiling_13 : decode cX2_ceiling 13 = .ok (.dup, 1) := by decide +kernel
theorem dX2_ceiling_14 : decode cX2_ceiling 14 = .ok (.ldc 50, 2) := by decide +kernel
theorem dX2_ceiling_16 : decode cX2_ceiling 16 = .ok (.invokespecial 34, 3) := by decide +kernel
theorem dX2_ceiling_19 : decode cX2_ceiling 19 = .ok (.athrow, 1) := by decide +kernel
theorem dX2_ceiling_20 : decode cX2_ceiling 20 = .ok (.aload_n 0, 1) := by decide +kernel
theorem dX2_ceiling_21 : decode cX2_ceiling 21 = .ok (.getfield 26, 3) := by decide +kernel
theorem dX2_ceiling_24 : decode cX2_ceiling 24 = .ok (.istore_n 2, 1) := by decide +kernel
theorem dX2_ceiling_25 : decode cX2_ceiling 25 = .ok (.aload_n 0, 1) := by decide +kernel
theorem dX2_ceiling_26 : decode cX2_ceiling 26 = .ok (.iload_n 1, 1) := by decide +kernel
theorem dX2_ceiling_27 : decode cX2_ceiling 27 = .ok (.putfield 26, 3) := by decide +kernel
theorem dX2_ceiling_30 : decode cX2_ceiling 30 = .ok (.iload_n 2, 1) := by decide +kernel
theorem dX2_ceiling_31 : decode cX2_ceiling 31 = .ok (.ireturn, 1) := by decide +kernel
theorem dX2_join_0 : decode cX2_join 0 = .ok (.iload_n 1, 1) := by decide +kernel
theorem dX2_join_1 : decode cX2_join 1 = .ok (.invokestatic 52, 3) := by decide +kernel
theorem dX2_join_4 : decode cX2_join 4 = .ok (.aload_n 0, 1) := by decide +kernel
theorem dX2_join_5 : decode cX2_join 5 = .ok (.getfield 19, 3) := by decide +kernel
theorem dX2_join_8 : decode cX2_join 8 = .ok (.iconst (-1), 1) := by decide +kernel
theorem dX2_join_9 : decode cX2_join 9 = .ok (.if_icmp .ne 13, 3) := by decide +kernel
theorem dX2_join_12 : decode cX2_join 12 = .ok (.new 37, 3) := by decide +kernel
theorem dX2_join_15 : decode cX2_join 15 = .ok (.dup, 1) := by decide +kernel
theorem dX2_join_16 : decode cX2_join 16 = .ok (.ldc 56, 2) := by decide +kernel
theorem dX2_join_18 : decode cX2_join 18 = .ok (.invokespecial 41, 3) := by decide +kernel
theorem dX2_join_21 : decode cX2_join 21 = .ok (.athrow, 1) := by decide +kernel
theorem dX2_join_22 : decode cX2_join 22 = .ok (.aload_n 0, 1) := by decide +kernel
theorem dX2_join_23 : decode cX2_join 23 = .ok (.getfield 15, 3) := by decide +kernel
theorem dX2_join_26 : decode cX2_join 26 = .ok (.istore_n 2, 1) := by decide +kernel
theorem dX2_join_27 : decode cX2_join 27 = .ok (.iload_n 2, 1) := by decide +kernel
theorem dX2_join_28 : decode cX2_join 28 = .ok (.ifCond .lt 12, 3) := by decide +kernel
theorem dX2_join_31 : decode cX2_join 31 = .ok (.iload_n 2, 1) := by decide +kernel
theorem dX2_join_32 : decode cX2_join 32 = .ok (.aload_n 0, 1) := by decide +kernel
theorem dX2_join_33 : decode cX2_join 33 = .ok (.getfield 11, 3) := by decide +kernel
theorem dX2_join_36 : decode cX2_join 36 = .ok (.arraylength, 1) := by decide +kernel
theorem dX2_join_37 : decode cX2_join 37 = .ok (.if_icmp .lt 13, 3) := by decide +kernel
theorem dX2_join_40 : decode cX2_join 40 = .ok (.new 37, 3) := by decide +kernel
theorem dX2_join_43 : decode cX2_join 43 = .ok (.dup, 1) := by decide +kernel
theorem dX2_join_44 : decode cX2_join 44 = .ok (.ldc 58, 2) := by decide +kernel
theorem dX2_join_46 : decode cX2_join 46 = .ok (.invokespecial 41, 3) := by decide +kernel
theorem dX2_join_49 : decode cX2_join 49 = .ok (.athrow, 1) := by decide +kernel
theorem dX2_join_50 : decode cX2_join 50 = .ok (.aload_n 0, 1) := by decide +kernel
theorem dX2_join_51 : decode cX2_join 51 = .ok (.getfield 11, 3) := by decide +kernel
theorem dX2_join_54 : decode cX2_join 54 = .ok (.iload_n 2, 1) := by decide +kernel
theorem dX2_join_55 : decode cX2_join 55 = .ok (.new 9, 3) := by decide +kernel
theorem dX2_join_58 : decode cX2_join 58 = .ok (.dup, 1) := by decide +kernel
theorem dX2_join_59 : decode cX2_join 59 = .ok (.iload_n 1, 1) := by decide +kernel
theorem dX2_join_60 : decode cX2_join 60 = .ok (.aload_n 0, 1) := by decide +kernel
theorem dX2_join_61 : decode cX2_join 61 = .ok (.getfield 19, 3) := by decide +kernel
theorem dX2_join_64 : decode cX2_join 64 = .ok (.aload_n 0, 1) := by decide +kernel
theorem dX2_join_65 : decode cX2_join 65 = .ok (.getfield 22, 3) := by decide +kernel
theorem dX2_join_68 : decode cX2_join 68 = .ok (.invokespecial 60, 3) := by decide +kernel
theorem dX2_join_71 : decode cX2_join 71 = .ok (.aastore, 1) := by decide +kernel
theorem dX2_join_72 : decode cX2_join 72 = .ok (.aload_n 0, 1) := by decide +kernel
theorem dX2_join_73 : decode cX2_join 73 = .ok (.dup, 1) := by decide +kernel
theorem dX2_join_74 : decode cX2_join 74 = .ok (.getfield 15, 3) := by decide +kernel
theorem dX2_join_77 : decode cX2_join 77 = .ok (.iconst 1, 1) := by decide +kernel
theorem dX2_join_78 : decode cX2_join 78 = .ok (.iadd, 1) := by decide +kernel
theorem dX2_join_79 : decode cX2_join 79 = .ok (.putfield 15, 3) := by decide +kernel
theorem dX2_join_82 : decode cX2_join 82 = .ok (.iload_n 2, 1) := by decide +kernel
theorem dX2_join_83 : decode cX2_join 83 = .ok (.ireturn, 1) := by decide +kernel
theorem dX2_rate_0 : decode cX2_rate 0 = .ok (.aload_n 0, 1) := by decide +kernel
theorem dX2_rate_1 : decode cX2_rate 1 = .ok (.iload_n 1, 1) := by decide +kernel
theorem dX2_rate_2 : decode cX2_rate 2 = .ok (.invokevirtual 63, 3) := by decide +kernel
theorem dX2_rate_5 : decode cX2_rate 5 = .ok (.astore_n 3, 1) := by decide +kernel
theorem dX2_rate_6 : decode cX2_rate 6 = .ok (.iload_n 2, 1) := by decide +kernel
theorem dX2_rate_7 : decode cX2_rate 7 = .ok (.invokestatic 52, 3) := by decide +kernel
theorem dX2_rate_10 : decode cX2_rate 10 = .ok (.aload_n 3, 1) := by decide +kernel
theorem dX2_rate_11 : decode cX2_rate 11 = .ok (.invokestatic 67, 3) := by decide +kernel
theorem dX2_rate_14 : decode cX2_rate 14 = .ok (.aload_n 3, 1) := by decide +kernel
theorem dX2_rate_15 : decode cX2_rate 15 = .ok (.getfield 71, 3) := by decide +kernel
theorem dX2_rate_18 : decode cX2_rate 18 = .ok (.istore 4, 2) := by decide +kernel
theorem dX2_rate_20 : decode cX2_rate 20 = .ok (.aload_n 3, 1) := by decide +kernel
theorem dX2_rate_21 : decode cX2_rate 21 = .ok (.iload_n 2, 1) := by decide +kernel
theorem dX2_rate_22 : decode cX2_rate 22 = .ok (.putfield 71, 3) := by decide +kernel
theorem dX2_rate_25 : decode cX2_rate 25 = .ok (.iload 4, 2) := by decide +kernel
theorem dX2_rate_27 : decode cX2_rate 27 = .ok (.ireturn, 1) := by decide +kernel
theorem dX2_slip_0 : decode cX2_slip 0 = .ok (.aload_n 0, 1) := by decide +kernel
theorem dX2_slip_1 : decode cX2_slip 1 = .ok (.iload_n 1, 1) := by decide +kernel
theorem dX2_slip_2 : decode cX2_slip 2 = .ok (.invokevirtual 63, 3) := by decide +kernel
theorem dX2_slip_5 : decode cX2_slip 5 = .ok (.astore_n 3, 1) := by decide +kernel
theorem dX2_slip_6 : decode cX2_slip 6 = .ok (.iload_n 2, 1) := by decide +kernel
theorem dX2_slip_7 : decode cX2_slip 7 = .ok (.ifCond .lt 9, 3) := by decide +kernel
theorem dX2_slip_10 : decode cX2_slip 10 = .ok (.iload_n 2, 1) := by decide +kernel
theorem dX2_slip_11 : decode cX2_slip 11 = .ok (.ldc 74, 2) := by decide +kernel
theorem dX2_slip_13 : decode cX2_slip 13 = .ok (.if_icmp .le 13, 3) := by decide +kernel
theorem dX2_slip_16 : decode cX2_slip 16 = .ok (.new 30, 3) := by decide +kernel
theorem dX2_slip_19 : decode cX2_slip 19 = .ok (.dup, 1) := by decide +kernel
theorem dX2_slip_20 : decode cX2_slip 20 = .ok (.ldc 75, 2) := by decide +kernel
theorem dX2_slip_22 : decode cX2_slip 22 = .ok (.invokespecial 34, 3) := by decide +kernel
theorem dX2_slip_25 : decode cX2_slip 25 = .ok (.athrow, 1) := by decide +kernel
theorem dX2_slip_26 : decode cX2_slip 26 = .ok (.aload_n 3, 1) := by decide +kernel
theorem dX2_slip_27 : decode cX2_slip 27 = .ok (.invokestatic 67, 3) := by decide +kernel
theorem dX2_slip_30 : decode cX2_slip 30 = .ok (.aload_n 3, 1) := by decide +kernel
theorem dX2_slip_31 : decode cX2_slip 31 = .ok (.iload_n 2, 1) := by decide +kernel
theorem dX2_slip_32 : decode cX2_slip 32 = .ok (.invokevirtual 77, 3) := by decide +kernel
theorem dX2_slip_35 : decode cX2_slip 35 = .ok (.ireturn, 1) := by decide +kernel
theorem dX2_leave_0 : decode cX2_leave 0 = .ok (.aload_n 0, 1) := by decide +kernel
theorem dX2_leave_1 : decode cX2_leave 1 = .ok (.iload_n 1, 1) := by decide +kernel
theorem dX2_leave_2 : decode cX2_leave 2 = .ok (.invokevirtual 63, 3) := by decide +kernel
theorem dX2_leave_5 : decode cX2_leave 5 = .ok (.astore_n 2, 1) := by decide +kernel
theorem dX2_leave_6 : decode cX2_leave 6 = .ok (.aload_n 2, 1) := by decide +kernel
theorem dX2_leave_7 : decode cX2_leave 7 = .ok (.invokestatic 67, 3) := by decide +kernel
theorem dX2_leave_10 : decode cX2_leave 10 = .ok (.aload_n 2, 1) := by decide +kernel
theorem dX2_leave_11 : decode cX2_leave 11 = .ok (.invokevirtual 81, 3) := by decide +kernel
theorem dX2_leave_14 : decode cX2_leave 14 = .ok (.l2i, 1) := by decide +kernel
theorem dX2_leave_15 : decode cX2_leave 15 = .ok (.ireturn, 1) := by decide +kernel
theorem dX2_money_0 : decode cX2_money 0 = .ok (.aload_n 0, 1) := by decide +kernel
theorem dX2_money_1 : decode cX2_money 1 = .ok (.iload_n 1, 1) := by decide +kernel
theorem dX2_money_2 : decode cX2_money 2 = .ok (.invokevirtual 63, 3) := by decide +kernel
theorem dX2_money_5 : decode cX2_money 5 = .ok (.getfield 85, 3) := by decide +kernel
theorem dX2_money_8 : decode cX2_money 8 = .ok (.l2i, 1) := by decide +kernel
theorem dX2_money_9 : decode cX2_money 9 = .ok (.ireturn, 1) := by decide +kernel
theorem dX2_offerMonth_0 : decode cX2_offerMonth 0 = .ok (.aload_n 0, 1) := by decide +kernel
theorem dX2_offerMonth_1 : decode cX2_offerMonth 1 = .ok (.iload_n 1, 1) := by decide +kernel
theorem dX2_offerMonth_2 : decode cX2_offerMonth 2 = .ok (.invokevirtual 63, 3) := by decide +kernel
theorem dX2_offerMonth_5 : decode cX2_offerMonth 5 = .ok (.getfield 89, 3) := by decide +kernel
theorem dX2_offerMonth_8 : decode cX2_offerMonth 8 = .ok (.ireturn, 1) := by decide +kernel
theorem dX2_offerPrice_0 : decode cX2_offerPrice 0 = .ok (.aload_n 0, 1) := by decide +kernel
theorem dX2_offerPrice_1 : decode cX2_offerPrice 1 = .ok (.iload_n 1, 1) := by decide +kernel
theorem dX2_offerPrice_2 : decode cX2_offerPrice 2 = .ok (.invokevirtual 63, 3) := by decide +kernel
theorem dX2_offerPrice_5 : decode cX2_offerPrice 5 = .ok (.getfield 92, 3) := by decide +kernel
theorem dX2_offerPrice_8 : decode cX2_offerPrice 8 = .ok (.ireturn, 1) := by decide +kernel
theorem dX2_resets_0 : decode cX2_resets 0 = .ok (.aload_n 0, 1) := by decide +kernel
theorem dX2_resets_1 : decode cX2_resets 1 = .ok (.iload_n 1, 1) := by decide +kernel
theorem dX2_resets_2 : decode cX2_resets 2 = .ok (.invokevirtual 63, 3) := by decide +kernel
theorem dX2_resets_5 : decode cX2_resets 5 = .ok (.getfield 95, 3) := by decide +kernel
theorem dX2_resets_8 : decode cX2_resets 8 = .ok (.ireturn, 1) := by decide +kernel
theorem dX2_shares_0 : decode cX2_shares 0 = .ok (.aload_n 0, 1) := by decide +kernel
theorem dX2_shares_1 : decode cX2_shares 1 = .ok (.iload_n 1, 1) := by decide +kernel
theorem dX2_shares_2 : decode cX2_shares 2 = .ok (.invokevirtual 63, 3) := by decide +kernel
theorem dX2_shares_5 : decode cX2_shares 5 = .ok (.invokevirtual 98, 3) := by decide +kernel
theorem dX2_shares_8 : decode cX2_shares 8 = .ok (.ireturn, 1) := by decide +kernel
theorem dX2_bought_0 : decode cX2_bought 0 = .ok (.aload_n 0, 1) := by decide +kernel
theorem dX2_bought_1 : decode cX2_bought 1 = .ok (.iload_n 1, 1) := by decide +kernel
theorem dX2_bought_2 : decode cX2_bought 2 = .ok (.invokevirtual 63, 3) := by decide +kernel
theorem dX2_bought_5 : decode cX2_bought 5 = .ok (.astore_n 3, 1) := by decide +kernel
theorem dX2_bought_6 : decode cX2_bought 6 = .ok (.iload_n 2, 1) := by decide +kernel
theorem dX2_bought_7 : decode cX2_bought 7 = .ok (.invokestatic 102, 3) := by decide +kernel
theorem dX2_bought_10 : decode cX2_bought 10 = .ok (.aload_n 3, 1) := by decide +kernel
theorem dX2_bought_11 : decode cX2_bought 11 = .ok (.iload_n 2, 1) := by decide +kernel
theorem dX2_bought_12 : decode cX2_bought 12 = .ok (.invokevirtual 105, 3) := by decide +kernel
theorem dX2_bought_15 : decode cX2_bought 15 = .ok (.astore 4, 2) := by decide +kernel
theorem dX2_bought_17 : decode cX2_bought 17 = .ok (.aload 4, 2) := by decide +kernel
theorem dX2_bought_19 : decode cX2_bought 19 = .ok (.ifnonnull 7, 3) := by decide +kernel
theorem dX2_bought_22 : decode cX2_bought 22 = .ok (.iconst 0, 1) := by decide +kernel
theorem dX2_bought_23 : decode cX2_bought 23 = .ok (.goto 8, 3) := by decide +kernel
theorem dX2_bought_26 : decode cX2_bought 26 = .ok (.aload 4, 2) := by decide +kernel
theorem dX2_bought_28 : decode cX2_bought 28 = .ok (.getfield 109, 3) := by decide +kernel
theorem dX2_bought_31 : decode cX2_bought 31 = .ok (.ireturn, 1) := by decide +kernel
theorem dX2_paidEach_0 : decode cX2_paidEach 0 = .ok (.aload_n 0, 1) := by decide +kernel
theorem dX2_paidEach_1 : decode cX2_paidEach 1 = .ok (.iload_n 1, 1) := by decide +kernel
theorem dX2_paidEach_2 : decode cX2_paidEach 2 = .ok (.invokevirtual 63, 3) := by decide +kernel
theorem dX2_paidEach_5 : decode cX2_paidEach 5 = .ok (.astore_n 3, 1) := by decide +kernel
theorem dX2_paidEach_6 : decode cX2_paidEach 6 = .ok (.iload_n 2, 1) := by decide +kernel
theorem dX2_paidEach_7 : decode cX2_paidEach 7 = .ok (.invokestatic 102, 3) := by decide +kernel
theorem dX2_paidEach_10 : decode cX2_paidEach 10 = .ok (.aload_n 3, 1) := by decide +kernel
theorem dX2_paidEach_11 : decode cX2_paidEach 11 = .ok (.iload_n 2, 1) := by decide +kernel
theorem dX2_paidEach_12 : decode cX2_paidEach 12 = .ok (.invokevirtual 105, 3) := by decide +kernel
theorem dX2_paidEach_15 : decode cX2_paidEach 15 = .ok (.astore 4, 2) := by decide +kernel
theorem dX2_paidEach_17 : decode cX2_paidEach 17 = .ok (.aload 4, 2) := by decide +kernel
theorem dX2_paidEach_19 : decode cX2_paidEach 19 = .ok (.ifnonnull 7, 3) := by decide +kernel
theorem dX2_paidEach_22 : decode cX2_paidEach 22 = .ok (.iconst (-1), 1) := by decide +kernel
theorem dX2_paidEach_23 : decode cX2_paidEach 23 = .ok (.goto 8, 3) := by decide +kernel
theorem dX2_paidEach_26 : decode cX2_paidEach 26 = .ok (.aload 4, 2) := by decide +kernel
theorem dX2_paidEach_28 : decode cX2_paidEach 28 = .ok (.getfield 114, 3) := by decide +kernel
theorem dX2_paidEach_31 : decode cX2_paidEach 31 = .ok (.ireturn, 1) := by decide +kernel
theorem dX2_counted_0 : decode cX2_counted 0 = .ok (.aload_n 0, 1) := by decide +kernel
theorem dX2_counted_1 : decode cX2_counted 1 = .ok (.iload_n 1, 1) := by decide +kernel
theorem dX2_counted_2 : decode cX2_counted 2 = .ok (.invokevirtual 63, 3) := by decide +kernel
theorem dX2_counted_5 : decode cX2_counted 5 = .ok (.astore_n 3, 1) := by decide +kernel
theorem dX2_counted_6 : decode cX2_counted 6 = .ok (.iload_n 2, 1) := by decide +kernel
theorem dX2_counted_7 : decode cX2_counted 7 = .ok (.ifCond .lt 8, 3) := by decide +kernel
theorem dX2_counted_10 : decode cX2_counted 10 = .ok (.iload_n 2, 1) := by decide +kernel
theorem dX2_counted_11 : decode cX2_counted 11 = .ok (.iconst 5, 1) := by decide +kernel
theorem dX2_counted_12 : decode cX2_counted 12 = .ok (.if_icmp .lt 13, 3) := by decide +kernel
theorem dX2_counted_15 : decode cX2_counted 15 = .ok (.new 117, 3) := by decide +kernel
theorem dX2_counted_18 : decode cX2_counted 18 = .ok (.dup, 1) := by decide +kernel
theorem dX2_counted_19 : decode cX2_counted 19 = .ok (.ldc 119, 2) := by decide +kernel
theorem dX2_counted_21 : decode cX2_counted 21 = .ok (.invokespecial 121, 3) := by decide +kernel
theorem dX2_counted_24 : decode cX2_counted 24 = .ok (.athrow, 1) := by decide +kernel
theorem dX2_counted_25 : decode cX2_counted 25 = .ok (.aload_n 3, 1) := by decide +kernel
theorem dX2_counted_26 : decode cX2_counted 26 = .ok (.iload_n 2, 1) := by decide +kernel
theorem dX2_counted_27 : decode cX2_counted 27 = .ok (.invokevirtual 122, 3) := by decide +kernel
theorem dX2_counted_30 : decode cX2_counted 30 = .ok (.lreturn, 1) := by decide +kernel
theorem dX2_traced_0 : decode cX2_traced 0 = .ok (.aload_n 0, 1) := by decide +kernel
theorem dX2_traced_1 : decode cX2_traced 1 = .ok (.iload_n 1, 1) := by decide +kernel
theorem dX2_traced_2 : decode cX2_traced 2 = .ok (.invokevirtual 63, 3) := by decide +kernel
theorem dX2_traced_5 : decode cX2_traced 5 = .ok (.astore_n 2, 1) := by decide +kernel
theorem dX2_traced_6 : decode cX2_traced 6 = .ok (.aload_n 2, 1) := by decide +kernel
theorem dX2_traced_7 : decode cX2_traced 7 = .ok (.getfield 126, 3) := by decide +kernel
theorem dX2_traced_10 : decode cX2_traced 10 = .ok (.aload_n 2, 1) := by decide +kernel
theorem dX2_traced_11 : decode cX2_traced 11 = .ok (.getfield 85, 3) := by decide +kernel
theorem dX2_traced_14 : decode cX2_traced 14 = .ok (.ladd, 1) := by decide +kernel
theorem dX2_traced_15 : decode cX2_traced 15 = .ok (.aload_n 2, 1) := by decide +kernel
theorem dX2_traced_16 : decode cX2_traced 16 = .ok (.getfield 129, 3) := by decide +kernel
theorem dX2_traced_19 : decode cX2_traced 19 = .ok (.ladd, 1) := by decide +kernel
theorem dX2_traced_20 : decode cX2_traced 20 = .ok (.lreturn, 1) := by decide +kernel
theorem dX2_kept_0 : decode cX2_kept 0 = .ok (.aload_n 0, 1) := by decide +kernel
theorem dX2_kept_1 : decode cX2_kept 1 = .ok (.iload_n 1, 1) := by decide +kernel
theorem dX2_kept_2 : decode cX2_kept 2 = .ok (.invokevirtual 63, 3) := by decide +kernel
theorem dX2_kept_5 : decode cX2_kept 5 = .ok (.getfield 132, 3) := by decide +kernel
theorem dX2_kept_8 : decode cX2_kept 8 = .ok (.lreturn, 1) := by decide +kernel
theorem dX2_sell_0 : decode cX2_sell 0 = .ok (.aload_n 0, 1) := by decide +kernel
theorem dX2_sell_1 : decode cX2_sell 1 = .ok (.iload_n 1, 1) := by decide +kernel
theorem dX2_sell_2 : decode cX2_sell 2 = .ok (.invokevirtual 63, 3) := by decide +kernel
theorem dX2_sell_5 : decode cX2_sell 5 = .ok (.astore_n 3, 1) := by decide +kernel
theorem dX2_sell_6 : decode cX2_sell 6 = .ok (.iload_n 2, 1) := by decide +kernel
theorem dX2_sell_7 : decode cX2_sell 7 = .ok (.iconst 1, 1) := by decide +kernel
theorem dX2_sell_8 : decode cX2_sell 8 = .ok (.if_icmp .lt 9, 3) := by decide +kernel
theorem dX2_sell_11 : decode cX2_sell 11 = .ok (.iload_n 2, 1) := by decide +kernel
theorem dX2_sell_12 : decode cX2_sell 12 = .ok (.ldc 135, 2) := by decide +kernel
theorem dX2_sell_14 : decode cX2_sell 14 = .ok (.if_icmp .le 13, 3) := by decide +kernel
theorem dX2_sell_17 : decode cX2_sell 17 = .ok (.new 30, 3) := by decide +kernel
theorem dX2_sell_20 : decode cX2_sell 20 = .ok (.dup, 1) := by decide +kernel
theorem dX2_sell_21 : decode cX2_sell 21 = .ok (.ldc 136, 2) := by decide +kernel
theorem dX2_sell_23 : decode cX2_sell 23 = .ok (.invokespecial 34, 3) := by decide +kernel
theorem dX2_sell_26 : decode cX2_sell 26 = .ok (.athrow, 1) := by decide +kernel
theorem dX2_sell_27 : decode cX2_sell 27 = .ok (.aload_n 3, 1) := by decide +kernel
theorem dX2_sell_28 : decode cX2_sell 28 = .ok (.invokevirtual 98, 3) := by decide +kernel
theorem dX2_sell_31 : decode cX2_sell 31 = .ok (.iload_n 2, 1) := by decide +kernel
end
section
theorem dX2_sell_32 : decode cX2_sell 32 = .ok (.if_icmp .ge 13, 3) := by decide +kernel
theorem dX2_sell_35 : decode cX2_sell 35 = .ok (.new 37, 3) := by decide +kernel
theorem dX2_sell_38 : decode cX2_sell 38 = .ok (.dup, 1) := by decide +kernel
theorem dX2_sell_39 : decode cX2_sell 39 = .ok (.ldc 138, 2) := by decide +kernel
theorem dX2_sell_41 : decode cX2_sell 41 = .ok (.invokespecial 41, 3) := by decide +kernel
theorem dX2_sell_44 : decode cX2_sell 44 = .ok (.athrow, 1) := by decide +kernel
theorem dX2_sell_45 : decode cX2_sell 45 = .ok (.aload_n 3, 1) := by decide +kernel
theorem dX2_sell_46 : decode cX2_sell 46 = .ok (.iload_n 2, 1) := by decide +kernel
theorem dX2_sell_47 : decode cX2_sell 47 = .ok (.aload_n 0, 1) := by decide +kernel
theorem dX2_sell_48 : decode cX2_sell 48 = .ok (.getfield 19, 3) := by decide +kernel
theorem dX2_sell_51 : decode cX2_sell 51 = .ok (.aload_n 0, 1) := by decide +kernel
theorem dX2_sell_52 : decode cX2_sell 52 = .ok (.getfield 22, 3) := by decide +kernel
theorem dX2_sell_55 : decode cX2_sell 55 = .ok (.invokevirtual 140, 3) := by decide +kernel
theorem dX2_sell_58 : decode cX2_sell 58 = .ok (.ireturn, 1) := by decide +kernel
theorem dX2_pay_0 : decode cX2_pay 0 = .ok (.aload_n 0, 1) := by decide +kernel
theorem dX2_pay_1 : decode cX2_pay 1 = .ok (.iload_n 1, 1) := by decide +kernel
theorem dX2_pay_2 : decode cX2_pay 2 = .ok (.invokevirtual 63, 3) := by decide +kernel
theorem dX2_pay_5 : decode cX2_pay 5 = .ok (.getfield 144, 3) := by decide +kernel
theorem dX2_pay_8 : decode cX2_pay 8 = .ok (.lreturn, 1) := by decide +kernel
theorem dX2_gain_0 : decode cX2_gain 0 = .ok (.aload_n 0, 1) := by decide +kernel
theorem dX2_gain_1 : decode cX2_gain 1 = .ok (.iload_n 1, 1) := by decide +kernel
theorem dX2_gain_2 : decode cX2_gain 2 = .ok (.invokevirtual 63, 3) := by decide +kernel
theorem dX2_gain_5 : decode cX2_gain 5 = .ok (.getfield 147, 3) := by decide +kernel
theorem dX2_gain_8 : decode cX2_gain 8 = .ok (.lreturn, 1) := by decide +kernel
theorem dX2_gainNow_0 : decode cX2_gainNow 0 = .ok (.aload_n 0, 1) := by decide +kernel
theorem dX2_gainNow_1 : decode cX2_gainNow 1 = .ok (.iload_n 1, 1) := by decide +kernel
theorem dX2_gainNow_2 : decode cX2_gainNow 2 = .ok (.invokevirtual 63, 3) := by decide +kernel
theorem dX2_gainNow_5 : decode cX2_gainNow 5 = .ok (.aload_n 0, 1) := by decide +kernel
theorem dX2_gainNow_6 : decode cX2_gainNow 6 = .ok (.getfield 19, 3) := by decide +kernel
theorem dX2_gainNow_9 : decode cX2_gainNow 9 = .ok (.aload_n 0, 1) := by decide +kernel
theorem dX2_gainNow_10 : decode cX2_gainNow 10 = .ok (.getfield 22, 3) := by decide +kernel
theorem dX2_gainNow_13 : decode cX2_gainNow 13 = .ok (.invokevirtual 150, 3) := by decide +kernel
theorem dX2_gainNow_16 : decode cX2_gainNow 16 = .ok (.lreturn, 1) := by decide +kernel
theorem dX2_memberOrThrow_0 : decode cX2_memberOrThrow 0 = .ok (.iload_n 1, 1) := by decide +kernel
theorem dX2_memberOrThrow_1 : decode cX2_memberOrThrow 1 = .ok (.ifCond .lt 12, 3) := by decide +kernel
theorem dX2_memberOrThrow_4 : decode cX2_memberOrThrow 4 = .ok (.iload_n 1, 1) := by decide +kernel
theorem dX2_memberOrThrow_5 : decode cX2_memberOrThrow 5 = .ok (.aload_n 0, 1) := by decide +kernel
theorem dX2_memberOrThrow_6 : decode cX2_memberOrThrow 6 = .ok (.getfield 11, 3) := by decide +kernel
theorem dX2_memberOrThrow_9 : decode cX2_memberOrThrow 9 = .ok (.arraylength, 1) := by decide +kernel
theorem dX2_memberOrThrow_10 : decode cX2_memberOrThrow 10 = .ok (.if_icmp .lt 13, 3) := by decide +kernel
theorem dX2_memberOrThrow_13 : decode cX2_memberOrThrow 13 = .ok (.new 117, 3) := by decide +kernel
theorem dX2_memberOrThrow_16 : decode cX2_memberOrThrow 16 = .ok (.dup, 1) := by decide +kernel
theorem dX2_memberOrThrow_17 : decode cX2_memberOrThrow 17 = .ok (.ldc 154, 2) := by decide +kernel
theorem dX2_memberOrThrow_19 : decode cX2_memberOrThrow 19 = .ok (.invokespecial 121, 3) := by decide +kernel
theorem dX2_memberOrThrow_22 : decode cX2_memberOrThrow 22 = .ok (.athrow, 1) := by decide +kernel
theorem dX2_memberOrThrow_23 : decode cX2_memberOrThrow 23 = .ok (.aload_n 0, 1) := by decide +kernel
theorem dX2_memberOrThrow_24 : decode cX2_memberOrThrow 24 = .ok (.getfield 11, 3) := by decide +kernel
theorem dX2_memberOrThrow_27 : decode cX2_memberOrThrow 27 = .ok (.iload_n 1, 1) := by decide +kernel
theorem dX2_memberOrThrow_28 : decode cX2_memberOrThrow 28 = .ok (.aaload, 1) := by decide +kernel
theorem dX2_memberOrThrow_29 : decode cX2_memberOrThrow 29 = .ok (.astore_n 2, 1) := by decide +kernel
theorem dX2_memberOrThrow_30 : decode cX2_memberOrThrow 30 = .ok (.aload_n 2, 1) := by decide +kernel
theorem dX2_memberOrThrow_31 : decode cX2_memberOrThrow 31 = .ok (.ifnonnull 13, 3) := by decide +kernel
theorem dX2_memberOrThrow_34 : decode cX2_memberOrThrow 34 = .ok (.new 117, 3) := by decide +kernel
theorem dX2_memberOrThrow_37 : decode cX2_memberOrThrow 37 = .ok (.dup, 1) := by decide +kernel
theorem dX2_memberOrThrow_38 : decode cX2_memberOrThrow 38 = .ok (.ldc 154, 2) := by decide +kernel
theorem dX2_memberOrThrow_40 : decode cX2_memberOrThrow 40 = .ok (.invokespecial 121, 3) := by decide +kernel
theorem dX2_memberOrThrow_43 : decode cX2_memberOrThrow 43 = .ok (.athrow, 1) := by decide +kernel
theorem dX2_memberOrThrow_44 : decode cX2_memberOrThrow 44 = .ok (.aload_n 2, 1) := by decide +kernel
theorem dX2_memberOrThrow_45 : decode cX2_memberOrThrow 45 = .ok (.areturn, 1) := by decide +kernel
theorem dX2_refuseBadRate_0 : decode cX2_refuseBadRate 0 = .ok (.iload_n 0, 1) := by decide +kernel
theorem dX2_refuseBadRate_1 : decode cX2_refuseBadRate 1 = .ok (.iconst 1, 1) := by decide +kernel
theorem dX2_refuseBadRate_2 : decode cX2_refuseBadRate 2 = .ok (.if_icmp .lt 9, 3) := by decide +kernel
theorem dX2_refuseBadRate_5 : decode cX2_refuseBadRate 5 = .ok (.iload_n 0, 1) := by decide +kernel
theorem dX2_refuseBadRate_6 : decode cX2_refuseBadRate 6 = .ok (.bipush 15, 2) := by decide +kernel
theorem dX2_refuseBadRate_8 : decode cX2_refuseBadRate 8 = .ok (.if_icmp .le 13, 3) := by decide +kernel
theorem dX2_refuseBadRate_11 : decode cX2_refuseBadRate 11 = .ok (.new 30, 3) := by decide +kernel
theorem dX2_refuseBadRate_14 : decode cX2_refuseBadRate 14 = .ok (.dup, 1) := by decide +kernel
theorem dX2_refuseBadRate_15 : decode cX2_refuseBadRate 15 = .ok (.ldc 156, 2) := by decide +kernel
theorem dX2_refuseBadRate_17 : decode cX2_refuseBadRate 17 = .ok (.invokespecial 34, 3) := by decide +kernel
theorem dX2_refuseBadRate_20 : decode cX2_refuseBadRate 20 = .ok (.athrow, 1) := by decide +kernel
theorem dX2_refuseBadRate_21 : decode cX2_refuseBadRate 21 = .ok (.return_, 1) := by decide +kernel
theorem dX2_refuseBadMonth_0 : decode cX2_refuseBadMonth 0 = .ok (.iload_n 0, 1) := by decide +kernel
theorem dX2_refuseBadMonth_1 : decode cX2_refuseBadMonth 1 = .ok (.ifCond .lt 9, 3) := by decide +kernel
theorem dX2_refuseBadMonth_4 : decode cX2_refuseBadMonth 4 = .ok (.iload_n 0, 1) := by decide +kernel
theorem dX2_refuseBadMonth_5 : decode cX2_refuseBadMonth 5 = .ok (.bipush 60, 2) := by decide +kernel
theorem dX2_refuseBadMonth_7 : decode cX2_refuseBadMonth 7 = .ok (.if_icmp .lt 13, 3) := by decide +kernel
theorem dX2_refuseBadMonth_10 : decode cX2_refuseBadMonth 10 = .ok (.new 117, 3) := by decide +kernel
theorem dX2_refuseBadMonth_13 : decode cX2_refuseBadMonth 13 = .ok (.dup, 1) := by decide +kernel
theorem dX2_refuseBadMonth_14 : decode cX2_refuseBadMonth 14 = .ok (.ldc 158, 2) := by decide +kernel
theorem dX2_refuseBadMonth_16 : decode cX2_refuseBadMonth 16 = .ok (.invokespecial 121, 3) := by decide +kernel
theorem dX2_refuseBadMonth_19 : decode cX2_refuseBadMonth 19 = .ok (.athrow, 1) := by decide +kernel
theorem dX2_refuseBadMonth_20 : decode cX2_refuseBadMonth 20 = .ok (.return_, 1) := by decide +kernel
theorem dX2_refuseLeft_0 : decode cX2_refuseLeft 0 = .ok (.aload_n 0, 1) := by decide +kernel
theorem dX2_refuseLeft_1 : decode cX2_refuseLeft 1 = .ok (.getfield 160, 3) := by decide +kernel
theorem dX2_refuseLeft_4 : decode cX2_refuseLeft 4 = .ok (.ifCond .eq 13, 3) := by decide +kernel
theorem dX2_refuseLeft_7 : decode cX2_refuseLeft 7 = .ok (.new 37, 3) := by decide +kernel
theorem dX2_refuseLeft_10 : decode cX2_refuseLeft 10 = .ok (.dup, 1) := by decide +kernel
theorem dX2_refuseLeft_11 : decode cX2_refuseLeft 11 = .ok (.ldc 164, 2) := by decide +kernel
theorem dX2_refuseLeft_13 : decode cX2_refuseLeft 13 = .ok (.invokespecial 41, 3) := by decide +kernel
theorem dX2_refuseLeft_16 : decode cX2_refuseLeft 16 = .ok (.athrow, 1) := by decide +kernel
theorem dX2_refuseLeft_17 : decode cX2_refuseLeft 17 = .ok (.return_, 1) := by decide +kernel
theorem dX2_isPurchaseMonth_0 : decode cX2_isPurchaseMonth 0 = .ok (.iload_n 0, 1) := by decide +kernel
theorem dX2_isPurchaseMonth_1 : decode cX2_isPurchaseMonth 1 = .ok (.bipush 6, 2) := by decide +kernel
theorem dX2_isPurchaseMonth_3 : decode cX2_isPurchaseMonth 3 = .ok (.irem, 1) := by decide +kernel
theorem dX2_isPurchaseMonth_4 : decode cX2_isPurchaseMonth 4 = .ok (.iconst 5, 1) := by decide +kernel
theorem dX2_isPurchaseMonth_5 : decode cX2_isPurchaseMonth 5 = .ok (.if_icmp .ne 7, 3) := by decide +kernel
theorem dX2_isPurchaseMonth_8 : decode cX2_isPurchaseMonth 8 = .ok (.iconst 1, 1) := by decide +kernel
theorem dX2_isPurchaseMonth_9 : decode cX2_isPurchaseMonth 9 = .ok (.goto 4, 3) := by decide +kernel
theorem dX2_isPurchaseMonth_12 : decode cX2_isPurchaseMonth 12 = .ok (.iconst 0, 1) := by decide +kernel
theorem dX2_isPurchaseMonth_13 : decode cX2_isPurchaseMonth 13 = .ok (.ireturn, 1) := by decide +kernel
theorem dX2_buyForAll_0 : decode cX2_buyForAll 0 = .ok (.iconst 0, 1) := by decide +kernel
theorem dX2_buyForAll_1 : decode cX2_buyForAll 1 = .ok (.istore_n 1, 1) := by decide +kernel
theorem dX2_buyForAll_2 : decode cX2_buyForAll 2 = .ok (.iload_n 1, 1) := by decide +kernel
theorem dX2_buyForAll_3 : decode cX2_buyForAll 3 = .ok (.aload_n 0, 1) := by decide +kernel
theorem dX2_buyForAll_4 : decode cX2_buyForAll 4 = .ok (.getfield 11, 3) := by decide +kernel
theorem dX2_buyForAll_7 : decode cX2_buyForAll 7 = .ok (.arraylength, 1) := by decide +kernel
theorem dX2_buyForAll_8 : decode cX2_buyForAll 8 = .ok (.if_icmp .ge 43, 3) := by decide +kernel
theorem dX2_buyForAll_11 : decode cX2_buyForAll 11 = .ok (.aload_n 0, 1) := by decide +kernel
theorem dX2_buyForAll_12 : decode cX2_buyForAll 12 = .ok (.getfield 11, 3) := by decide +kernel
theorem dX2_buyForAll_15 : decode cX2_buyForAll 15 = .ok (.iload_n 1, 1) := by decide +kernel
theorem dX2_buyForAll_16 : decode cX2_buyForAll 16 = .ok (.aaload, 1) := by decide +kernel
theorem dX2_buyForAll_17 : decode cX2_buyForAll 17 = .ok (.astore_n 2, 1) := by decide +kernel
theorem dX2_buyForAll_18 : decode cX2_buyForAll 18 = .ok (.aload_n 2, 1) := by decide +kernel
theorem dX2_buyForAll_19 : decode cX2_buyForAll 19 = .ok (.ifnull 26, 3) := by decide +kernel
theorem dX2_buyForAll_22 : decode cX2_buyForAll 22 = .ok (.aload_n 2, 1) := by decide +kernel
theorem dX2_buyForAll_23 : decode cX2_buyForAll 23 = .ok (.getfield 160, 3) := by decide +kernel
theorem dX2_buyForAll_26 : decode cX2_buyForAll 26 = .ok (.ifCond .ne 19, 3) := by decide +kernel
theorem dX2_buyForAll_29 : decode cX2_buyForAll 29 = .ok (.aload_n 2, 1) := by decide +kernel
theorem dX2_buyForAll_30 : decode cX2_buyForAll 30 = .ok (.aload_n 0, 1) := by decide +kernel
theorem dX2_buyForAll_31 : decode cX2_buyForAll 31 = .ok (.getfield 19, 3) := by decide +kernel
theorem dX2_buyForAll_34 : decode cX2_buyForAll 34 = .ok (.aload_n 0, 1) := by decide +kernel
theorem dX2_buyForAll_35 : decode cX2_buyForAll 35 = .ok (.getfield 22, 3) := by decide +kernel
theorem dX2_buyForAll_38 : decode cX2_buyForAll 38 = .ok (.aload_n 0, 1) := by decide +kernel
theorem dX2_buyForAll_39 : decode cX2_buyForAll 39 = .ok (.getfield 26, 3) := by decide +kernel
theorem dX2_buyForAll_42 : decode cX2_buyForAll 42 = .ok (.invokevirtual 166, 3) := by decide +kernel
theorem dX2_buyForAll_45 : decode cX2_buyForAll 45 = .ok (.iinc 1 1, 3) := by decide +kernel
theorem dX2_buyForAll_48 : decode cX2_buyForAll 48 = .ok (.goto (-46), 3) := by decide +kernel
theorem dX2_buyForAll_51 : decode cX2_buyForAll 51 = .ok (.return_, 1) := by decide +kernel
theorem dX3_init_0 : decode cX3_init 0 = .ok (.aload_n 0, 1) := by decide +kernel
theorem dX3_init_1 : decode cX3_init 1 = .ok (.invokespecial 1, 3) := by decide +kernel
theorem dX3_init_4 : decode cX3_init 4 = .ok (.aload_n 0, 1) := by decide +kernel
theorem dX3_init_5 : decode cX3_init 5 = .ok (.iconst (-1), 1) := by decide +kernel
theorem dX3_init_6 : decode cX3_init 6 = .ok (.putfield 9, 3) := by decide +kernel
theorem dX3_init_9 : decode cX3_init 9 = .ok (.aload_n 0, 1) := by decide +kernel
theorem dX3_init_10 : decode cX3_init 10 = .ok (.bipush 60, 2) := by decide +kernel
theorem dX3_init_12 : decode cX3_init 12 = .ok (.newarray .int, 2) := by decide +kernel
theorem dX3_init_14 : decode cX3_init 14 = .ok (.putfield 13, 3) := by decide +kernel
theorem dX3_init_17 : decode cX3_init 17 = .ok (.aload_n 0, 1) := by decide +kernel
theorem dX3_init_18 : decode cX3_init 18 = .ok (.ldc 17, 2) := by decide +kernel
theorem dX3_init_20 : decode cX3_init 20 = .ok (.putfield 18, 3) := by decide +kernel
theorem dX3_init_23 : decode cX3_init 23 = .ok (.aload_n 0, 1) := by decide +kernel
theorem dX3_init_24 : decode cX3_init 24 = .ok (.bipush 6, 2) := by decide +kernel
theorem dX3_init_26 : decode cX3_init 26 = .ok (.newarray .int, 2) := by decide +kernel
theorem dX3_init_28 : decode cX3_init 28 = .ok (.putfield 21, 3) := by decide +kernel
theorem dX3_init_31 : decode cX3_init 31 = .ok (.aload_n 0, 1) := by decide +kernel
theorem dX3_init_32 : decode cX3_init 32 = .ok (.bipush 6, 2) := by decide +kernel
theorem dX3_init_34 : decode cX3_init 34 = .ok (.newarray .boolean, 2) := by decide +kernel
theorem dX3_init_36 : decode cX3_init 36 = .ok (.putfield 24, 3) := by decide +kernel
theorem dX3_init_39 : decode cX3_init 39 = .ok (.aload_n 0, 1) := by decide +kernel
theorem dX3_init_40 : decode cX3_init 40 = .ok (.bipush 6, 2) := by decide +kernel
theorem dX3_init_42 : decode cX3_init 42 = .ok (.newarray .int, 2) := by decide +kernel
theorem dX3_init_44 : decode cX3_init 44 = .ok (.putfield 28, 3) := by decide +kernel
theorem dX3_init_47 : decode cX3_init 47 = .ok (.aload_n 0, 1) := by decide +kernel
theorem dX3_init_48 : decode cX3_init 48 = .ok (.bipush 6, 2) := by decide +kernel
theorem dX3_init_50 : decode cX3_init 50 = .ok (.newarray .int, 2) := by decide +kernel
theorem dX3_init_52 : decode cX3_init 52 = .ok (.putfield 31, 3) := by decide +kernel
theorem dX3_init_55 : decode cX3_init 55 = .ok (.aload_n 0, 1) := by decide +kernel
theorem dX3_init_56 : decode cX3_init 56 = .ok (.bipush 6, 2) := by decide +kernel
theorem dX3_init_58 : decode cX3_init 58 = .ok (.newarray .long, 2) := by decide +kernel
theorem dX3_init_60 : decode cX3_init 60 = .ok (.putfield 34, 3) := by decide +kernel
theorem dX3_init_63 : decode cX3_init 63 = .ok (.aload_n 0, 1) := by decide +kernel
theorem dX3_init_64 : decode cX3_init 64 = .ok (.bipush 6, 2) := by decide +kernel
theorem dX3_init_66 : decode cX3_init 66 = .ok (.newarray .long, 2) := by decide +kernel
theorem dX3_init_68 : decode cX3_init 68 = .ok (.putfield 38, 3) := by decide +kernel
theorem dX3_init_71 : decode cX3_init 71 = .ok (.aload_n 0, 1) := by decide +kernel
theorem dX3_init_72 : decode cX3_init 72 = .ok (.bipush 6, 2) := by decide +kernel
theorem dX3_init_74 : decode cX3_init 74 = .ok (.newarray .int, 2) := by decide +kernel
theorem dX3_init_76 : decode cX3_init 76 = .ok (.putfield 41, 3) := by decide +kernel
theorem dX3_init_79 : decode cX3_init 79 = .ok (.aload_n 0, 1) := by decide +kernel
theorem dX3_init_80 : decode cX3_init 80 = .ok (.bipush 6, 2) := by decide +kernel
theorem dX3_init_82 : decode cX3_init 82 = .ok (.newarray .int, 2) := by decide +kernel
theorem dX3_init_84 : decode cX3_init 84 = .ok (.putfield 44, 3) := by decide +kernel
theorem dX3_init_87 : decode cX3_init 87 = .ok (.aload_n 0, 1) := by decide +kernel
theorem dX3_init_88 : decode cX3_init 88 = .ok (.bipush 6, 2) := by decide +kernel
theorem dX3_init_90 : decode cX3_init 90 = .ok (.newarray .int, 2) := by decide +kernel
theorem dX3_init_92 : decode cX3_init 92 = .ok (.putfield 47, 3) := by decide +kernel
theorem dX3_init_95 : decode cX3_init 95 = .ok (.aload_n 0, 1) := by decide +kernel
theorem dX3_init_96 : decode cX3_init 96 = .ok (.bipush 6, 2) := by decide +kernel
theorem dX3_init_98 : decode cX3_init 98 = .ok (.newarray .long, 2) := by decide +kernel
theorem dX3_init_100 : decode cX3_init 100 = .ok (.putfield 50, 3) := by decide +kernel
theorem dX3_init_103 : decode cX3_init 103 = .ok (.aload_n 0, 1) := by decide +kernel
theorem dX3_init_104 : decode cX3_init 104 = .ok (.bipush 6, 2) := by decide +kernel
theorem dX3_init_106 : decode cX3_init 106 = .ok (.newarray .long, 2) := by decide +kernel
theorem dX3_init_108 : decode cX3_init 108 = .ok (.putfield 53, 3) := by decide +kernel
theorem dX3_init_111 : decode cX3_init 111 = .ok (.aload_n 0, 1) := by decide +kernel
theorem dX3_init_112 : decode cX3_init 112 = .ok (.bipush 60, 2) := by decide +kernel
theorem dX3_init_114 : decode cX3_init 114 = .ok (.newarray .int, 2) := by decide +kernel
theorem dX3_init_116 : decode cX3_init 116 = .ok (.putfield 56, 3) := by decide +kernel
theorem dX3_init_119 : decode cX3_init 119 = .ok (.aload_n 0, 1) := by decide +kernel
theorem dX3_init_120 : decode cX3_init 120 = .ok (.bipush 60, 2) := by decide +kernel
theorem dX3_init_122 : decode cX3_init 122 = .ok (.newarray .int, 2) := by decide +kernel
theorem dX3_init_124 : decode cX3_init 124 = .ok (.putfield 59, 3) := by decide +kernel
theorem dX3_init_127 : decode cX3_init 127 = .ok (.aload_n 0, 1) := by decide +kernel
theorem dX3_init_128 : decode cX3_init 128 = .ok (.bipush 60, 2) := by decide +kernel
theorem dX3_init_130 : decode cX3_init 130 = .ok (.newarray .int, 2) := by decide +kernel
theorem dX3_init_132 : decode cX3_init 132 = .ok (.putfield 62, 3) := by decide +kernel
theorem dX3_init_135 : decode cX3_init 135 = .ok (.aload_n 0, 1) := by decide +kernel
theorem dX3_init_136 : decode cX3_init 136 = .ok (.bipush 60, 2) := by decide +kernel
theorem dX3_init_138 : decode cX3_init 138 = .ok (.newarray .int, 2) := by decide +kernel
theorem dX3_init_140 : decode cX3_init 140 = .ok (.putfield 65, 3) := by decide +kernel
theorem dX3_init_143 : decode cX3_init 143 = .ok (.return_, 1) := by decide +kernel
theorem dX3_thrown_0 : decode cX3_thrown 0 = .ok (.aload_n 0, 1) := by decide +kernel
theorem dX3_thrown_1 : decode cX3_thrown 1 = .ok (.getfield 68, 3) := by decide +kernel
theorem dX3_thrown_4 : decode cX3_thrown 4 = .ok (.ireturn, 1) := by decide +kernel
theorem dX3_may_0 : decode cX3_may 0 = .ok (.aload_n 0, 1) := by decide +kernel
theorem dX3_may_1 : decode cX3_may 1 = .ok (.iload_n 1, 1) := by decide +kernel
theorem dX3_may_2 : decode cX3_may 2 = .ok (.ifCond .eq 7, 3) := by decide +kernel
theorem dX3_may_5 : decode cX3_may 5 = .ok (.iconst 0, 1) := by decide +kernel
theorem dX3_may_6 : decode cX3_may 6 = .ok (.goto 4, 3) := by decide +kernel
theorem dX3_may_9 : decode cX3_may 9 = .ok (.iconst 1, 1) := by decide +kernel
theorem dX3_may_10 : decode cX3_may 10 = .ok (.putfield 68, 3) := by decide +kernel
theorem dX3_may_13 : decode cX3_may 13 = .ok (.iload_n 1, 1) := by decide +kernel
theorem dX3_may_14 : decode cX3_may 14 = .ok (.ireturn, 1) := by decide +kernel
theorem dX3_mayBoth_0 : decode cX3_mayBoth 0 = .ok (.aload_n 0, 1) := by decide +kernel
theorem dX3_mayBoth_1 : decode cX3_mayBoth 1 = .ok (.iload_n 1, 1) := by decide +kernel
theorem dX3_mayBoth_2 : decode cX3_mayBoth 2 = .ok (.ifCond .ne 7, 3) := by decide +kernel
theorem dX3_mayBoth_5 : decode cX3_mayBoth 5 = .ok (.iconst 1, 1) := by decide +kernel
theorem dX3_mayBoth_6 : decode cX3_mayBoth 6 = .ok (.goto 12, 3) := by decide +kernel
theorem dX3_mayBoth_9 : decode cX3_mayBoth 9 = .ok (.iload_n 2, 1) := by decide +kernel
theorem dX3_mayBoth_10 : decode cX3_mayBoth 10 = .ok (.ifCond .ne 7, 3) := by decide +kernel
theorem dX3_mayBoth_13 : decode cX3_mayBoth 13 = .ok (.iconst 2, 1) := by decide +kernel
theorem dX3_mayBoth_14 : decode cX3_mayBoth 14 = .ok (.goto 4, 3) := by decide +kernel
theorem dX3_mayBoth_17 : decode cX3_mayBoth 17 = .ok (.iconst 0, 1) := by decide +kernel
theorem dX3_mayBoth_18 : decode cX3_mayBoth 18 = .ok (.putfield 68, 3) := by decide +kernel
theorem dX3_mayBoth_21 : decode cX3_mayBoth 21 = .ok (.aload_n 0, 1) := by decide +kernel
theorem dX3_mayBoth_22 : decode cX3_mayBoth 22 = .ok (.getfield 68, 3) := by decide +kernel
theorem dX3_mayBoth_25 : decode cX3_mayBoth 25 = .ok (.ifCond .ne 7, 3) := by decide +kernel
theorem dX3_mayBoth_28 : decode cX3_mayBoth 28 = .ok (.iconst 1, 1) := by decide +kernel
theorem dX3_mayBoth_29 : decode cX3_mayBoth 29 = .ok (.goto 4, 3) := by decide +kernel
theorem dX3_mayBoth_32 : decode cX3_mayBoth 32 = .ok (.iconst 0, 1) := by decide +kernel
theorem dX3_mayBoth_33 : decode cX3_mayBoth 33 = .ok (.ireturn, 1) := by decide +kernel
theorem dX3_mayAll_0 : decode cX3_mayAll 0 = .ok (.aload_n 0, 1) := by decide +kernel
theorem dX3_mayAll_1 : decode cX3_mayAll 1 = .ok (.iload_n 1, 1) := by decide +kernel
theorem dX3_mayAll_2 : decode cX3_mayAll 2 = .ok (.ifCond .ne 7, 3) := by decide +kernel
theorem dX3_mayAll_5 : decode cX3_mayAll 5 = .ok (.iconst 1, 1) := by decide +kernel
theorem dX3_mayAll_6 : decode cX3_mayAll 6 = .ok (.goto 20, 3) := by decide +kernel
theorem dX3_mayAll_9 : decode cX3_mayAll 9 = .ok (.iload_n 2, 1) := by decide +kernel
theorem dX3_mayAll_10 : decode cX3_mayAll 10 = .ok (.ifCond .ne 7, 3) := by decide +kernel
theorem dX3_mayAll_13 : decode cX3_mayAll 13 = .ok (.iconst 2, 1) := by decide +kernel
theorem dX3_mayAll_14 : decode cX3_mayAll 14 = .ok (.goto 12, 3) := by decide +kernel
theorem dX3_mayAll_17 : decode cX3_mayAll 17 = .ok (.iload_n 3, 1) := by decide +kernel
theorem dX3_mayAll_18 : decode cX3_mayAll 18 = .ok (.ifCond .ne 7, 3) := by decide +kernel
theorem dX3_mayAll_21 : decode cX3_mayAll 21 = .ok (.iconst 3, 1) := by decide +kernel
theorem dX3_mayAll_22 : decode cX3_mayAll 22 = .ok (.goto 4, 3) := by decide +kernel
theorem dX3_mayAll_25 : decode cX3_mayAll 25 = .ok (.iconst 0, 1) := by decide +kernel
theorem dX3_mayAll_26 : decode cX3_mayAll 26 = .ok (.putfield 68, 3) := by decide +kernel
theorem dX3_mayAll_29 : decode cX3_mayAll 29 = .ok (.aload_n 0, 1) := by decide +kernel
theorem dX3_mayAll_30 : decode cX3_mayAll 30 = .ok (.getfield 68, 3) := by decide +kernel
theorem dX3_mayAll_33 : decode cX3_mayAll 33 = .ok (.ifCond .ne 7, 3) := by decide +kernel
theorem dX3_mayAll_36 : decode cX3_mayAll 36 = .ok (.iconst 1, 1) := by decide +kernel
theorem dX3_mayAll_37 : decode cX3_mayAll 37 = .ok (.goto 4, 3) := by decide +kernel
theorem dX3_mayAll_40 : decode cX3_mayAll 40 = .ok (.iconst 0, 1) := by decide +kernel
theorem dX3_mayAll_41 : decode cX3_mayAll 41 = .ok (.ireturn, 1) := by decide +kernel
theorem dX3_isIn_0 : decode cX3_isIn 0 = .ok (.iload_n 0, 1) := by decide +kernel
theorem dX3_isIn_1 : decode cX3_isIn 1 = .ok (.iload_n 1, 1) := by decide +kernel
theorem dX3_isIn_2 : decode cX3_isIn 2 = .ok (.if_icmp .lt 12, 3) := by decide +kernel
theorem dX3_isIn_5 : decode cX3_isIn 5 = .ok (.iload_n 0, 1) := by decide +kernel
theorem dX3_isIn_6 : decode cX3_isIn 6 = .ok (.iload_n 2, 1) := by decide +kernel
theorem dX3_isIn_7 : decode cX3_isIn 7 = .ok (.if_icmp .gt 7, 3) := by decide +kernel
theorem dX3_isIn_10 : decode cX3_isIn 10 = .ok (.iconst 1, 1) := by decide +kernel
theorem dX3_isIn_11 : decode cX3_isIn 11 = .ok (.goto 4, 3) := by decide +kernel
theorem dX3_isIn_14 : decode cX3_isIn 14 = .ok (.iconst 0, 1) := by decide +kernel
theorem dX3_isIn_15 : decode cX3_isIn 15 = .ok (.ireturn, 1) := by decide +kernel
theorem dX3_isMember_0 : decode cX3_isMember 0 = .ok (.iload_n 1, 1) := by decide +kernel
theorem dX3_isMember_1 : decode cX3_isMember 1 = .ok (.iconst 0, 1) := by decide +kernel
theorem dX3_isMember_2 : decode cX3_isMember 2 = .ok (.aload_n 0, 1) := by decide +kernel
theorem dX3_isMember_3 : decode cX3_isMember 3 = .ok (.getfield 71, 3) := by decide +kernel
theorem dX3_isMember_6 : decode cX3_isMember 6 = .ok (.iconst 1, 1) := by decide +kernel
theorem dX3_isMember_7 : decode cX3_isMember 7 = .ok (.isub, 1) := by decide +kernel
theorem dX3_isMember_8 : decode cX3_isMember 8 = .ok (.invokestatic 74, 3) := by decide +kernel
theorem dX3_isMember_11 : decode cX3_isMember 11 = .ok (.ireturn, 1) := by decide +kernel
theorem dX3_countedIn_0 : decode cX3_countedIn 0 = .ok (.lconst 0, 1) := by decide +kernel
theorem dX3_countedIn_1 : decode cX3_countedIn 1 = .ok (.lstore_n 3, 1) := by decide +kernel
theorem dX3_countedIn_2 : decode cX3_countedIn 2 = .ok (.iconst 2, 1) := by decide +kernel
theorem dX3_countedIn_3 : decode cX3_countedIn 3 = .ok (.iload_n 2, 1) := by decide +kernel
theorem dX3_countedIn_4 : decode cX3_countedIn 4 = .ok (.imul, 1) := by decide +kernel
theorem dX3_countedIn_5 : decode cX3_countedIn 5 = .ok (.istore 5, 2) := by decide +kernel
theorem dX3_countedIn_7 : decode cX3_countedIn 7 = .ok (.iload 5, 2) := by decide +kernel
theorem dX3_countedIn_9 : decode cX3_countedIn 9 = .ok (.iconst 2, 1) := by decide +kernel
theorem dX3_countedIn_10 : decode cX3_countedIn 10 = .ok (.iload_n 2, 1) := by decide +kernel
theorem dX3_countedIn_11 : decode cX3_countedIn 11 = .ok (.imul, 1) := by decide +kernel
theorem dX3_countedIn_12 : decode cX3_countedIn 12 = .ok (.iconst 2, 1) := by decide +kernel
theorem dX3_countedIn_13 : decode cX3_countedIn 13 = .ok (.iadd, 1) := by decide +kernel
theorem dX3_countedIn_14 : decode cX3_countedIn 14 = .ok (.if_icmp .ge 44, 3) := by decide +kernel
theorem dX3_countedIn_17 : decode cX3_countedIn 17 = .ok (.lload_n 3, 1) := by decide +kernel
theorem dX3_countedIn_18 : decode cX3_countedIn 18 = .ok (.aload_n 0, 1) := by decide +kernel
theorem dX3_countedIn_19 : decode cX3_countedIn 19 = .ok (.getfield 56, 3) := by decide +kernel
theorem dX3_countedIn_22 : decode cX3_countedIn 22 = .ok (.bipush 10, 2) := by decide +kernel
theorem dX3_countedIn_24 : decode cX3_countedIn 24 = .ok (.iload_n 1, 1) := by decide +kernel
theorem dX3_countedIn_25 : decode cX3_countedIn 25 = .ok (.imul, 1) := by decide +kernel
theorem dX3_countedIn_26 : decode cX3_countedIn 26 = .ok (.iload 5, 2) := by decide +kernel
theorem dX3_countedIn_28 : decode cX3_countedIn 28 = .ok (.iadd, 1) := by decide +kernel
theorem dX3_countedIn_29 : decode cX3_countedIn 29 = .ok (.iaload, 1) := by decide +kernel
theorem dX3_countedIn_30 : decode cX3_countedIn 30 = .ok (.i2l, 1) := by decide +kernel
theorem dX3_countedIn_31 : decode cX3_countedIn 31 = .ok (.aload_n 0, 1) := by decide +kernel
theorem dX3_countedIn_32 : decode cX3_countedIn 32 = .ok (.getfield 13, 3) := by decide +kernel
theorem dX3_countedIn_35 : decode cX3_countedIn 35 = .ok (.aload_n 0, 1) := by decide +kernel
theorem dX3_countedIn_36 : decode cX3_countedIn 36 = .ok (.getfield 65, 3) := by decide +kernel
theorem dX3_countedIn_39 : decode cX3_countedIn 39 = .ok (.bipush 10, 2) := by decide +kernel
theorem dX3_countedIn_41 : decode cX3_countedIn 41 = .ok (.iload_n 1, 1) := by decide +kernel
theorem dX3_countedIn_42 : decode cX3_countedIn 42 = .ok (.imul, 1) := by decide +kernel
theorem dX3_countedIn_43 : decode cX3_countedIn 43 = .ok (.iload 5, 2) := by decide +kernel
theorem dX3_countedIn_45 : decode cX3_countedIn 45 = .ok (.iadd, 1) := by decide +kernel
theorem dX3_countedIn_46 : decode cX3_countedIn 46 = .ok (.iaload, 1) := by decide +kernel
theorem dX3_countedIn_47 : decode cX3_countedIn 47 = .ok (.iaload, 1) := by decide +kernel
theorem dX3_countedIn_48 : decode cX3_countedIn 48 = .ok (.i2l, 1) := by decide +kernel
theorem dX3_countedIn_49 : decode cX3_countedIn 49 = .ok (.lmul, 1) := by decide +kernel
theorem dX3_countedIn_50 : decode cX3_countedIn 50 = .ok (.ladd, 1) := by decide +kernel
theorem dX3_countedIn_51 : decode cX3_countedIn 51 = .ok (.lstore_n 3, 1) := by decide +kernel
theorem dX3_countedIn_52 : decode cX3_countedIn 52 = .ok (.iinc 5 1, 3) := by decide +kernel
theorem dX3_countedIn_55 : decode cX3_countedIn 55 = .ok (.goto (-48), 3) := by decide +kernel
theorem dX3_countedIn_58 : decode cX3_countedIn 58 = .ok (.lload_n 3, 1) := by decide +kernel
theorem dX3_countedIn_59 : decode cX3_countedIn 59 = .ok (.lreturn, 1) := by decide +kernel
theorem dX3_buy_0 : decode cX3_buy 0 = .ok (.aload_n 0, 1) := by decide +kernel
theorem dX3_buy_1 : decode cX3_buy 1 = .ok (.getfield 13, 3) := by decide +kernel
theorem dX3_buy_4 : decode cX3_buy 4 = .ok (.aload_n 0, 1) := by decide +kernel
theorem dX3_buy_5 : decode cX3_buy 5 = .ok (.getfield 41, 3) := by decide +kernel
theorem dX3_buy_8 : decode cX3_buy 8 = .ok (.iload_n 1, 1) := by decide +kernel
theorem dX3_buy_9 : decode cX3_buy 9 = .ok (.iaload, 1) := by decide +kernel
theorem dX3_buy_10 : decode cX3_buy 10 = .ok (.iaload, 1) := by decide +kernel
theorem dX3_buy_11 : decode cX3_buy 11 = .ok (.istore_n 2, 1) := by decide +kernel
theorem dX3_buy_12 : decode cX3_buy 12 = .ok (.aload_n 0, 1) := by decide +kernel
theorem dX3_buy_13 : decode cX3_buy 13 = .ok (.getfield 13, 3) := by decide +kernel
theorem dX3_buy_16 : decode cX3_buy 16 = .ok (.aload_n 0, 1) := by decide +kernel
theorem dX3_buy_17 : decode cX3_buy 17 = .ok (.getfield 9, 3) := by decide +kernel
theorem dX3_buy_20 : decode cX3_buy 20 = .ok (.iaload, 1) := by decide +kernel
theorem dX3_buy_21 : decode cX3_buy 21 = .ok (.istore_n 3, 1) := by decide +kernel
theorem dX3_buy_22 : decode cX3_buy 22 = .ok (.iload_n 2, 1) := by decide +kernel
theorem dX3_buy_23 : decode cX3_buy 23 = .ok (.iload_n 3, 1) := by decide +kernel
theorem dX3_buy_24 : decode cX3_buy 24 = .ok (.if_icmp .ge 7, 3) := by decide +kernel
theorem dX3_buy_27 : decode cX3_buy 27 = .ok (.iload_n 2, 1) := by decide +kernel
theorem dX3_buy_28 : decode cX3_buy 28 = .ok (.goto 4, 3) := by decide +kernel
theorem dX3_buy_31 : decode cX3_buy 31 = .ok (.iload_n 3, 1) := by decide +kernel
theorem dX3_buy_32 : decode cX3_buy 32 = .ok (.istore 4, 2) := by decide +kernel
theorem dX3_buy_34 : decode cX3_buy 34 = .ok (.bipush 85, 2) := by decide +kernel
theorem dX3_buy_36 : decode cX3_buy 36 = .ok (.iload 4, 2) := by decide +kernel
theorem dX3_buy_38 : decode cX3_buy 38 = .ok (.imul, 1) := by decide +kernel
theorem dX3_buy_39 : decode cX3_buy 39 = .ok (.bipush 99, 2) := by decide +kernel
theorem dX3_buy_41 : decode cX3_buy 41 = .ok (.iadd, 1) := by decide +kernel
theorem dX3_buy_42 : decode cX3_buy 42 = .ok (.bipush 100, 2) := by decide +kernel
theorem dX3_buy_44 : decode cX3_buy 44 = .ok (.idiv, 1) := by decide +kernel
theorem dX3_buy_45 : decode cX3_buy 45 = .ok (.istore 5, 2) := by decide +kernel
theorem dX3_buy_47 : decode cX3_buy 47 = .ok (.aload_n 0, 1) := by decide +kernel
theorem dX3_buy_48 : decode cX3_buy 48 = .ok (.getfield 18, 3) := by decide +kernel
theorem dX3_buy_51 : decode cX3_buy 51 = .ok (.i2l, 1) := by decide +kernel
theorem dX3_buy_52 : decode cX3_buy 52 = .ok (.aload_n 0, 1) := by decide +kernel
theorem dX3_buy_53 : decode cX3_buy 53 = .ok (.iload_n 1, 1) := by decide +kernel
theorem dX3_buy_54 : decode cX3_buy 54 = .ok (.aload_n 0, 1) := by decide +kernel
theorem dX3_buy_55 : decode cX3_buy 55 = .ok (.getfield 9, 3) := by decide +kernel
theorem dX3_buy_58 : decode cX3_buy 58 = .ok (.bipush 12, 2) := by decide +kernel
theorem dX3_buy_60 : decode cX3_buy 60 = .ok (.idiv, 1) := by decide +kernel
theorem dX3_buy_61 : decode cX3_buy 61 = .ok (.invokevirtual 78, 3) := by decide +kernel
theorem dX3_buy_64 : decode cX3_buy 64 = .ok (.lsub, 1) := by decide +kernel
theorem dX3_buy_65 : decode cX3_buy 65 = .ok (.iload_n 2, 1) := by decide +kernel
theorem dX3_buy_66 : decode cX3_buy 66 = .ok (.i2l, 1) := by decide +kernel
theorem dX3_buy_67 : decode cX3_buy 67 = .ok (.ldiv, 1) := by decide +kernel
theorem dX3_buy_68 : decode cX3_buy 68 = .ok (.lstore 6, 2) := by decide +kernel
theorem dX3_buy_70 : decode cX3_buy 70 = .ok (.aload_n 0, 1) := by decide +kernel
theorem dX3_buy_71 : decode cX3_buy 71 = .ok (.getfield 28, 3) := by decide +kernel
theorem dX3_buy_74 : decode cX3_buy 74 = .ok (.iload_n 1, 1) := by decide +kernel
theorem dX3_buy_75 : decode cX3_buy 75 = .ok (.iaload, 1) := by decide +kernel
theorem dX3_buy_76 : decode cX3_buy 76 = .ok (.iload 5, 2) := by decide +kernel
theorem dX3_buy_78 : decode cX3_buy 78 = .ok (.idiv, 1) := by decide +kernel
theorem dX3_buy_79 : decode cX3_buy 79 = .ok (.istore 8, 2) := by decide +kernel
theorem dX3_buy_81 : decode cX3_buy 81 = .ok (.lload 6, 2) := by decide +kernel
theorem dX3_buy_83 : decode cX3_buy 83 = .ok (.lconst 0, 1) := by decide +kernel
theorem dX3_buy_84 : decode cX3_buy 84 = .ok (.lcmp, 1) := by decide +kernel
theorem dX3_buy_85 : decode cX3_buy 85 = .ok (.ifCond .ge 7, 3) := by decide +kernel
theorem dX3_buy_88 : decode cX3_buy 88 = .ok (.iconst 0, 1) := by decide +kernel
theorem dX3_buy_89 : decode cX3_buy 89 = .ok (.goto 20, 3) := by decide +kernel
theorem dX3_buy_92 : decode cX3_buy 92 = .ok (.lload 6, 2) := by decide +kernel
theorem dX3_buy_94 : decode cX3_buy 94 = .ok (.iload 8, 2) := by decide +kernel
theorem dX3_buy_96 : decode cX3_buy 96 = .ok (.i2l, 1) := by decide +kernel
theorem dX3_buy_97 : decode cX3_buy 97 = .ok (.lcmp, 1) := by decide +kernel
theorem dX3_buy_98 : decode cX3_buy 98 = .ok (.ifCond .ge 9, 3) := by decide +kernel
theorem dX3_buy_101 : decode cX3_buy 101 = .ok (.lload 6, 2) := by decide +kernel
theorem dX3_buy_103 : decode cX3_buy 103 = .ok (.l2i, 1) := by decide +kernel
theorem dX3_buy_104 : decode cX3_buy 104 = .ok (.goto 5, 3) := by decide +kernel
theorem dX3_buy_107 : decode cX3_buy 107 = .ok (.iload 8, 2) := by decide +kernel
theorem dX3_buy_109 : decode cX3_buy 109 = .ok (.istore 9, 2) := by decide +kernel
theorem dX3_buy_111 : decode cX3_buy 111 = .ok (.bipush 10, 2) := by decide +kernel
theorem dX3_buy_113 : decode cX3_buy 113 = .ok (.iload_n 1, 1) := by decide +kernel
theorem dX3_buy_114 : decode cX3_buy 114 = .ok (.imul, 1) := by decide +kernel
theorem dX3_buy_115 : decode cX3_buy 115 = .ok (.aload_n 0, 1) := by decide +kernel
theorem dX3_buy_116 : decode cX3_buy 116 = .ok (.getfield 9, 3) := by decide +kernel
theorem dX3_buy_119 : decode cX3_buy 119 = .ok (.bipush 6, 2) := by decide +kernel
theorem dX3_buy_121 : decode cX3_buy 121 = .ok (.idiv, 1) := by decide +kernel
theorem dX3_buy_122 : decode cX3_buy 122 = .ok (.iadd, 1) := by decide +kernel
theorem dX3_buy_123 : decode cX3_buy 123 = .ok (.istore 10, 2) := by decide +kernel
theorem dX3_buy_125 : decode cX3_buy 125 = .ok (.iload 9, 2) := by decide +kernel
theorem dX3_buy_127 : decode cX3_buy 127 = .ok (.ifCond .le 72, 3) := by decide +kernel
theorem dX3_buy_130 : decode cX3_buy 130 = .ok (.aload_n 0, 1) := by decide +kernel
theorem dX3_buy_131 : decode cX3_buy 131 = .ok (.getfield 56, 3) := by decide +kernel
theorem dX3_buy_134 : decode cX3_buy 134 = .ok (.iload 10, 2) := by decide +kernel
theorem dX3_buy_136 : decode cX3_buy 136 = .ok (.iload 9, 2) := by decide +kernel
theorem dX3_buy_138 : decode cX3_buy 138 = .ok (.iastore, 1) := by decide +kernel
theorem dX3_buy_139 : decode cX3_buy 139 = .ok (.aload_n 0, 1) := by decide +kernel
theorem dX3_buy_140 : decode cX3_buy 140 = .ok (.getfield 59, 3) := by decide +kernel
theorem dX3_buy_143 : decode cX3_buy 143 = .ok (.iload 10, 2) := by decide +kernel
theorem dX3_buy_145 : decode cX3_buy 145 = .ok (.iload 9, 2) := by decide +kernel
theorem dX3_buy_147 : decode cX3_buy 147 = .ok (.iastore, 1) := by decide +kernel
theorem dX3_buy_148 : decode cX3_buy 148 = .ok (.aload_n 0, 1) := by decide +kernel
theorem dX3_buy_149 : decode cX3_buy 149 = .ok (.getfield 62, 3) := by decide +kernel
theorem dX3_buy_152 : decode cX3_buy 152 = .ok (.iload 10, 2) := by decide +kernel
theorem dX3_buy_154 : decode cX3_buy 154 = .ok (.iload 5, 2) := by decide +kernel
theorem dX3_buy_156 : decode cX3_buy 156 = .ok (.iastore, 1) := by decide +kernel
theorem dX3_buy_157 : decode cX3_buy 157 = .ok (.aload_n 0, 1) := by decide +kernel
theorem dX3_buy_158 : decode cX3_buy 158 = .ok (.getfield 65, 3) := by decide +kernel
theorem dX3_buy_161 : decode cX3_buy 161 = .ok (.iload 10, 2) := by decide +kernel
theorem dX3_buy_163 : decode cX3_buy 163 = .ok (.aload_n 0, 1) := by decide +kernel
theorem dX3_buy_164 : decode cX3_buy 164 = .ok (.getfield 41, 3) := by decide +kernel
theorem dX3_buy_167 : decode cX3_buy 167 = .ok (.iload_n 1, 1) := by decide +kernel
theorem dX3_buy_168 : decode cX3_buy 168 = .ok (.iaload, 1) := by decide +kernel
theorem dX3_buy_169 : decode cX3_buy 169 = .ok (.iastore, 1) := by decide +kernel
theorem dX3_buy_170 : decode cX3_buy 170 = .ok (.aload_n 0, 1) := by decide +kernel
theorem dX3_buy_171 : decode cX3_buy 171 = .ok (.getfield 28, 3) := by decide +kernel
theorem dX3_buy_174 : decode cX3_buy 174 = .ok (.iload_n 1, 1) := by decide +kernel
theorem dX3_buy_175 : decode cX3_buy 175 = .ok (.dup2, 1) := by decide +kernel
theorem dX3_buy_176 : decode cX3_buy 176 = .ok (.iaload, 1) := by decide +kernel
theorem dX3_buy_177 : decode cX3_buy 177 = .ok (.iload 9, 2) := by decide +kernel
theorem dX3_buy_179 : decode cX3_buy 179 = .ok (.iload 5, 2) := by decide +kernel
theorem dX3_buy_181 : decode cX3_buy 181 = .ok (.imul, 1) := by decide +kernel
theorem dX3_buy_182 : decode cX3_buy 182 = .ok (.isub, 1) := by decide +kernel
theorem dX3_buy_183 : decode cX3_buy 183 = .ok (.iastore, 1) := by decide +kernel
theorem dX3_buy_184 : decode cX3_buy 184 = .ok (.aload_n 0, 1) := by decide +kernel
theorem dX3_buy_185 : decode cX3_buy 185 = .ok (.getfield 34, 3) := by decide +kernel
theorem dX3_buy_188 : decode cX3_buy 188 = .ok (.iload_n 1, 1) := by decide +kernel
theorem dX3_buy_189 : decode cX3_buy 189 = .ok (.dup2, 1) := by decide +kernel
theorem dX3_buy_190 : decode cX3_buy 190 = .ok (.laload, 1) := by decide +kernel
theorem dX3_buy_191 : decode cX3_buy 191 = .ok (.iload 9, 2) := by decide +kernel
theorem dX3_buy_193 : decode cX3_buy 193 = .ok (.iload 5, 2) := by decide +kernel
theorem dX3_buy_195 : decode cX3_buy 195 = .ok (.imul, 1) := by decide +kernel
theorem dX3_buy_196 : decode cX3_buy 196 = .ok (.i2l, 1) := by decide +kernel
theorem dX3_buy_197 : decode cX3_buy 197 = .ok (.ladd, 1) := by decide +kernel
theorem dX3_buy_198 : decode cX3_buy 198 = .ok (.lastore, 1) := by decide +kernel
theorem dX3_buy_199 : decode cX3_buy 199 = .ok (.aload_n 0, 1) := by decide +kernel
theorem dX3_buy_200 : decode cX3_buy 200 = .ok (.getfield 44, 3) := by decide +kernel
theorem dX3_buy_203 : decode cX3_buy 203 = .ok (.iload_n 1, 1) := by decide +kernel
theorem dX3_buy_204 : decode cX3_buy 204 = .ok (.dup2, 1) := by decide +kernel
theorem dX3_buy_205 : decode cX3_buy 205 = .ok (.iaload, 1) := by decide +kernel
theorem dX3_buy_206 : decode cX3_buy 206 = .ok (.iconst 1, 1) := by decide +kernel
theorem dX3_buy_207 : decode cX3_buy 207 = .ok (.iadd, 1) := by decide +kernel
theorem dX3_buy_208 : decode cX3_buy 208 = .ok (.iastore, 1) := by decide +kernel
theorem dX3_buy_209 : decode cX3_buy 209 = .ok (.iload_n 3, 1) := by decide +kernel
theorem dX3_buy_210 : decode cX3_buy 210 = .ok (.iload_n 2, 1) := by decide +kernel
theorem dX3_buy_211 : decode cX3_buy 211 = .ok (.if_icmp .lt 13, 3) := by decide +kernel
theorem dX3_buy_214 : decode cX3_buy 214 = .ok (.aload_n 0, 1) := by decide +kernel
theorem dX3_buy_215 : decode cX3_buy 215 = .ok (.getfield 44, 3) := by decide +kernel
theorem dX3_buy_218 : decode cX3_buy 218 = .ok (.iload_n 1, 1) := by decide +kernel
theorem dX3_buy_219 : decode cX3_buy 219 = .ok (.iaload, 1) := by decide +kernel
theorem dX3_buy_220 : decode cX3_buy 220 = .ok (.iconst 4, 1) := by decide +kernel
theorem dX3_buy_221 : decode cX3_buy 221 = .ok (.if_icmp .ne 39, 3) := by decide +kernel
theorem dX3_buy_224 : decode cX3_buy 224 = .ok (.aload_n 0, 1) := by decide +kernel
theorem dX3_buy_225 : decode cX3_buy 225 = .ok (.getfield 47, 3) := by decide +kernel
theorem dX3_buy_228 : decode cX3_buy 228 = .ok (.iload_n 1, 1) := by decide +kernel
theorem dX3_buy_229 : decode cX3_buy 229 = .ok (.dup2, 1) := by decide +kernel
theorem dX3_buy_230 : decode cX3_buy 230 = .ok (.iaload, 1) := by decide +kernel
theorem dX3_buy_231 : decode cX3_buy 231 = .ok (.iload_n 3, 1) := by decide +kernel
theorem dX3_buy_232 : decode cX3_buy 232 = .ok (.iload_n 2, 1) := by decide +kernel
theorem dX3_buy_233 : decode cX3_buy 233 = .ok (.if_icmp .ge 7, 3) := by decide +kernel
theorem dX3_buy_236 : decode cX3_buy 236 = .ok (.iconst 1, 1) := by decide +kernel
theorem dX3_buy_237 : decode cX3_buy 237 = .ok (.goto 4, 3) := by decide +kernel
theorem dX3_buy_240 : decode cX3_buy 240 = .ok (.iconst 0, 1) := by decide +kernel
theorem dX3_buy_241 : decode cX3_buy 241 = .ok (.iadd, 1) := by decide +kernel
theorem dX3_buy_242 : decode cX3_buy 242 = .ok (.iastore, 1) := by decide +kernel
theorem dX3_buy_243 : decode cX3_buy 243 = .ok (.aload_n 0, 1) := by decide +kernel
theorem dX3_buy_244 : decode cX3_buy 244 = .ok (.getfield 41, 3) := by decide +kernel
theorem dX3_buy_247 : decode cX3_buy 247 = .ok (.iload_n 1, 1) := by decide +kernel
theorem dX3_buy_248 : decode cX3_buy 248 = .ok (.aload_n 0, 1) := by decide +kernel
theorem dX3_buy_249 : decode cX3_buy 249 = .ok (.getfield 9, 3) := by decide +kernel
theorem dX3_buy_252 : decode cX3_buy 252 = .ok (.iastore, 1) := by decide +kernel
theorem dX3_buy_253 : decode cX3_buy 253 = .ok (.aload_n 0, 1) := by decide +kernel
theorem dX3_buy_254 : decode cX3_buy 254 = .ok (.getfield 44, 3) := by decide +kernel
theorem dX3_buy_257 : decode cX3_buy 257 = .ok (.iload_n 1, 1) := by decide +kernel
theorem dX3_buy_258 : decode cX3_buy 258 = .ok (.iconst 0, 1) := by decide +kernel
theorem dX3_buy_259 : decode cX3_buy 259 = .ok (.iastore, 1) := by decide +kernel
theorem dX3_buy_260 : decode cX3_buy 260 = .ok (.return_, 1) := by decide +kernel
theorem dX3_next_0 : decode cX3_next 0 = .ok (.aload_n 0, 1) := by decide +kernel
theorem dX3_next_1 : decode cX3_next 1 = .ok (.iload_n 1, 1) := by decide +kernel
theorem dX3_next_2 : decode cX3_next 2 = .ok (.iconst 1, 1) := by decide +kernel
theorem dX3_next_3 : decode cX3_next 3 = .ok (.ldc 82, 2) := by decide +kernel
theorem dX3_next_5 : decode cX3_next 5 = .ok (.invokestatic 74, 3) := by decide +kernel
theorem dX3_next_8 : decode cX3_next 8 = .ok (.aload_n 0, 1) := by decide +kernel
theorem dX3_next_9 : decode cX3_next 9 = .ok (.getfield 9, 3) := by decide +kernel
theorem dX3_next_12 : decode cX3_next 12 = .ok (.bipush 59, 2) := by decide +kernel
theorem dX3_next_14 : decode cX3_next 14 = .ok (.if_icmp .ge 7, 3) := by decide +kernel
theorem dX3_next_17 : decode cX3_next 17 = .ok (.iconst 1, 1) := by decide +kernel
theorem dX3_next_18 : decode cX3_next 18 = .ok (.goto 4, 3) := by decide +kernel
theorem dX3_next_21 : decode cX3_next 21 = .ok (.iconst 0, 1) := by decide +kernel
theorem dX3_next_22 : decode cX3_next 22 = .ok (.invokevirtual 83, 3) := by decide +kernel
theorem dX3_next_25 : decode cX3_next 25 = .ok (.ifCond .ne 5, 3) := by decide +kernel
theorem dX3_next_28 : decode cX3_next 28 = .ok (.iconst 0, 1) := by decide +kernel
theorem dX3_next_29 : decode cX3_next 29 = .ok (.ireturn, 1) := by decide +kernel
theorem dX3_next_30 : decode cX3_next 30 = .ok (.iconst 0, 1) := by decide +kernel
theorem dX3_next_31 : decode cX3_next 31 = .ok (.istore_n 2, 1) := by decide +kernel
theorem dX3_next_32 : decode cX3_next 32 = .ok (.iload_n 2, 1) := by decide +kernel
theorem dX3_next_33 : decode cX3_next 33 = .ok (.aload_n 0, 1) := by decide +kernel
theorem dX3_next_34 : decode cX3_next 34 = .ok (.getfield 71, 3) := by decide +kernel
theorem dX3_next_37 : decode cX3_next 37 = .ok (.if_icmp .ge 34, 3) := by decide +kernel
theorem dX3_next_40 : decode cX3_next 40 = .ok (.aload_n 0, 1) := by decide +kernel
theorem dX3_next_41 : decode cX3_next 41 = .ok (.getfield 9, 3) := by decide +kernel
theorem dX3_next_44 : decode cX3_next 44 = .ok (.bipush 6, 2) := by decide +kernel
theorem dX3_next_46 : decode cX3_next 46 = .ok (.irem, 1) := by decide +kernel
theorem dX3_next_47 : decode cX3_next 47 = .ok (.iconst 5, 1) := by decide +kernel
theorem dX3_next_48 : decode cX3_next 48 = .ok (.if_icmp .ne 23, 3) := by decide +kernel
theorem dX3_next_51 : decode cX3_next 51 = .ok (.aload_n 0, 1) := by decide +kernel
theorem dX3_next_52 : decode cX3_next 52 = .ok (.getfield 24, 3) := by decide +kernel
theorem dX3_next_55 : decode cX3_next 55 = .ok (.iload_n 2, 1) := by decide +kernel
theorem dX3_next_56 : decode cX3_next 56 = .ok (.baload, 1) := by decide +kernel
theorem dX3_next_57 : decode cX3_next 57 = .ok (.ifCond .ne 8, 3) := by decide +kernel
theorem dX3_next_60 : decode cX3_next 60 = .ok (.aload_n 0, 1) := by decide +kernel
theorem dX3_next_61 : decode cX3_next 61 = .ok (.iload_n 2, 1) := by decide +kernel
theorem dX3_next_62 : decode cX3_next 62 = .ok (.invokevirtual 87, 3) := by decide +kernel
theorem dX3_next_65 : decode cX3_next 65 = .ok (.iinc 2 1, 3) := by decide +kernel
theorem dX3_next_68 : decode cX3_next 68 = .ok (.goto (-36), 3) := by decide +kernel
theorem dX3_next_71 : decode cX3_next 71 = .ok (.aload_n 0, 1) := by decide +kernel
theorem dX3_next_72 : decode cX3_next 72 = .ok (.dup, 1) := by decide +kernel
theorem dX3_next_73 : decode cX3_next 73 = .ok (.getfield 9, 3) := by decide +kernel
theorem dX3_next_76 : decode cX3_next 76 = .ok (.iconst 1, 1) := by decide +kernel
theorem dX3_next_77 : decode cX3_next 77 = .ok (.iadd, 1) := by decide +kernel
theorem dX3_next_78 : decode cX3_next 78 = .ok (.putfield 9, 3) := by decide +kernel
theorem dX3_next_81 : decode cX3_next 81 = .ok (.aload_n 0, 1) := by decide +kernel
theorem dX3_next_82 : decode cX3_next 82 = .ok (.getfield 13, 3) := by decide +kernel
theorem dX3_next_85 : decode cX3_next 85 = .ok (.aload_n 0, 1) := by decide +kernel
theorem dX3_next_86 : decode cX3_next 86 = .ok (.getfield 9, 3) := by decide +kernel
theorem dX3_next_89 : decode cX3_next 89 = .ok (.iload_n 1, 1) := by decide +kernel
theorem dX3_next_90 : decode cX3_next 90 = .ok (.iastore, 1) := by decide +kernel
theorem dX3_next_91 : decode cX3_next 91 = .ok (.aload_n 0, 1) := by decide +kernel
theorem dX3_next_92 : decode cX3_next 92 = .ok (.getfield 9, 3) := by decide +kernel
theorem dX3_next_95 : decode cX3_next 95 = .ok (.ireturn, 1) := by decide +kernel
theorem dX3_month_0 : decode cX3_month 0 = .ok (.aload_n 0, 1) := by decide +kernel
theorem dX3_month_1 : decode cX3_month 1 = .ok (.iconst 0, 1) := by decide +kernel
theorem dX3_month_2 : decode cX3_month 2 = .ok (.putfield 68, 3) := by decide +kernel
theorem dX3_month_5 : decode cX3_month 5 = .ok (.aload_n 0, 1) := by decide +kernel
theorem dX3_month_6 : decode cX3_month 6 = .ok (.getfield 9, 3) := by decide +kernel
theorem dX3_month_9 : decode cX3_month 9 = .ok (.ireturn, 1) := by decide +kernel
theorem dX3_ceiling_0 : decode cX3_ceiling 0 = .ok (.aload_n 0, 1) := by decide +kernel
theorem dX3_ceiling_1 : decode cX3_ceiling 1 = .ok (.iload_n 1, 1) := by decide +kernel
theorem dX3_ceiling_2 : decode cX3_ceiling 2 = .ok (.iconst 0, 1) := by decide +kernel
theorem dX3_ceiling_3 : decode cX3_ceiling 3 = .ok (.ldc 91, 2) := by decide +kernel
theorem dX3_ceiling_5 : decode cX3_ceiling 5 = .ok (.invokestatic 74, 3) := by decide +kernel
theorem dX3_ceiling_8 : decode cX3_ceiling 8 = .ok (.invokevirtual 92, 3) := by decide +kernel
theorem dX3_ceiling_11 : decode cX3_ceiling 11 = .ok (.ifCond .ne 5, 3) := by decide +kernel
theorem dX3_ceiling_14 : decode cX3_ceiling 14 = .ok (.iconst 0, 1) := by decide +kernel
theorem dX3_ceiling_15 : decode cX3_ceiling 15 = .ok (.ireturn, 1) := by decide +kernel
theorem dX3_ceiling_16 : decode cX3_ceiling 16 = .ok (.aload_n 0, 1) := by decide +kernel
theorem dX3_ceiling_17 : decode cX3_ceiling 17 = .ok (.getfield 18, 3) := by decide +kernel
theorem dX3_ceiling_20 : decode cX3_ceiling 20 = .ok (.istore_n 2, 1) := by decide +kernel
theorem dX3_ceiling_21 : decode cX3_ceiling 21 = .ok (.aload_n 0, 1) := by decide +kernel
theorem dX3_ceiling_22 : decode cX3_ceiling 22 = .ok (.iload_n 1, 1) := by decide +kernel
theorem dX3_ceiling_23 : decode cX3_ceiling 23 = .ok (.putfield 18, 3) := by decide +kernel
theorem dX3_ceiling_26 : decode cX3_ceiling 26 = .ok (.iload_n 2, 1) := by decide +kernel
theorem dX3_ceiling_27 : decode cX3_ceiling 27 = .ok (.ireturn, 1) := by decide +kernel
theorem dX3_join_0 : decode cX3_join 0 = .ok (.aload_n 0, 1) := by decide +kernel
theorem dX3_join_1 : decode cX3_join 1 = .ok (.iload_n 1, 1) := by decide +kernel
theorem dX3_join_2 : decode cX3_join 2 = .ok (.iconst 1, 1) := by decide +kernel
theorem dX3_join_3 : decode cX3_join 3 = .ok (.bipush 15, 2) := by decide +kernel
theorem dX3_join_5 : decode cX3_join 5 = .ok (.invokestatic 74, 3) := by decide +kernel
theorem dX3_join_8 : decode cX3_join 8 = .ok (.aload_n 0, 1) := by decide +kernel
theorem dX3_join_9 : decode cX3_join 9 = .ok (.getfield 9, 3) := by decide +kernel
theorem dX3_join_12 : decode cX3_join 12 = .ok (.ifCond .lt 16, 3) := by decide +kernel
theorem dX3_join_15 : decode cX3_join 15 = .ok (.aload_n 0, 1) := by decide +kernel
theorem dX3_join_16 : decode cX3_join 16 = .ok (.getfield 71, 3) := by decide +kernel
theorem dX3_join_19 : decode cX3_join 19 = .ok (.bipush 6, 2) := by decide +kernel
theorem dX3_join_21 : decode cX3_join 21 = .ok (.if_icmp .ge 7, 3) := by decide +kernel
theorem dX3_join_24 : decode cX3_join 24 = .ok (.iconst 1, 1) := by decide +kernel
theorem dX3_join_25 : decode cX3_join 25 = .ok (.goto 4, 3) := by decide +kernel
theorem dX3_join_28 : decode cX3_join 28 = .ok (.iconst 0, 1) := by decide +kernel
theorem dX3_join_29 : decode cX3_join 29 = .ok (.invokevirtual 83, 3) := by decide +kernel
theorem dX3_join_32 : decode cX3_join 32 = .ok (.ifCond .ne 5, 3) := by decide +kernel
theorem dX3_join_35 : decode cX3_join 35 = .ok (.iconst 0, 1) := by decide +kernel
theorem dX3_join_36 : decode cX3_join 36 = .ok (.ireturn, 1) := by decide +kernel
theorem dX3_join_37 : decode cX3_join 37 = .ok (.aload_n 0, 1) := by decide +kernel
theorem dX3_join_38 : decode cX3_join 38 = .ok (.getfield 21, 3) := by decide +kernel
theorem dX3_join_41 : decode cX3_join 41 = .ok (.aload_n 0, 1) := by decide +kernel
theorem dX3_join_42 : decode cX3_join 42 = .ok (.getfield 71, 3) := by decide +kernel
theorem dX3_join_45 : decode cX3_join 45 = .ok (.iload_n 1, 1) := by decide +kernel
theorem dX3_join_46 : decode cX3_join 46 = .ok (.iastore, 1) := by decide +kernel
theorem dX3_join_47 : decode cX3_join 47 = .ok (.aload_n 0, 1) := by decide +kernel
theorem dX3_join_48 : decode cX3_join 48 = .ok (.getfield 41, 3) := by decide +kernel
theorem dX3_join_51 : decode cX3_join 51 = .ok (.aload_n 0, 1) := by decide +kernel
theorem dX3_join_52 : decode cX3_join 52 = .ok (.getfield 71, 3) := by decide +kernel
theorem dX3_join_55 : decode cX3_join 55 = .ok (.aload_n 0, 1) := by decide +kernel
theorem dX3_join_56 : decode cX3_join 56 = .ok (.getfield 9, 3) := by decide +kernel
theorem dX3_join_59 : decode cX3_join 59 = .ok (.iastore, 1) := by decide +kernel
theorem dX3_join_60 : decode cX3_join 60 = .ok (.aload_n 0, 1) := by decide +kernel
theorem dX3_join_61 : decode cX3_join 61 = .ok (.dup, 1) := by decide +kernel
theorem dX3_join_62 : decode cX3_join 62 = .ok (.getfield 71, 3) := by decide +kernel
theorem dX3_join_65 : decode cX3_join 65 = .ok (.iconst 1, 1) := by decide +kernel
theorem dX3_join_66 : decode cX3_join 66 = .ok (.iadd, 1) := by decide +kernel
theorem dX3_join_67 : decode cX3_join 67 = .ok (.putfield 71, 3) := by decide +kernel
theorem dX3_join_70 : decode cX3_join 70 = .ok (.aload_n 0, 1) := by decide +kernel
theorem dX3_join_71 : decode cX3_join 71 = .ok (.getfield 71, 3) := by decide +kernel
theorem dX3_join_74 : decode cX3_join 74 = .ok (.iconst 1, 1) := by decide +kernel
theorem dX3_join_75 : decode cX3_join 75 = .ok (.isub, 1) := by decide +kernel
theorem dX3_join_76 : decode cX3_join 76 = .ok (.ireturn, 1) := by decide +kernel
theorem dX3_isStaying_0 : decode cX3_isStaying 0 = .ok (.aload_n 0, 1) := by decide +kernel
theorem dX3_isStaying_1 : decode cX3_isStaying 1 = .ok (.iload_n 1, 1) := by decide +kernel
theorem dX3_isStaying_2 : decode cX3_isStaying 2 = .ok (.invokevirtual 96, 3) := by decide +kernel
theorem dX3_isStaying_5 : decode cX3_isStaying 5 = .ok (.ifCond .eq 16, 3) := by decide +kernel
theorem dX3_isStaying_8 : decode cX3_isStaying 8 = .ok (.aload_n 0, 1) := by decide +kernel
theorem dX3_isStaying_9 : decode cX3_isStaying 9 = .ok (.getfield 24, 3) := by decide +kernel
theorem dX3_isStaying_12 : decode cX3_isStaying 12 = .ok (.iload_n 1, 1) := by decide +kernel
theorem dX3_isStaying_13 : decode cX3_isStaying 13 = .ok (.baload, 1) := by decide +kernel
theorem dX3_isStaying_14 : decode cX3_isStaying 14 = .ok (.ifCond .ne 7, 3) := by decide +kernel
theorem dX3_isStaying_17 : decode cX3_isStaying 17 = .ok (.iconst 1, 1) := by decide +kernel
theorem dX3_isStaying_18 : decode cX3_isStaying 18 = .ok (.goto 4, 3) := by decide +kernel
theorem dX3_isStaying_21 : decode cX3_isStaying 21 = .ok (.iconst 0, 1) := by decide +kernel
theorem dX3_isStaying_22 : decode cX3_isStaying 22 = .ok (.ireturn, 1) := by decide +kernel
theorem dX3_rate_0 : decode cX3_rate 0 = .ok (.aload_n 0, 1) := by decide +kernel
theorem dX3_rate_1 : decode cX3_rate 1 = .ok (.aload_n 0, 1) := by decide +kernel
theorem dX3_rate_2 : decode cX3_rate 2 = .ok (.iload_n 1, 1) := by decide +kernel
theorem dX3_rate_3 : decode cX3_rate 3 = .ok (.invokevirtual 96, 3) := by decide +kernel
theorem dX3_rate_6 : decode cX3_rate 6 = .ok (.iload_n 2, 1) := by decide +kernel
theorem dX3_rate_7 : decode cX3_rate 7 = .ok (.iconst 1, 1) := by decide +kernel
theorem dX3_rate_8 : decode cX3_rate 8 = .ok (.bipush 15, 2) := by decide +kernel
theorem dX3_rate_10 : decode cX3_rate 10 = .ok (.invokestatic 74, 3) := by decide +kernel
theorem dX3_rate_13 : decode cX3_rate 13 = .ok (.aload_n 0, 1) := by decide +kernel
theorem dX3_rate_14 : decode cX3_rate 14 = .ok (.iload_n 1, 1) := by decide +kernel
theorem dX3_rate_15 : decode cX3_rate 15 = .ok (.invokevirtual 100, 3) := by decide +kernel
theorem dX3_rate_18 : decode cX3_rate 18 = .ok (.invokevirtual 103, 3) := by decide +kernel
theorem dX3_rate_21 : decode cX3_rate 21 = .ok (.ifCond .ne 5, 3) := by decide +kernel
theorem dX3_rate_24 : decode cX3_rate 24 = .ok (.iconst 0, 1) := by decide +kernel
theorem dX3_rate_25 : decode cX3_rate 25 = .ok (.ireturn, 1) := by decide +kernel
theorem dX3_rate_26 : decode cX3_rate 26 = .ok (.aload_n 0, 1) := by decide +kernel
theorem dX3_rate_27 : decode cX3_rate 27 = .ok (.getfield 21, 3) := by decide +kernel
theorem dX3_rate_30 : decode cX3_rate 30 = .ok (.iload_n 1, 1) := by decide +kernel
theorem dX3_rate_31 : decode cX3_rate 31 = .ok (.iaload, 1) := by decide +kernel
theorem dX3_rate_32 : decode cX3_rate 32 = .ok (.istore_n 3, 1) := by decide +kernel
theorem dX3_rate_33 : decode cX3_rate 33 = .ok (.aload_n 0, 1) := by decide +kernel
theorem dX3_rate_34 : decode cX3_rate 34 = .ok (.getfield 21, 3) := by decide +kernel
theorem dX3_rate_37 : decode cX3_rate 37 = .ok (.iload_n 1, 1) := by decide +kernel
theorem dX3_rate_38 : decode cX3_rate 38 = .ok (.iload_n 2, 1) := by decide +kernel
theorem dX3_rate_39 : decode cX3_rate 39 = .ok (.iastore, 1) := by decide +kernel
theorem dX3_rate_40 : decode cX3_rate 40 = .ok (.iload_n 3, 1) := by decide +kernel
theorem dX3_rate_41 : decode cX3_rate 41 = .ok (.ireturn, 1) := by decide +kernel
theorem dX3_slip_0 : decode cX3_slip 0 = .ok (.aload_n 0, 1) := by decide +kernel
theorem dX3_slip_1 : decode cX3_slip 1 = .ok (.aload_n 0, 1) := by decide +kernel
theorem dX3_slip_2 : decode cX3_slip 2 = .ok (.iload_n 1, 1) := by decide +kernel
theorem dX3_slip_3 : decode cX3_slip 3 = .ok (.invokevirtual 96, 3) := by decide +kernel
theorem dX3_slip_6 : decode cX3_slip 6 = .ok (.iload_n 2, 1) := by decide +kernel
theorem dX3_slip_7 : decode cX3_slip 7 = .ok (.iconst 0, 1) := by decide +kernel
theorem dX3_slip_8 : decode cX3_slip 8 = .ok (.ldc 107, 2) := by decide +kernel
theorem dX3_slip_10 : decode cX3_slip 10 = .ok (.invokestatic 74, 3) := by decide +kernel
theorem dX3_slip_13 : decode cX3_slip 13 = .ok (.aload_n 0, 1) := by decide +kernel
theorem dX3_slip_14 : decode cX3_slip 14 = .ok (.iload_n 1, 1) := by decide +kernel
theorem dX3_slip_15 : decode cX3_slip 15 = .ok (.invokevirtual 100, 3) := by decide +kernel
theorem dX3_slip_18 : decode cX3_slip 18 = .ok (.invokevirtual 103, 3) := by decide +kernel
theorem dX3_slip_21 : decode cX3_slip 21 = .ok (.ifCond .ne 5, 3) := by decide +kernel
theorem dX3_slip_24 : decode cX3_slip 24 = .ok (.iconst 0, 1) := by decide +kernel
theorem dX3_slip_25 : decode cX3_slip 25 = .ok (.ireturn, 1) := by decide +kernel
theorem dX3_slip_26 : decode cX3_slip 26 = .ok (.iload_n 2, 1) := by decide +kernel
theorem dX3_slip_27 : decode cX3_slip 27 = .ok (.aload_n 0, 1) := by decide +kernel
theorem dX3_slip_28 : decode cX3_slip 28 = .ok (.getfield 21, 3) := by decide +kernel
theorem dX3_slip_31 : decode cX3_slip 31 = .ok (.iload_n 1, 1) := by decide +kernel
theorem dX3_slip_32 : decode cX3_slip 32 = .ok (.iaload, 1) := by decide +kernel
theorem dX3_slip_33 : decode cX3_slip 33 = .ok (.imul, 1) := by decide +kernel
theorem dX3_slip_34 : decode cX3_slip 34 = .ok (.bipush 100, 2) := by decide +kernel
theorem dX3_slip_36 : decode cX3_slip 36 = .ok (.idiv, 1) := by decide +kernel
theorem dX3_slip_37 : decode cX3_slip 37 = .ok (.istore_n 3, 1) := by decide +kernel
theorem dX3_slip_38 : decode cX3_slip 38 = .ok (.aload_n 0, 1) := by decide +kernel
theorem dX3_slip_39 : decode cX3_slip 39 = .ok (.getfield 28, 3) := by decide +kernel
theorem dX3_slip_42 : decode cX3_slip 42 = .ok (.iload_n 1, 1) := by decide +kernel
theorem dX3_slip_43 : decode cX3_slip 43 = .ok (.dup2, 1) := by decide +kernel
theorem dX3_slip_44 : decode cX3_slip 44 = .ok (.iaload, 1) := by decide +kernel
theorem dX3_slip_45 : decode cX3_slip 45 = .ok (.iload_n 3, 1) := by decide +kernel
theorem dX3_slip_46 : decode cX3_slip 46 = .ok (.iadd, 1) := by decide +kernel
theorem dX3_slip_47 : decode cX3_slip 47 = .ok (.iastore, 1) := by decide +kernel
theorem dX3_slip_48 : decode cX3_slip 48 = .ok (.aload_n 0, 1) := by decide +kernel
theorem dX3_slip_49 : decode cX3_slip 49 = .ok (.getfield 38, 3) := by decide +kernel
theorem dX3_slip_52 : decode cX3_slip 52 = .ok (.iload_n 1, 1) := by decide +kernel
theorem dX3_slip_53 : decode cX3_slip 53 = .ok (.dup2, 1) := by decide +kernel
theorem dX3_slip_54 : decode cX3_slip 54 = .ok (.laload, 1) := by decide +kernel
theorem dX3_slip_55 : decode cX3_slip 55 = .ok (.iload_n 3, 1) := by decide +kernel
theorem dX3_slip_56 : decode cX3_slip 56 = .ok (.i2l, 1) := by decide +kernel
theorem dX3_slip_57 : decode cX3_slip 57 = .ok (.ladd, 1) := by decide +kernel
theorem dX3_slip_58 : decode cX3_slip 58 = .ok (.lastore, 1) := by decide +kernel
theorem dX3_slip_59 : decode cX3_slip 59 = .ok (.iload_n 3, 1) := by decide +kernel
theorem dX3_slip_60 : decode cX3_slip 60 = .ok (.ireturn, 1) := by decide +kernel
theorem dX3_leave_0 : decode cX3_leave 0 = .ok (.aload_n 0, 1) := by decide +kernel
theorem dX3_leave_1 : decode cX3_leave 1 = .ok (.aload_n 0, 1) := by decide +kernel
theorem dX3_leave_2 : decode cX3_leave 2 = .ok (.iload_n 1, 1) := by decide +kernel
theorem dX3_leave_3 : decode cX3_leave 3 = .ok (.invokevirtual 96, 3) := by decide +kernel
theorem dX3_leave_6 : decode cX3_leave 6 = .ok (.aload_n 0, 1) := by decide +kernel
theorem dX3_leave_7 : decode cX3_leave 7 = .ok (.iload_n 1, 1) := by decide +kernel
theorem dX3_leave_8 : decode cX3_leave 8 = .ok (.invokevirtual 100, 3) := by decide +kernel
theorem dX3_leave_11 : decode cX3_leave 11 = .ok (.invokevirtual 83, 3) := by decide +kernel
theorem dX3_leave_14 : decode cX3_leave 14 = .ok (.ifCond .ne 5, 3) := by decide +kernel
theorem dX3_leave_17 : decode cX3_leave 17 = .ok (.iconst 0, 1) := by decide +kernel
theorem dX3_leave_18 : decode cX3_leave 18 = .ok (.ireturn, 1) := by decide +kernel
theorem dX3_leave_19 : decode cX3_leave 19 = .ok (.aload_n 0, 1) := by decide +kernel
theorem dX3_leave_20 : decode cX3_leave 20 = .ok (.getfield 24, 3) := by decide +kernel
theorem dX3_leave_23 : decode cX3_leave 23 = .ok (.iload_n 1, 1) := by decide +kernel
theorem dX3_leave_24 : decode cX3_leave 24 = .ok (.iconst 1, 1) := by decide +kernel
theorem dX3_leave_25 : decode cX3_leave 25 = .ok (.bastore, 1) := by decide +kernel
theorem dX3_leave_26 : decode cX3_leave 26 = .ok (.aload_n 0, 1) := by decide +kernel
theorem dX3_leave_27 : decode cX3_leave 27 = .ok (.getfield 31, 3) := by decide +kernel
theorem dX3_leave_30 : decode cX3_leave 30 = .ok (.iload_n 1, 1) := by decide +kernel
theorem dX3_leave_31 : decode cX3_leave 31 = .ok (.aload_n 0, 1) := by decide +kernel
theorem dX3_leave_32 : decode cX3_leave 32 = .ok (.getfield 28, 3) := by decide +kernel
theorem dX3_leave_35 : decode cX3_leave 35 = .ok (.iload_n 1, 1) := by decide +kernel
theorem dX3_leave_36 : decode cX3_leave 36 = .ok (.iaload, 1) := by decide +kernel
theorem dX3_leave_37 : decode cX3_leave 37 = .ok (.iastore, 1) := by decide +kernel
theorem dX3_leave_38 : decode cX3_leave 38 = .ok (.aload_n 0, 1) := by decide +kernel
theorem dX3_leave_39 : decode cX3_leave 39 = .ok (.getfield 28, 3) := by decide +kernel
theorem dX3_leave_42 : decode cX3_leave 42 = .ok (.iload_n 1, 1) := by decide +kernel
theorem dX3_leave_43 : decode cX3_leave 43 = .ok (.iconst 0, 1) := by decide +kernel
theorem dX3_leave_44 : decode cX3_leave 44 = .ok (.iastore, 1) := by decide +kernel
theorem dX3_leave_45 : decode cX3_leave 45 = .ok (.aload_n 0, 1) := by decide +kernel
theorem dX3_leave_46 : decode cX3_leave 46 = .ok (.getfield 31, 3) := by decide +kernel
theorem dX3_leave_49 : decode cX3_leave 49 = .ok (.iload_n 1, 1) := by decide +kernel
theorem dX3_leave_50 : decode cX3_leave 50 = .ok (.iaload, 1) := by decide +kernel
theorem dX3_leave_51 : decode cX3_leave 51 = .ok (.ireturn, 1) := by decide +kernel
theorem dX3_money_0 : decode cX3_money 0 = .ok (.aload_n 0, 1) := by decide +kernel
theorem dX3_money_1 : decode cX3_money 1 = .ok (.aload_n 0, 1) := by decide +kernel
theorem dX3_money_2 : decode cX3_money 2 = .ok (.iload_n 1, 1) := by decide +kernel
theorem dX3_money_3 : decode cX3_money 3 = .ok (.invokevirtual 96, 3) := by decide +kernel
theorem dX3_money_6 : decode cX3_money 6 = .ok (.invokevirtual 92, 3) := by decide +kernel
theorem dX3_money_9 : decode cX3_money 9 = .ok (.ifCond .eq 12, 3) := by decide +kernel
theorem dX3_money_12 : decode cX3_money 12 = .ok (.aload_n 0, 1) := by decide +kernel
theorem dX3_money_13 : decode cX3_money 13 = .ok (.getfield 28, 3) := by decide +kernel
theorem dX3_money_16 : decode cX3_money 16 = .ok (.iload_n 1, 1) := by decide +kernel
theorem dX3_money_17 : decode cX3_money 17 = .ok (.iaload, 1) := by decide +kernel
theorem dX3_money_18 : decode cX3_money 18 = .ok (.goto 4, 3) := by decide +kernel
theorem dX3_money_21 : decode cX3_money 21 = .ok (.iconst 0, 1) := by decide +kernel
theorem dX3_money_22 : decode cX3_money 22 = .ok (.ireturn, 1) := by decide +kernel
theorem dX3_offerMonth_0 : decode cX3_offerMonth 0 = .ok (.aload_n 0, 1) := by decide +kernel
theorem dX3_offerMonth_1 : decode cX3_offerMonth 1 = .ok (.aload_n 0, 1) := by decide +kernel
theorem dX3_offerMonth_2 : decode cX3_offerMonth 2 = .ok (.iload_n 1, 1) := by decide +kernel
theorem dX3_offerMonth_3 : decode cX3_offerMonth 3 = .ok (.invokevirtual 96, 3) := by decide +kernel
theorem dX3_offerMonth_6 : decode cX3_offerMonth 6 = .ok (.invokevirtual 92, 3) := by decide +kernel
theorem dX3_offerMonth_9 : decode cX3_offerMonth 9 = .ok (.ifCond .eq 12, 3) := by decide +kernel
theorem dX3_offerMonth_12 : decode cX3_offerMonth 12 = .ok (.aload_n 0, 1) := by decide +kernel
theorem dX3_offerMonth_13 : decode cX3_offerMonth 13 = .ok (.getfield 41, 3) := by decide +kernel
theorem dX3_offerMonth_16 : decode cX3_offerMonth 16 = .ok (.iload_n 1, 1) := by decide +kernel
theorem dX3_offerMonth_17 : decode cX3_offerMonth 17 = .ok (.iaload, 1) := by decide +kernel
theorem dX3_offerMonth_18 : decode cX3_offerMonth 18 = .ok (.goto 4, 3) := by decide +kernel
theorem dX3_offerMonth_21 : decode cX3_offerMonth 21 = .ok (.iconst 0, 1) := by decide +kernel
theorem dX3_offerMonth_22 : decode cX3_offerMonth 22 = .ok (.ireturn, 1) := by decide +kernel
theorem dX3_offerPrice_0 : decode cX3_offerPrice 0 = .ok (.aload_n 0, 1) := by decide +kernel
theorem dX3_offerPrice_1 : decode cX3_offerPrice 1 = .ok (.aload_n 0, 1) := by decide +kernel
theorem dX3_offerPrice_2 : decode cX3_offerPrice 2 = .ok (.iload_n 1, 1) := by decide +kernel
theorem dX3_offerPrice_3 : decode cX3_offerPrice 3 = .ok (.invokevirtual 96, 3) := by decide +kernel
theorem dX3_offerPrice_6 : decode cX3_offerPrice 6 = .ok (.invokevirtual 92, 3) := by decide +kernel
theorem dX3_offerPrice_9 : decode cX3_offerPrice 9 = .ok (.ifCond .eq 17, 3) := by decide +kernel
theorem dX3_offerPrice_12 : decode cX3_offerPrice 12 = .ok (.aload_n 0, 1) := by decide +kernel
theorem dX3_offerPrice_13 : decode cX3_offerPrice 13 = .ok (.getfield 13, 3) := by decide +kernel
theorem dX3_offerPrice_16 : decode cX3_offerPrice 16 = .ok (.aload_n 0, 1) := by decide +kernel
theorem dX3_offerPrice_17 : decode cX3_offerPrice 17 = .ok (.getfield 41, 3) := by decide +kernel
theorem dX3_offerPrice_20 : decode cX3_offerPrice 20 = .ok (.iload_n 1, 1) := by decide +kernel
theorem dX3_offerPrice_21 : decode cX3_offerPrice 21 = .ok (.iaload, 1) := by decide +kernel
theorem dX3_offerPrice_22 : decode cX3_offerPrice 22 = .ok (.iaload, 1) := by decide +kernel
theorem dX3_offerPrice_23 : decode cX3_offerPrice 23 = .ok (.goto 4, 3) := by decide +kernel
theorem dX3_offerPrice_26 : decode cX3_offerPrice 26 = .ok (.iconst 0, 1) := by decide +kernel
theorem dX3_offerPrice_27 : decode cX3_offerPrice 27 = .ok (.ireturn, 1) := by decide +kernel
theorem dX3_resets_0 : decode cX3_resets 0 = .ok (.aload_n 0, 1) := by decide +kernel
theorem dX3_resets_1 : decode cX3_resets 1 = .ok (.aload_n 0, 1) := by decide +kernel
theorem dX3_resets_2 : decode cX3_resets 2 = .ok (.iload_n 1, 1) := by decide +kernel
theorem dX3_resets_3 : decode cX3_resets 3 = .ok (.invokevirtual 96, 3) := by decide +kernel
theorem dX3_resets_6 : decode cX3_resets 6 = .ok (.invokevirtual 92, 3) := by decide +kernel
theorem dX3_resets_9 : decode cX3_resets 9 = .ok (.ifCond .eq 12, 3) := by decide +kernel
theorem dX3_resets_12 : decode cX3_resets 12 = .ok (.aload_n 0, 1) := by decide +kernel
theorem dX3_resets_13 : decode cX3_resets 13 = .ok (.getfield 47, 3) := by decide +kernel
theorem dX3_resets_16 : decode cX3_resets 16 = .ok (.iload_n 1, 1) := by decide +kernel
end
section
theorem dX3_resets_17 : decode cX3_resets 17 = .ok (.iaload, 1) := by decide +kernel
theorem dX3_resets_18 : decode cX3_resets 18 = .ok (.goto 4, 3) := by decide +kernel
theorem dX3_resets_21 : decode cX3_resets 21 = .ok (.iconst 0, 1) := by decide +kernel
theorem dX3_resets_22 : decode cX3_resets 22 = .ok (.ireturn, 1) := by decide +kernel
theorem dX3_sharesOf_0 : decode cX3_sharesOf 0 = .ok (.iconst 0, 1) := by decide +kernel
theorem dX3_sharesOf_1 : decode cX3_sharesOf 1 = .ok (.istore_n 2, 1) := by decide +kernel
theorem dX3_sharesOf_2 : decode cX3_sharesOf 2 = .ok (.bipush 10, 2) := by decide +kernel
theorem dX3_sharesOf_4 : decode cX3_sharesOf 4 = .ok (.iload_n 1, 1) := by decide +kernel
theorem dX3_sharesOf_5 : decode cX3_sharesOf 5 = .ok (.imul, 1) := by decide +kernel
theorem dX3_sharesOf_6 : decode cX3_sharesOf 6 = .ok (.istore_n 3, 1) := by decide +kernel
theorem dX3_sharesOf_7 : decode cX3_sharesOf 7 = .ok (.iload_n 3, 1) := by decide +kernel
theorem dX3_sharesOf_8 : decode cX3_sharesOf 8 = .ok (.bipush 10, 2) := by decide +kernel
theorem dX3_sharesOf_10 : decode cX3_sharesOf 10 = .ok (.iload_n 1, 1) := by decide +kernel
theorem dX3_sharesOf_11 : decode cX3_sharesOf 11 = .ok (.imul, 1) := by decide +kernel
theorem dX3_sharesOf_12 : decode cX3_sharesOf 12 = .ok (.bipush 10, 2) := by decide +kernel
theorem dX3_sharesOf_14 : decode cX3_sharesOf 14 = .ok (.iadd, 1) := by decide +kernel
theorem dX3_sharesOf_15 : decode cX3_sharesOf 15 = .ok (.if_icmp .ge 18, 3) := by decide +kernel
theorem dX3_sharesOf_18 : decode cX3_sharesOf 18 = .ok (.iload_n 2, 1) := by decide +kernel
theorem dX3_sharesOf_19 : decode cX3_sharesOf 19 = .ok (.aload_n 0, 1) := by decide +kernel
theorem dX3_sharesOf_20 : decode cX3_sharesOf 20 = .ok (.getfield 59, 3) := by decide +kernel
theorem dX3_sharesOf_23 : decode cX3_sharesOf 23 = .ok (.iload_n 3, 1) := by decide +kernel
theorem dX3_sharesOf_24 : decode cX3_sharesOf 24 = .ok (.iaload, 1) := by decide +kernel
theorem dX3_sharesOf_25 : decode cX3_sharesOf 25 = .ok (.iadd, 1) := by decide +kernel
theorem dX3_sharesOf_26 : decode cX3_sharesOf 26 = .ok (.istore_n 2, 1) := by decide +kernel
theorem dX3_sharesOf_27 : decode cX3_sharesOf 27 = .ok (.iinc 3 1, 3) := by decide +kernel
theorem dX3_sharesOf_30 : decode cX3_sharesOf 30 = .ok (.goto (-23), 3) := by decide +kernel
theorem dX3_sharesOf_33 : decode cX3_sharesOf 33 = .ok (.iload_n 2, 1) := by decide +kernel
theorem dX3_sharesOf_34 : decode cX3_sharesOf 34 = .ok (.ireturn, 1) := by decide +kernel
theorem dX3_shares_0 : decode cX3_shares 0 = .ok (.aload_n 0, 1) := by decide +kernel
theorem dX3_shares_1 : decode cX3_shares 1 = .ok (.aload_n 0, 1) := by decide +kernel
theorem dX3_shares_2 : decode cX3_shares 2 = .ok (.iload_n 1, 1) := by decide +kernel
theorem dX3_shares_3 : decode cX3_shares 3 = .ok (.invokevirtual 96, 3) := by decide +kernel
theorem dX3_shares_6 : decode cX3_shares 6 = .ok (.invokevirtual 92, 3) := by decide +kernel
theorem dX3_shares_9 : decode cX3_shares 9 = .ok (.ifCond .eq 11, 3) := by decide +kernel
theorem dX3_shares_12 : decode cX3_shares 12 = .ok (.aload_n 0, 1) := by decide +kernel
theorem dX3_shares_13 : decode cX3_shares 13 = .ok (.iload_n 1, 1) := by decide +kernel
theorem dX3_shares_14 : decode cX3_shares 14 = .ok (.invokevirtual 108, 3) := by decide +kernel
theorem dX3_shares_17 : decode cX3_shares 17 = .ok (.goto 4, 3) := by decide +kernel
theorem dX3_shares_20 : decode cX3_shares 20 = .ok (.iconst 0, 1) := by decide +kernel
theorem dX3_shares_21 : decode cX3_shares 21 = .ok (.ireturn, 1) := by decide +kernel
theorem dX3_bought_0 : decode cX3_bought 0 = .ok (.aload_n 0, 1) := by decide +kernel
theorem dX3_bought_1 : decode cX3_bought 1 = .ok (.aload_n 0, 1) := by decide +kernel
theorem dX3_bought_2 : decode cX3_bought 2 = .ok (.iload_n 1, 1) := by decide +kernel
theorem dX3_bought_3 : decode cX3_bought 3 = .ok (.invokevirtual 96, 3) := by decide +kernel
theorem dX3_bought_6 : decode cX3_bought 6 = .ok (.ifCond .eq 17, 3) := by decide +kernel
theorem dX3_bought_9 : decode cX3_bought 9 = .ok (.iload_n 2, 1) := by decide +kernel
theorem dX3_bought_10 : decode cX3_bought 10 = .ok (.iconst 0, 1) := by decide +kernel
theorem dX3_bought_11 : decode cX3_bought 11 = .ok (.bipush 59, 2) := by decide +kernel
theorem dX3_bought_13 : decode cX3_bought 13 = .ok (.invokestatic 74, 3) := by decide +kernel
theorem dX3_bought_16 : decode cX3_bought 16 = .ok (.ifCond .eq 7, 3) := by decide +kernel
theorem dX3_bought_19 : decode cX3_bought 19 = .ok (.iconst 1, 1) := by decide +kernel
theorem dX3_bought_20 : decode cX3_bought 20 = .ok (.goto 4, 3) := by decide +kernel
theorem dX3_bought_23 : decode cX3_bought 23 = .ok (.iconst 0, 1) := by decide +kernel
theorem dX3_bought_24 : decode cX3_bought 24 = .ok (.invokevirtual 92, 3) := by decide +kernel
theorem dX3_bought_27 : decode cX3_bought 27 = .ok (.ifCond .ne 5, 3) := by decide +kernel
theorem dX3_bought_30 : decode cX3_bought 30 = .ok (.iconst 0, 1) := by decide +kernel
theorem dX3_bought_31 : decode cX3_bought 31 = .ok (.ireturn, 1) := by decide +kernel
theorem dX3_bought_32 : decode cX3_bought 32 = .ok (.iload_n 2, 1) := by decide +kernel
theorem dX3_bought_33 : decode cX3_bought 33 = .ok (.bipush 6, 2) := by decide +kernel
theorem dX3_bought_35 : decode cX3_bought 35 = .ok (.irem, 1) := by decide +kernel
theorem dX3_bought_36 : decode cX3_bought 36 = .ok (.iconst 5, 1) := by decide +kernel
theorem dX3_bought_37 : decode cX3_bought 37 = .ok (.if_icmp .ne 20, 3) := by decide +kernel
theorem dX3_bought_40 : decode cX3_bought 40 = .ok (.aload_n 0, 1) := by decide +kernel
theorem dX3_bought_41 : decode cX3_bought 41 = .ok (.getfield 56, 3) := by decide +kernel
theorem dX3_bought_44 : decode cX3_bought 44 = .ok (.bipush 10, 2) := by decide +kernel
theorem dX3_bought_46 : decode cX3_bought 46 = .ok (.iload_n 1, 1) := by decide +kernel
theorem dX3_bought_47 : decode cX3_bought 47 = .ok (.imul, 1) := by decide +kernel
theorem dX3_bought_48 : decode cX3_bought 48 = .ok (.iload_n 2, 1) := by decide +kernel
theorem dX3_bought_49 : decode cX3_bought 49 = .ok (.bipush 6, 2) := by decide +kernel
theorem dX3_bought_51 : decode cX3_bought 51 = .ok (.idiv, 1) := by decide +kernel
theorem dX3_bought_52 : decode cX3_bought 52 = .ok (.iadd, 1) := by decide +kernel
theorem dX3_bought_53 : decode cX3_bought 53 = .ok (.iaload, 1) := by decide +kernel
theorem dX3_bought_54 : decode cX3_bought 54 = .ok (.goto 4, 3) := by decide +kernel
theorem dX3_bought_57 : decode cX3_bought 57 = .ok (.iconst 0, 1) := by decide +kernel
theorem dX3_bought_58 : decode cX3_bought 58 = .ok (.ireturn, 1) := by decide +kernel
theorem dX3_paidEach_0 : decode cX3_paidEach 0 = .ok (.aload_n 0, 1) := by decide +kernel
theorem dX3_paidEach_1 : decode cX3_paidEach 1 = .ok (.aload_n 0, 1) := by decide +kernel
theorem dX3_paidEach_2 : decode cX3_paidEach 2 = .ok (.iload_n 1, 1) := by decide +kernel
theorem dX3_paidEach_3 : decode cX3_paidEach 3 = .ok (.invokevirtual 96, 3) := by decide +kernel
theorem dX3_paidEach_6 : decode cX3_paidEach 6 = .ok (.ifCond .eq 17, 3) := by decide +kernel
theorem dX3_paidEach_9 : decode cX3_paidEach 9 = .ok (.iload_n 2, 1) := by decide +kernel
theorem dX3_paidEach_10 : decode cX3_paidEach 10 = .ok (.iconst 0, 1) := by decide +kernel
theorem dX3_paidEach_11 : decode cX3_paidEach 11 = .ok (.bipush 59, 2) := by decide +kernel
theorem dX3_paidEach_13 : decode cX3_paidEach 13 = .ok (.invokestatic 74, 3) := by decide +kernel
theorem dX3_paidEach_16 : decode cX3_paidEach 16 = .ok (.ifCond .eq 7, 3) := by decide +kernel
theorem dX3_paidEach_19 : decode cX3_paidEach 19 = .ok (.iconst 1, 1) := by decide +kernel
theorem dX3_paidEach_20 : decode cX3_paidEach 20 = .ok (.goto 4, 3) := by decide +kernel
theorem dX3_paidEach_23 : decode cX3_paidEach 23 = .ok (.iconst 0, 1) := by decide +kernel
theorem dX3_paidEach_24 : decode cX3_paidEach 24 = .ok (.invokevirtual 92, 3) := by decide +kernel
theorem dX3_paidEach_27 : decode cX3_paidEach 27 = .ok (.ifCond .ne 5, 3) := by decide +kernel
theorem dX3_paidEach_30 : decode cX3_paidEach 30 = .ok (.iconst 0, 1) := by decide +kernel
theorem dX3_paidEach_31 : decode cX3_paidEach 31 = .ok (.ireturn, 1) := by decide +kernel
theorem dX3_paidEach_32 : decode cX3_paidEach 32 = .ok (.iload_n 2, 1) := by decide +kernel
theorem dX3_paidEach_33 : decode cX3_paidEach 33 = .ok (.bipush 6, 2) := by decide +kernel
theorem dX3_paidEach_35 : decode cX3_paidEach 35 = .ok (.irem, 1) := by decide +kernel
theorem dX3_paidEach_36 : decode cX3_paidEach 36 = .ok (.iconst 5, 1) := by decide +kernel
theorem dX3_paidEach_37 : decode cX3_paidEach 37 = .ok (.if_icmp .ne 37, 3) := by decide +kernel
theorem dX3_paidEach_40 : decode cX3_paidEach 40 = .ok (.aload_n 0, 1) := by decide +kernel
theorem dX3_paidEach_41 : decode cX3_paidEach 41 = .ok (.getfield 56, 3) := by decide +kernel
theorem dX3_paidEach_44 : decode cX3_paidEach 44 = .ok (.bipush 10, 2) := by decide +kernel
theorem dX3_paidEach_46 : decode cX3_paidEach 46 = .ok (.iload_n 1, 1) := by decide +kernel
theorem dX3_paidEach_47 : decode cX3_paidEach 47 = .ok (.imul, 1) := by decide +kernel
theorem dX3_paidEach_48 : decode cX3_paidEach 48 = .ok (.iload_n 2, 1) := by decide +kernel
theorem dX3_paidEach_49 : decode cX3_paidEach 49 = .ok (.bipush 6, 2) := by decide +kernel
theorem dX3_paidEach_51 : decode cX3_paidEach 51 = .ok (.idiv, 1) := by decide +kernel
theorem dX3_paidEach_52 : decode cX3_paidEach 52 = .ok (.iadd, 1) := by decide +kernel
theorem dX3_paidEach_53 : decode cX3_paidEach 53 = .ok (.iaload, 1) := by decide +kernel
theorem dX3_paidEach_54 : decode cX3_paidEach 54 = .ok (.ifCond .le 20, 3) := by decide +kernel
theorem dX3_paidEach_57 : decode cX3_paidEach 57 = .ok (.aload_n 0, 1) := by decide +kernel
theorem dX3_paidEach_58 : decode cX3_paidEach 58 = .ok (.getfield 62, 3) := by decide +kernel
theorem dX3_paidEach_61 : decode cX3_paidEach 61 = .ok (.bipush 10, 2) := by decide +kernel
theorem dX3_paidEach_63 : decode cX3_paidEach 63 = .ok (.iload_n 1, 1) := by decide +kernel
theorem dX3_paidEach_64 : decode cX3_paidEach 64 = .ok (.imul, 1) := by decide +kernel
theorem dX3_paidEach_65 : decode cX3_paidEach 65 = .ok (.iload_n 2, 1) := by decide +kernel
theorem dX3_paidEach_66 : decode cX3_paidEach 66 = .ok (.bipush 6, 2) := by decide +kernel
theorem dX3_paidEach_68 : decode cX3_paidEach 68 = .ok (.idiv, 1) := by decide +kernel
theorem dX3_paidEach_69 : decode cX3_paidEach 69 = .ok (.iadd, 1) := by decide +kernel
theorem dX3_paidEach_70 : decode cX3_paidEach 70 = .ok (.iaload, 1) := by decide +kernel
theorem dX3_paidEach_71 : decode cX3_paidEach 71 = .ok (.goto 4, 3) := by decide +kernel
theorem dX3_paidEach_74 : decode cX3_paidEach 74 = .ok (.iconst (-1), 1) := by decide +kernel
theorem dX3_paidEach_75 : decode cX3_paidEach 75 = .ok (.ireturn, 1) := by decide +kernel
theorem dX3_counted_0 : decode cX3_counted 0 = .ok (.aload_n 0, 1) := by decide +kernel
theorem dX3_counted_1 : decode cX3_counted 1 = .ok (.aload_n 0, 1) := by decide +kernel
theorem dX3_counted_2 : decode cX3_counted 2 = .ok (.iload_n 1, 1) := by decide +kernel
theorem dX3_counted_3 : decode cX3_counted 3 = .ok (.invokevirtual 96, 3) := by decide +kernel
theorem dX3_counted_6 : decode cX3_counted 6 = .ok (.ifCond .eq 16, 3) := by decide +kernel
theorem dX3_counted_9 : decode cX3_counted 9 = .ok (.iload_n 2, 1) := by decide +kernel
theorem dX3_counted_10 : decode cX3_counted 10 = .ok (.iconst 0, 1) := by decide +kernel
theorem dX3_counted_11 : decode cX3_counted 11 = .ok (.iconst 4, 1) := by decide +kernel
theorem dX3_counted_12 : decode cX3_counted 12 = .ok (.invokestatic 74, 3) := by decide +kernel
theorem dX3_counted_15 : decode cX3_counted 15 = .ok (.ifCond .eq 7, 3) := by decide +kernel
theorem dX3_counted_18 : decode cX3_counted 18 = .ok (.iconst 1, 1) := by decide +kernel
theorem dX3_counted_19 : decode cX3_counted 19 = .ok (.goto 4, 3) := by decide +kernel
theorem dX3_counted_22 : decode cX3_counted 22 = .ok (.iconst 0, 1) := by decide +kernel
theorem dX3_counted_23 : decode cX3_counted 23 = .ok (.invokevirtual 92, 3) := by decide +kernel
theorem dX3_counted_26 : decode cX3_counted 26 = .ok (.ifCond .eq 12, 3) := by decide +kernel
theorem dX3_counted_29 : decode cX3_counted 29 = .ok (.aload_n 0, 1) := by decide +kernel
theorem dX3_counted_30 : decode cX3_counted 30 = .ok (.iload_n 1, 1) := by decide +kernel
theorem dX3_counted_31 : decode cX3_counted 31 = .ok (.iload_n 2, 1) := by decide +kernel
theorem dX3_counted_32 : decode cX3_counted 32 = .ok (.invokevirtual 78, 3) := by decide +kernel
theorem dX3_counted_35 : decode cX3_counted 35 = .ok (.goto 4, 3) := by decide +kernel
theorem dX3_counted_38 : decode cX3_counted 38 = .ok (.lconst 0, 1) := by decide +kernel
theorem dX3_counted_39 : decode cX3_counted 39 = .ok (.lreturn, 1) := by decide +kernel
theorem dX3_traced_0 : decode cX3_traced 0 = .ok (.aload_n 0, 1) := by decide +kernel
theorem dX3_traced_1 : decode cX3_traced 1 = .ok (.aload_n 0, 1) := by decide +kernel
theorem dX3_traced_2 : decode cX3_traced 2 = .ok (.iload_n 1, 1) := by decide +kernel
theorem dX3_traced_3 : decode cX3_traced 3 = .ok (.invokevirtual 96, 3) := by decide +kernel
theorem dX3_traced_6 : decode cX3_traced 6 = .ok (.invokevirtual 92, 3) := by decide +kernel
theorem dX3_traced_9 : decode cX3_traced 9 = .ok (.ifCond .eq 28, 3) := by decide +kernel
theorem dX3_traced_12 : decode cX3_traced 12 = .ok (.aload_n 0, 1) := by decide +kernel
theorem dX3_traced_13 : decode cX3_traced 13 = .ok (.getfield 34, 3) := by decide +kernel
theorem dX3_traced_16 : decode cX3_traced 16 = .ok (.iload_n 1, 1) := by decide +kernel
theorem dX3_traced_17 : decode cX3_traced 17 = .ok (.laload, 1) := by decide +kernel
theorem dX3_traced_18 : decode cX3_traced 18 = .ok (.aload_n 0, 1) := by decide +kernel
theorem dX3_traced_19 : decode cX3_traced 19 = .ok (.getfield 28, 3) := by decide +kernel
theorem dX3_traced_22 : decode cX3_traced 22 = .ok (.iload_n 1, 1) := by decide +kernel
theorem dX3_traced_23 : decode cX3_traced 23 = .ok (.iaload, 1) := by decide +kernel
theorem dX3_traced_24 : decode cX3_traced 24 = .ok (.i2l, 1) := by decide +kernel
theorem dX3_traced_25 : decode cX3_traced 25 = .ok (.ladd, 1) := by decide +kernel
theorem dX3_traced_26 : decode cX3_traced 26 = .ok (.aload_n 0, 1) := by decide +kernel
theorem dX3_traced_27 : decode cX3_traced 27 = .ok (.getfield 31, 3) := by decide +kernel
theorem dX3_traced_30 : decode cX3_traced 30 = .ok (.iload_n 1, 1) := by decide +kernel
theorem dX3_traced_31 : decode cX3_traced 31 = .ok (.iaload, 1) := by decide +kernel
theorem dX3_traced_32 : decode cX3_traced 32 = .ok (.i2l, 1) := by decide +kernel
theorem dX3_traced_33 : decode cX3_traced 33 = .ok (.ladd, 1) := by decide +kernel
theorem dX3_traced_34 : decode cX3_traced 34 = .ok (.goto 4, 3) := by decide +kernel
theorem dX3_traced_37 : decode cX3_traced 37 = .ok (.lconst 0, 1) := by decide +kernel
theorem dX3_traced_38 : decode cX3_traced 38 = .ok (.lreturn, 1) := by decide +kernel
theorem dX3_kept_0 : decode cX3_kept 0 = .ok (.aload_n 0, 1) := by decide +kernel
theorem dX3_kept_1 : decode cX3_kept 1 = .ok (.aload_n 0, 1) := by decide +kernel
theorem dX3_kept_2 : decode cX3_kept 2 = .ok (.iload_n 1, 1) := by decide +kernel
theorem dX3_kept_3 : decode cX3_kept 3 = .ok (.invokevirtual 96, 3) := by decide +kernel
theorem dX3_kept_6 : decode cX3_kept 6 = .ok (.invokevirtual 92, 3) := by decide +kernel
theorem dX3_kept_9 : decode cX3_kept 9 = .ok (.ifCond .eq 12, 3) := by decide +kernel
theorem dX3_kept_12 : decode cX3_kept 12 = .ok (.aload_n 0, 1) := by decide +kernel
theorem dX3_kept_13 : decode cX3_kept 13 = .ok (.getfield 38, 3) := by decide +kernel
theorem dX3_kept_16 : decode cX3_kept 16 = .ok (.iload_n 1, 1) := by decide +kernel
theorem dX3_kept_17 : decode cX3_kept 17 = .ok (.laload, 1) := by decide +kernel
theorem dX3_kept_18 : decode cX3_kept 18 = .ok (.goto 4, 3) := by decide +kernel
theorem dX3_kept_21 : decode cX3_kept 21 = .ok (.lconst 0, 1) := by decide +kernel
theorem dX3_kept_22 : decode cX3_kept 22 = .ok (.lreturn, 1) := by decide +kernel
theorem dX3_isEarly_0 : decode cX3_isEarly 0 = .ok (.aload_n 0, 1) := by decide +kernel
theorem dX3_isEarly_1 : decode cX3_isEarly 1 = .ok (.getfield 9, 3) := by decide +kernel
theorem dX3_isEarly_4 : decode cX3_isEarly 4 = .ok (.aload_n 0, 1) := by decide +kernel
theorem dX3_isEarly_5 : decode cX3_isEarly 5 = .ok (.getfield 65, 3) := by decide +kernel
theorem dX3_isEarly_8 : decode cX3_isEarly 8 = .ok (.iload_n 1, 1) := by decide +kernel
theorem dX3_isEarly_9 : decode cX3_isEarly 9 = .ok (.iaload, 1) := by decide +kernel
theorem dX3_isEarly_10 : decode cX3_isEarly 10 = .ok (.isub, 1) := by decide +kernel
theorem dX3_isEarly_11 : decode cX3_isEarly 11 = .ok (.bipush 24, 2) := by decide +kernel
theorem dX3_isEarly_13 : decode cX3_isEarly 13 = .ok (.if_icmp .lt 22, 3) := by decide +kernel
theorem dX3_isEarly_16 : decode cX3_isEarly 16 = .ok (.aload_n 0, 1) := by decide +kernel
theorem dX3_isEarly_17 : decode cX3_isEarly 17 = .ok (.getfield 9, 3) := by decide +kernel
theorem dX3_isEarly_20 : decode cX3_isEarly 20 = .ok (.bipush 6, 2) := by decide +kernel
theorem dX3_isEarly_22 : decode cX3_isEarly 22 = .ok (.iload_n 1, 1) := by decide +kernel
theorem dX3_isEarly_23 : decode cX3_isEarly 23 = .ok (.bipush 10, 2) := by decide +kernel
theorem dX3_isEarly_25 : decode cX3_isEarly 25 = .ok (.irem, 1) := by decide +kernel
theorem dX3_isEarly_26 : decode cX3_isEarly 26 = .ok (.imul, 1) := by decide +kernel
theorem dX3_isEarly_27 : decode cX3_isEarly 27 = .ok (.iconst 5, 1) := by decide +kernel
theorem dX3_isEarly_28 : decode cX3_isEarly 28 = .ok (.iadd, 1) := by decide +kernel
theorem dX3_isEarly_29 : decode cX3_isEarly 29 = .ok (.isub, 1) := by decide +kernel
theorem dX3_isEarly_30 : decode cX3_isEarly 30 = .ok (.bipush 12, 2) := by decide +kernel
theorem dX3_isEarly_32 : decode cX3_isEarly 32 = .ok (.if_icmp .ge 7, 3) := by decide +kernel
theorem dX3_isEarly_35 : decode cX3_isEarly 35 = .ok (.iconst 1, 1) := by decide +kernel
theorem dX3_isEarly_36 : decode cX3_isEarly 36 = .ok (.goto 4, 3) := by decide +kernel
theorem dX3_isEarly_39 : decode cX3_isEarly 39 = .ok (.iconst 0, 1) := by decide +kernel
theorem dX3_isEarly_40 : decode cX3_isEarly 40 = .ok (.ireturn, 1) := by decide +kernel
theorem dX3_payOf_0 : decode cX3_payOf 0 = .ok (.aload_n 0, 1) := by decide +kernel
theorem dX3_payOf_1 : decode cX3_payOf 1 = .ok (.iload_n 1, 1) := by decide +kernel
theorem dX3_payOf_2 : decode cX3_payOf 2 = .ok (.invokevirtual 112, 3) := by decide +kernel
theorem dX3_payOf_5 : decode cX3_payOf 5 = .ok (.ifCond .eq 25, 3) := by decide +kernel
theorem dX3_payOf_8 : decode cX3_payOf 8 = .ok (.aload_n 0, 1) := by decide +kernel
theorem dX3_payOf_9 : decode cX3_payOf 9 = .ok (.getfield 13, 3) := by decide +kernel
theorem dX3_payOf_12 : decode cX3_payOf 12 = .ok (.bipush 6, 2) := by decide +kernel
theorem dX3_payOf_14 : decode cX3_payOf 14 = .ok (.iload_n 1, 1) := by decide +kernel
theorem dX3_payOf_15 : decode cX3_payOf 15 = .ok (.bipush 10, 2) := by decide +kernel
theorem dX3_payOf_17 : decode cX3_payOf 17 = .ok (.irem, 1) := by decide +kernel
theorem dX3_payOf_18 : decode cX3_payOf 18 = .ok (.imul, 1) := by decide +kernel
theorem dX3_payOf_19 : decode cX3_payOf 19 = .ok (.iconst 5, 1) := by decide +kernel
theorem dX3_payOf_20 : decode cX3_payOf 20 = .ok (.iadd, 1) := by decide +kernel
theorem dX3_payOf_21 : decode cX3_payOf 21 = .ok (.iaload, 1) := by decide +kernel
theorem dX3_payOf_22 : decode cX3_payOf 22 = .ok (.aload_n 0, 1) := by decide +kernel
theorem dX3_payOf_23 : decode cX3_payOf 23 = .ok (.getfield 62, 3) := by decide +kernel
theorem dX3_payOf_26 : decode cX3_payOf 26 = .ok (.iload_n 1, 1) := by decide +kernel
theorem dX3_payOf_27 : decode cX3_payOf 27 = .ok (.iaload, 1) := by decide +kernel
theorem dX3_payOf_28 : decode cX3_payOf 28 = .ok (.isub, 1) := by decide +kernel
theorem dX3_payOf_29 : decode cX3_payOf 29 = .ok (.ireturn, 1) := by decide +kernel
theorem dX3_payOf_30 : decode cX3_payOf 30 = .ok (.aload_n 0, 1) := by decide +kernel
theorem dX3_payOf_31 : decode cX3_payOf 31 = .ok (.getfield 13, 3) := by decide +kernel
theorem dX3_payOf_34 : decode cX3_payOf 34 = .ok (.aload_n 0, 1) := by decide +kernel
theorem dX3_payOf_35 : decode cX3_payOf 35 = .ok (.getfield 9, 3) := by decide +kernel
theorem dX3_payOf_38 : decode cX3_payOf 38 = .ok (.iaload, 1) := by decide +kernel
theorem dX3_payOf_39 : decode cX3_payOf 39 = .ok (.aload_n 0, 1) := by decide +kernel
theorem dX3_payOf_40 : decode cX3_payOf 40 = .ok (.getfield 62, 3) := by decide +kernel
theorem dX3_payOf_43 : decode cX3_payOf 43 = .ok (.iload_n 1, 1) := by decide +kernel
theorem dX3_payOf_44 : decode cX3_payOf 44 = .ok (.iaload, 1) := by decide +kernel
theorem dX3_payOf_45 : decode cX3_payOf 45 = .ok (.isub, 1) := by decide +kernel
theorem dX3_payOf_46 : decode cX3_payOf 46 = .ok (.istore_n 2, 1) := by decide +kernel
theorem dX3_payOf_47 : decode cX3_payOf 47 = .ok (.bipush 15, 2) := by decide +kernel
theorem dX3_payOf_49 : decode cX3_payOf 49 = .ok (.aload_n 0, 1) := by decide +kernel
theorem dX3_payOf_50 : decode cX3_payOf 50 = .ok (.getfield 13, 3) := by decide +kernel
theorem dX3_payOf_53 : decode cX3_payOf 53 = .ok (.aload_n 0, 1) := by decide +kernel
theorem dX3_payOf_54 : decode cX3_payOf 54 = .ok (.getfield 65, 3) := by decide +kernel
theorem dX3_payOf_57 : decode cX3_payOf 57 = .ok (.iload_n 1, 1) := by decide +kernel
theorem dX3_payOf_58 : decode cX3_payOf 58 = .ok (.iaload, 1) := by decide +kernel
theorem dX3_payOf_59 : decode cX3_payOf 59 = .ok (.iaload, 1) := by decide +kernel
theorem dX3_payOf_60 : decode cX3_payOf 60 = .ok (.imul, 1) := by decide +kernel
theorem dX3_payOf_61 : decode cX3_payOf 61 = .ok (.bipush 100, 2) := by decide +kernel
theorem dX3_payOf_63 : decode cX3_payOf 63 = .ok (.idiv, 1) := by decide +kernel
theorem dX3_payOf_64 : decode cX3_payOf 64 = .ok (.istore_n 3, 1) := by decide +kernel
theorem dX3_payOf_65 : decode cX3_payOf 65 = .ok (.iload_n 3, 1) := by decide +kernel
theorem dX3_payOf_66 : decode cX3_payOf 66 = .ok (.iload_n 2, 1) := by decide +kernel
theorem dX3_payOf_67 : decode cX3_payOf 67 = .ok (.if_icmp .ge 7, 3) := by decide +kernel
theorem dX3_payOf_70 : decode cX3_payOf 70 = .ok (.iload_n 3, 1) := by decide +kernel
theorem dX3_payOf_71 : decode cX3_payOf 71 = .ok (.goto 4, 3) := by decide +kernel
theorem dX3_payOf_74 : decode cX3_payOf 74 = .ok (.iload_n 2, 1) := by decide +kernel
theorem dX3_payOf_75 : decode cX3_payOf 75 = .ok (.istore 4, 2) := by decide +kernel
theorem dX3_payOf_77 : decode cX3_payOf 77 = .ok (.iload 4, 2) := by decide +kernel
theorem dX3_payOf_79 : decode cX3_payOf 79 = .ok (.ifCond .ge 7, 3) := by decide +kernel
theorem dX3_payOf_82 : decode cX3_payOf 82 = .ok (.iconst 0, 1) := by decide +kernel
theorem dX3_payOf_83 : decode cX3_payOf 83 = .ok (.goto 5, 3) := by decide +kernel
theorem dX3_payOf_86 : decode cX3_payOf 86 = .ok (.iload 4, 2) := by decide +kernel
theorem dX3_payOf_88 : decode cX3_payOf 88 = .ok (.ireturn, 1) := by decide +kernel
theorem dX3_gainOf_0 : decode cX3_gainOf 0 = .ok (.iload_n 2, 1) := by decide +kernel
theorem dX3_gainOf_1 : decode cX3_gainOf 1 = .ok (.i2l, 1) := by decide +kernel
theorem dX3_gainOf_2 : decode cX3_gainOf 2 = .ok (.aload_n 0, 1) := by decide +kernel
theorem dX3_gainOf_3 : decode cX3_gainOf 3 = .ok (.getfield 13, 3) := by decide +kernel
theorem dX3_gainOf_6 : decode cX3_gainOf 6 = .ok (.aload_n 0, 1) := by decide +kernel
theorem dX3_gainOf_7 : decode cX3_gainOf 7 = .ok (.getfield 9, 3) := by decide +kernel
theorem dX3_gainOf_10 : decode cX3_gainOf 10 = .ok (.iaload, 1) := by decide +kernel
theorem dX3_gainOf_11 : decode cX3_gainOf 11 = .ok (.aload_n 0, 1) := by decide +kernel
theorem dX3_gainOf_12 : decode cX3_gainOf 12 = .ok (.getfield 62, 3) := by decide +kernel
theorem dX3_gainOf_15 : decode cX3_gainOf 15 = .ok (.iload_n 1, 1) := by decide +kernel
theorem dX3_gainOf_16 : decode cX3_gainOf 16 = .ok (.iaload, 1) := by decide +kernel
theorem dX3_gainOf_17 : decode cX3_gainOf 17 = .ok (.isub, 1) := by decide +kernel
theorem dX3_gainOf_18 : decode cX3_gainOf 18 = .ok (.aload_n 0, 1) := by decide +kernel
theorem dX3_gainOf_19 : decode cX3_gainOf 19 = .ok (.iload_n 1, 1) := by decide +kernel
theorem dX3_gainOf_20 : decode cX3_gainOf 20 = .ok (.invokevirtual 115, 3) := by decide +kernel
theorem dX3_gainOf_23 : decode cX3_gainOf 23 = .ok (.isub, 1) := by decide +kernel
theorem dX3_gainOf_24 : decode cX3_gainOf 24 = .ok (.i2l, 1) := by decide +kernel
theorem dX3_gainOf_25 : decode cX3_gainOf 25 = .ok (.lmul, 1) := by decide +kernel
theorem dX3_gainOf_26 : decode cX3_gainOf 26 = .ok (.lreturn, 1) := by decide +kernel
theorem dX3_sell_0 : decode cX3_sell 0 = .ok (.aload_n 0, 1) := by decide +kernel
theorem dX3_sell_1 : decode cX3_sell 1 = .ok (.iload_n 1, 1) := by decide +kernel
theorem dX3_sell_2 : decode cX3_sell 2 = .ok (.invokevirtual 96, 3) := by decide +kernel
theorem dX3_sell_5 : decode cX3_sell 5 = .ok (.istore_n 3, 1) := by decide +kernel
theorem dX3_sell_6 : decode cX3_sell 6 = .ok (.aload_n 0, 1) := by decide +kernel
theorem dX3_sell_7 : decode cX3_sell 7 = .ok (.iload_n 3, 1) := by decide +kernel
theorem dX3_sell_8 : decode cX3_sell 8 = .ok (.iload_n 2, 1) := by decide +kernel
theorem dX3_sell_9 : decode cX3_sell 9 = .ok (.iconst 1, 1) := by decide +kernel
theorem dX3_sell_10 : decode cX3_sell 10 = .ok (.ldc 118, 2) := by decide +kernel
theorem dX3_sell_12 : decode cX3_sell 12 = .ok (.invokestatic 74, 3) := by decide +kernel
theorem dX3_sell_15 : decode cX3_sell 15 = .ok (.iload_n 3, 1) := by decide +kernel
theorem dX3_sell_16 : decode cX3_sell 16 = .ok (.ifCond .eq 16, 3) := by decide +kernel
theorem dX3_sell_19 : decode cX3_sell 19 = .ok (.aload_n 0, 1) := by decide +kernel
theorem dX3_sell_20 : decode cX3_sell 20 = .ok (.iload_n 1, 1) := by decide +kernel
theorem dX3_sell_21 : decode cX3_sell 21 = .ok (.invokevirtual 108, 3) := by decide +kernel
theorem dX3_sell_24 : decode cX3_sell 24 = .ok (.iload_n 2, 1) := by decide +kernel
theorem dX3_sell_25 : decode cX3_sell 25 = .ok (.if_icmp .lt 7, 3) := by decide +kernel
theorem dX3_sell_28 : decode cX3_sell 28 = .ok (.iconst 1, 1) := by decide +kernel
theorem dX3_sell_29 : decode cX3_sell 29 = .ok (.goto 4, 3) := by decide +kernel
theorem dX3_sell_32 : decode cX3_sell 32 = .ok (.iconst 0, 1) := by decide +kernel
theorem dX3_sell_33 : decode cX3_sell 33 = .ok (.invokevirtual 103, 3) := by decide +kernel
theorem dX3_sell_36 : decode cX3_sell 36 = .ok (.ifCond .ne 5, 3) := by decide +kernel
theorem dX3_sell_39 : decode cX3_sell 39 = .ok (.iconst 0, 1) := by decide +kernel
theorem dX3_sell_40 : decode cX3_sell 40 = .ok (.ireturn, 1) := by decide +kernel
theorem dX3_sell_41 : decode cX3_sell 41 = .ok (.iload_n 2, 1) := by decide +kernel
theorem dX3_sell_42 : decode cX3_sell 42 = .ok (.istore 4, 2) := by decide +kernel
theorem dX3_sell_44 : decode cX3_sell 44 = .ok (.iconst 0, 1) := by decide +kernel
theorem dX3_sell_45 : decode cX3_sell 45 = .ok (.istore 5, 2) := by decide +kernel
theorem dX3_sell_47 : decode cX3_sell 47 = .ok (.bipush 10, 2) := by decide +kernel
theorem dX3_sell_49 : decode cX3_sell 49 = .ok (.iload_n 1, 1) := by decide +kernel
theorem dX3_sell_50 : decode cX3_sell 50 = .ok (.imul, 1) := by decide +kernel
theorem dX3_sell_51 : decode cX3_sell 51 = .ok (.istore 6, 2) := by decide +kernel
theorem dX3_sell_53 : decode cX3_sell 53 = .ok (.iload 6, 2) := by decide +kernel
theorem dX3_sell_55 : decode cX3_sell 55 = .ok (.bipush 10, 2) := by decide +kernel
theorem dX3_sell_57 : decode cX3_sell 57 = .ok (.iload_n 1, 1) := by decide +kernel
theorem dX3_sell_58 : decode cX3_sell 58 = .ok (.imul, 1) := by decide +kernel
theorem dX3_sell_59 : decode cX3_sell 59 = .ok (.bipush 10, 2) := by decide +kernel
theorem dX3_sell_61 : decode cX3_sell 61 = .ok (.iadd, 1) := by decide +kernel
theorem dX3_sell_62 : decode cX3_sell 62 = .ok (.if_icmp .ge 121, 3) := by decide +kernel
theorem dX3_sell_65 : decode cX3_sell 65 = .ok (.iload 4, 2) := by decide +kernel
theorem dX3_sell_67 : decode cX3_sell 67 = .ok (.ifCond .le 116, 3) := by decide +kernel
theorem dX3_sell_70 : decode cX3_sell 70 = .ok (.iload 4, 2) := by decide +kernel
theorem dX3_sell_72 : decode cX3_sell 72 = .ok (.aload_n 0, 1) := by decide +kernel
theorem dX3_sell_73 : decode cX3_sell 73 = .ok (.getfield 59, 3) := by decide +kernel
theorem dX3_sell_76 : decode cX3_sell 76 = .ok (.iload 6, 2) := by decide +kernel
theorem dX3_sell_78 : decode cX3_sell 78 = .ok (.iaload, 1) := by decide +kernel
theorem dX3_sell_79 : decode cX3_sell 79 = .ok (.if_icmp .ge 8, 3) := by decide +kernel
theorem dX3_sell_82 : decode cX3_sell 82 = .ok (.iload 4, 2) := by decide +kernel
theorem dX3_sell_84 : decode cX3_sell 84 = .ok (.goto 10, 3) := by decide +kernel
theorem dX3_sell_87 : decode cX3_sell 87 = .ok (.aload_n 0, 1) := by decide +kernel
theorem dX3_sell_88 : decode cX3_sell 88 = .ok (.getfield 59, 3) := by decide +kernel
theorem dX3_sell_91 : decode cX3_sell 91 = .ok (.iload 6, 2) := by decide +kernel
theorem dX3_sell_93 : decode cX3_sell 93 = .ok (.iaload, 1) := by decide +kernel
theorem dX3_sell_94 : decode cX3_sell 94 = .ok (.istore 7, 2) := by decide +kernel
theorem dX3_sell_96 : decode cX3_sell 96 = .ok (.iload 7, 2) := by decide +kernel
theorem dX3_sell_98 : decode cX3_sell 98 = .ok (.ifCond .le 79, 3) := by decide +kernel
theorem dX3_sell_101 : decode cX3_sell 101 = .ok (.aload_n 0, 1) := by decide +kernel
theorem dX3_sell_102 : decode cX3_sell 102 = .ok (.getfield 50, 3) := by decide +kernel
theorem dX3_sell_105 : decode cX3_sell 105 = .ok (.iload_n 1, 1) := by decide +kernel
theorem dX3_sell_106 : decode cX3_sell 106 = .ok (.dup2, 1) := by decide +kernel
theorem dX3_sell_107 : decode cX3_sell 107 = .ok (.laload, 1) := by decide +kernel
theorem dX3_sell_108 : decode cX3_sell 108 = .ok (.iload 7, 2) := by decide +kernel
theorem dX3_sell_110 : decode cX3_sell 110 = .ok (.i2l, 1) := by decide +kernel
theorem dX3_sell_111 : decode cX3_sell 111 = .ok (.aload_n 0, 1) := by decide +kernel
theorem dX3_sell_112 : decode cX3_sell 112 = .ok (.iload 6, 2) := by decide +kernel
theorem dX3_sell_114 : decode cX3_sell 114 = .ok (.invokevirtual 115, 3) := by decide +kernel
theorem dX3_sell_117 : decode cX3_sell 117 = .ok (.i2l, 1) := by decide +kernel
theorem dX3_sell_118 : decode cX3_sell 118 = .ok (.lmul, 1) := by decide +kernel
theorem dX3_sell_119 : decode cX3_sell 119 = .ok (.ladd, 1) := by decide +kernel
theorem dX3_sell_120 : decode cX3_sell 120 = .ok (.lastore, 1) := by decide +kernel
theorem dX3_sell_121 : decode cX3_sell 121 = .ok (.aload_n 0, 1) := by decide +kernel
theorem dX3_sell_122 : decode cX3_sell 122 = .ok (.getfield 53, 3) := by decide +kernel
theorem dX3_sell_125 : decode cX3_sell 125 = .ok (.iload_n 1, 1) := by decide +kernel
theorem dX3_sell_126 : decode cX3_sell 126 = .ok (.dup2, 1) := by decide +kernel
theorem dX3_sell_127 : decode cX3_sell 127 = .ok (.laload, 1) := by decide +kernel
theorem dX3_sell_128 : decode cX3_sell 128 = .ok (.aload_n 0, 1) := by decide +kernel
theorem dX3_sell_129 : decode cX3_sell 129 = .ok (.iload 6, 2) := by decide +kernel
theorem dX3_sell_131 : decode cX3_sell 131 = .ok (.iload 7, 2) := by decide +kernel
theorem dX3_sell_133 : decode cX3_sell 133 = .ok (.invokevirtual 119, 3) := by decide +kernel
theorem dX3_sell_136 : decode cX3_sell 136 = .ok (.ladd, 1) := by decide +kernel
theorem dX3_sell_137 : decode cX3_sell 137 = .ok (.lastore, 1) := by decide +kernel
theorem dX3_sell_138 : decode cX3_sell 138 = .ok (.iload 5, 2) := by decide +kernel
theorem dX3_sell_140 : decode cX3_sell 140 = .ok (.aload_n 0, 1) := by decide +kernel
theorem dX3_sell_141 : decode cX3_sell 141 = .ok (.iload 6, 2) := by decide +kernel
theorem dX3_sell_143 : decode cX3_sell 143 = .ok (.invokevirtual 112, 3) := by decide +kernel
theorem dX3_sell_146 : decode cX3_sell 146 = .ok (.ifCond .eq 8, 3) := by decide +kernel
theorem dX3_sell_149 : decode cX3_sell 149 = .ok (.iload 7, 2) := by decide +kernel
theorem dX3_sell_151 : decode cX3_sell 151 = .ok (.goto 4, 3) := by decide +kernel
theorem dX3_sell_154 : decode cX3_sell 154 = .ok (.iconst 0, 1) := by decide +kernel
theorem dX3_sell_155 : decode cX3_sell 155 = .ok (.iadd, 1) := by decide +kernel
theorem dX3_sell_156 : decode cX3_sell 156 = .ok (.istore 5, 2) := by decide +kernel
theorem dX3_sell_158 : decode cX3_sell 158 = .ok (.aload_n 0, 1) := by decide +kernel
theorem dX3_sell_159 : decode cX3_sell 159 = .ok (.getfield 59, 3) := by decide +kernel
theorem dX3_sell_162 : decode cX3_sell 162 = .ok (.iload 6, 2) := by decide +kernel
theorem dX3_sell_164 : decode cX3_sell 164 = .ok (.dup2, 1) := by decide +kernel
theorem dX3_sell_165 : decode cX3_sell 165 = .ok (.iaload, 1) := by decide +kernel
theorem dX3_sell_166 : decode cX3_sell 166 = .ok (.iload 7, 2) := by decide +kernel
theorem dX3_sell_168 : decode cX3_sell 168 = .ok (.isub, 1) := by decide +kernel
theorem dX3_sell_169 : decode cX3_sell 169 = .ok (.iastore, 1) := by decide +kernel
theorem dX3_sell_170 : decode cX3_sell 170 = .ok (.iload 4, 2) := by decide +kernel
theorem dX3_sell_172 : decode cX3_sell 172 = .ok (.iload 7, 2) := by decide +kernel
theorem dX3_sell_174 : decode cX3_sell 174 = .ok (.isub, 1) := by decide +kernel
theorem dX3_sell_175 : decode cX3_sell 175 = .ok (.istore 4, 2) := by decide +kernel
theorem dX3_sell_177 : decode cX3_sell 177 = .ok (.iinc 6 1, 3) := by decide +kernel
theorem dX3_sell_180 : decode cX3_sell 180 = .ok (.goto (-127), 3) := by decide +kernel
theorem dX3_sell_183 : decode cX3_sell 183 = .ok (.iload 5, 2) := by decide +kernel
theorem dX3_sell_185 : decode cX3_sell 185 = .ok (.ireturn, 1) := by decide +kernel
theorem dX3_pay_0 : decode cX3_pay 0 = .ok (.aload_n 0, 1) := by decide +kernel
theorem dX3_pay_1 : decode cX3_pay 1 = .ok (.aload_n 0, 1) := by decide +kernel
theorem dX3_pay_2 : decode cX3_pay 2 = .ok (.iload_n 1, 1) := by decide +kernel
theorem dX3_pay_3 : decode cX3_pay 3 = .ok (.invokevirtual 96, 3) := by decide +kernel
theorem dX3_pay_6 : decode cX3_pay 6 = .ok (.invokevirtual 92, 3) := by decide +kernel
theorem dX3_pay_9 : decode cX3_pay 9 = .ok (.ifCond .eq 12, 3) := by decide +kernel
theorem dX3_pay_12 : decode cX3_pay 12 = .ok (.aload_n 0, 1) := by decide +kernel
theorem dX3_pay_13 : decode cX3_pay 13 = .ok (.getfield 50, 3) := by decide +kernel
theorem dX3_pay_16 : decode cX3_pay 16 = .ok (.iload_n 1, 1) := by decide +kernel
theorem dX3_pay_17 : decode cX3_pay 17 = .ok (.laload, 1) := by decide +kernel
theorem dX3_pay_18 : decode cX3_pay 18 = .ok (.goto 4, 3) := by decide +kernel
theorem dX3_pay_21 : decode cX3_pay 21 = .ok (.lconst 0, 1) := by decide +kernel
theorem dX3_pay_22 : decode cX3_pay 22 = .ok (.lreturn, 1) := by decide +kernel
theorem dX3_gain_0 : decode cX3_gain 0 = .ok (.aload_n 0, 1) := by decide +kernel
theorem dX3_gain_1 : decode cX3_gain 1 = .ok (.aload_n 0, 1) := by decide +kernel
theorem dX3_gain_2 : decode cX3_gain 2 = .ok (.iload_n 1, 1) := by decide +kernel
theorem dX3_gain_3 : decode cX3_gain 3 = .ok (.invokevirtual 96, 3) := by decide +kernel
theorem dX3_gain_6 : decode cX3_gain 6 = .ok (.invokevirtual 92, 3) := by decide +kernel
theorem dX3_gain_9 : decode cX3_gain 9 = .ok (.ifCond .eq 12, 3) := by decide +kernel
theorem dX3_gain_12 : decode cX3_gain 12 = .ok (.aload_n 0, 1) := by decide +kernel
theorem dX3_gain_13 : decode cX3_gain 13 = .ok (.getfield 53, 3) := by decide +kernel
theorem dX3_gain_16 : decode cX3_gain 16 = .ok (.iload_n 1, 1) := by decide +kernel
theorem dX3_gain_17 : decode cX3_gain 17 = .ok (.laload, 1) := by decide +kernel
theorem dX3_gain_18 : decode cX3_gain 18 = .ok (.goto 4, 3) := by decide +kernel
theorem dX3_gain_21 : decode cX3_gain 21 = .ok (.lconst 0, 1) := by decide +kernel
theorem dX3_gain_22 : decode cX3_gain 22 = .ok (.lreturn, 1) := by decide +kernel
theorem dX3_gainNow_0 : decode cX3_gainNow 0 = .ok (.aload_n 0, 1) := by decide +kernel
theorem dX3_gainNow_1 : decode cX3_gainNow 1 = .ok (.aload_n 0, 1) := by decide +kernel
theorem dX3_gainNow_2 : decode cX3_gainNow 2 = .ok (.iload_n 1, 1) := by decide +kernel
theorem dX3_gainNow_3 : decode cX3_gainNow 3 = .ok (.invokevirtual 96, 3) := by decide +kernel
theorem dX3_gainNow_6 : decode cX3_gainNow 6 = .ok (.invokevirtual 92, 3) := by decide +kernel
theorem dX3_gainNow_9 : decode cX3_gainNow 9 = .ok (.ifCond .ne 5, 3) := by decide +kernel
theorem dX3_gainNow_12 : decode cX3_gainNow 12 = .ok (.lconst 0, 1) := by decide +kernel
theorem dX3_gainNow_13 : decode cX3_gainNow 13 = .ok (.lreturn, 1) := by decide +kernel
theorem dX3_gainNow_14 : decode cX3_gainNow 14 = .ok (.lconst 0, 1) := by decide +kernel
theorem dX3_gainNow_15 : decode cX3_gainNow 15 = .ok (.lstore_n 2, 1) := by decide +kernel
theorem dX3_gainNow_16 : decode cX3_gainNow 16 = .ok (.bipush 10, 2) := by decide +kernel
theorem dX3_gainNow_18 : decode cX3_gainNow 18 = .ok (.iload_n 1, 1) := by decide +kernel
theorem dX3_gainNow_19 : decode cX3_gainNow 19 = .ok (.imul, 1) := by decide +kernel
theorem dX3_gainNow_20 : decode cX3_gainNow 20 = .ok (.istore 4, 2) := by decide +kernel
theorem dX3_gainNow_22 : decode cX3_gainNow 22 = .ok (.iload 4, 2) := by decide +kernel
theorem dX3_gainNow_24 : decode cX3_gainNow 24 = .ok (.bipush 10, 2) := by decide +kernel
theorem dX3_gainNow_26 : decode cX3_gainNow 26 = .ok (.iload_n 1, 1) := by decide +kernel
theorem dX3_gainNow_27 : decode cX3_gainNow 27 = .ok (.imul, 1) := by decide +kernel
theorem dX3_gainNow_28 : decode cX3_gainNow 28 = .ok (.bipush 10, 2) := by decide +kernel
theorem dX3_gainNow_30 : decode cX3_gainNow 30 = .ok (.iadd, 1) := by decide +kernel
theorem dX3_gainNow_31 : decode cX3_gainNow 31 = .ok (.if_icmp .ge 39, 3) := by decide +kernel
theorem dX3_gainNow_34 : decode cX3_gainNow 34 = .ok (.lload_n 2, 1) := by decide +kernel
theorem dX3_gainNow_35 : decode cX3_gainNow 35 = .ok (.aload_n 0, 1) := by decide +kernel
theorem dX3_gainNow_36 : decode cX3_gainNow 36 = .ok (.getfield 59, 3) := by decide +kernel
theorem dX3_gainNow_39 : decode cX3_gainNow 39 = .ok (.iload 4, 2) := by decide +kernel
theorem dX3_gainNow_41 : decode cX3_gainNow 41 = .ok (.iaload, 1) := by decide +kernel
theorem dX3_gainNow_42 : decode cX3_gainNow 42 = .ok (.ifCond .le 19, 3) := by decide +kernel
theorem dX3_gainNow_45 : decode cX3_gainNow 45 = .ok (.aload_n 0, 1) := by decide +kernel
theorem dX3_gainNow_46 : decode cX3_gainNow 46 = .ok (.iload 4, 2) := by decide +kernel
theorem dX3_gainNow_48 : decode cX3_gainNow 48 = .ok (.aload_n 0, 1) := by decide +kernel
theorem dX3_gainNow_49 : decode cX3_gainNow 49 = .ok (.getfield 59, 3) := by decide +kernel
theorem dX3_gainNow_52 : decode cX3_gainNow 52 = .ok (.iload 4, 2) := by decide +kernel
theorem dX3_gainNow_54 : decode cX3_gainNow 54 = .ok (.iaload, 1) := by decide +kernel
theorem dX3_gainNow_55 : decode cX3_gainNow 55 = .ok (.invokevirtual 119, 3) := by decide +kernel
theorem dX3_gainNow_58 : decode cX3_gainNow 58 = .ok (.goto 4, 3) := by decide +kernel
theorem dX3_gainNow_61 : decode cX3_gainNow 61 = .ok (.lconst 0, 1) := by decide +kernel
theorem dX3_gainNow_62 : decode cX3_gainNow 62 = .ok (.ladd, 1) := by decide +kernel
theorem dX3_gainNow_63 : decode cX3_gainNow 63 = .ok (.lstore_n 2, 1) := by decide +kernel
theorem dX3_gainNow_64 : decode cX3_gainNow 64 = .ok (.iinc 4 1, 3) := by decide +kernel
theorem dX3_gainNow_67 : decode cX3_gainNow 67 = .ok (.goto (-45), 3) := by decide +kernel
theorem dX3_gainNow_70 : decode cX3_gainNow 70 = .ok (.lload_n 2, 1) := by decide +kernel
theorem dX3_gainNow_71 : decode cX3_gainNow 71 = .ok (.lreturn, 1) := by decide +kernel
theorem dJ9_max_7cf53_0 : decode cJ9_max_7cf53 0 = .ok (.iload_n 0, 1) := by decide +kernel
theorem dJ9_max_7cf53_1 : decode cJ9_max_7cf53 1 = .ok (.iload_n 1, 1) := by decide +kernel
theorem dJ9_max_7cf53_2 : decode cJ9_max_7cf53 2 = .ok (.if_icmp .lt 7, 3) := by decide +kernel
theorem dJ9_max_7cf53_5 : decode cJ9_max_7cf53 5 = .ok (.iload_n 0, 1) := by decide +kernel
theorem dJ9_max_7cf53_6 : decode cJ9_max_7cf53 6 = .ok (.goto 4, 3) := by decide +kernel
theorem dJ9_max_7cf53_9 : decode cJ9_max_7cf53 9 = .ok (.iload_n 1, 1) := by decide +kernel
theorem dJ9_max_7cf53_10 : decode cJ9_max_7cf53 10 = .ok (.ireturn, 1) := by decide +kernel
theorem dJ9_min_7cf53_0 : decode cJ9_min_7cf53 0 = .ok (.iload_n 0, 1) := by decide +kernel
theorem dJ9_min_7cf53_1 : decode cJ9_min_7cf53 1 = .ok (.iload_n 1, 1) := by decide +kernel
theorem dJ9_min_7cf53_2 : decode cJ9_min_7cf53 2 = .ok (.if_icmp .gt 7, 3) := by decide +kernel
theorem dJ9_min_7cf53_5 : decode cJ9_min_7cf53 5 = .ok (.iload_n 0, 1) := by decide +kernel
theorem dJ9_min_7cf53_6 : decode cJ9_min_7cf53 6 = .ok (.goto 4, 3) := by decide +kernel
theorem dJ9_min_7cf53_9 : decode cJ9_min_7cf53 9 = .ok (.iload_n 1, 1) := by decide +kernel
theorem dJ9_min_7cf53_10 : decode cJ9_min_7cf53 10 = .ok (.ireturn, 1) := by decide +kernel
theorem dJ9_min_f86c9_0 : decode cJ9_min_f86c9 0 = .ok (.lload_n 0, 1) := by decide +kernel
theorem dJ9_min_f86c9_1 : decode cJ9_min_f86c9 1 = .ok (.lload_n 2, 1) := by decide +kernel
theorem dJ9_min_f86c9_2 : decode cJ9_min_f86c9 2 = .ok (.lcmp, 1) := by decide +kernel
theorem dJ9_min_f86c9_3 : decode cJ9_min_f86c9 3 = .ok (.ifCond .gt 7, 3) := by decide +kernel
theorem dJ9_min_f86c9_6 : decode cJ9_min_f86c9 6 = .ok (.lload_n 0, 1) := by decide +kernel
theorem dJ9_min_f86c9_7 : decode cJ9_min_f86c9 7 = .ok (.goto 4, 3) := by decide +kernel
theorem dJ9_min_f86c9_10 : decode cJ9_min_f86c9 10 = .ok (.lload_n 2, 1) := by decide +kernel
theorem dJ9_min_f86c9_11 : decode cJ9_min_f86c9 11 = .ok (.lreturn, 1) := by decide +kernel
theorem dL_next_0 : decode cL_next 0 = .ok (.aload_n 2, 1) := by decide +kernel
theorem dL_next_1 : decode cL_next 1 = .ok (.iconst 0, 1) := by decide +kernel
theorem dL_next_2 : decode cL_next 2 = .ok (.aload_n 0, 1) := by decide +kernel
theorem dL_next_3 : decode cL_next 3 = .ok (.iload_n 1, 1) := by decide +kernel
theorem dL_next_4 : decode cL_next 4 = .ok (.invokevirtual 7, 3) := by decide +kernel
theorem dL_next_7 : decode cL_next 7 = .ok (.i2l, 1) := by decide +kernel
theorem dL_next_8 : decode cL_next 8 = .ok (.lastore, 1) := by decide +kernel
theorem dL_next_9 : decode cL_next 9 = .ok (.goto 9, 3) := by decide +kernel
theorem dL_next_12 : decode cL_next 12 = .ok (.astore_n 3, 1) := by decide +kernel
theorem dL_next_13 : decode cL_next 13 = .ok (.iconst 1, 1) := by decide +kernel
theorem dL_next_14 : decode cL_next 14 = .ok (.ireturn, 1) := by decide +kernel
theorem dL_next_15 : decode cL_next 15 = .ok (.astore_n 3, 1) := by decide +kernel
theorem dL_next_16 : decode cL_next 16 = .ok (.iconst 2, 1) := by decide +kernel
theorem dL_next_17 : decode cL_next 17 = .ok (.ireturn, 1) := by decide +kernel
theorem dL_next_18 : decode cL_next 18 = .ok (.iconst 0, 1) := by decide +kernel
theorem dL_next_19 : decode cL_next 19 = .ok (.ireturn, 1) := by decide +kernel
theorem dL_ceiling_0 : decode cL_ceiling 0 = .ok (.aload_n 2, 1) := by decide +kernel
theorem dL_ceiling_1 : decode cL_ceiling 1 = .ok (.iconst 0, 1) := by decide +kernel
theorem dL_ceiling_2 : decode cL_ceiling 2 = .ok (.aload_n 0, 1) := by decide +kernel
theorem dL_ceiling_3 : decode cL_ceiling 3 = .ok (.iload_n 1, 1) := by decide +kernel
theorem dL_ceiling_4 : decode cL_ceiling 4 = .ok (.invokevirtual 17, 3) := by decide +kernel
theorem dL_ceiling_7 : decode cL_ceiling 7 = .ok (.i2l, 1) := by decide +kernel
theorem dL_ceiling_8 : decode cL_ceiling 8 = .ok (.lastore, 1) := by decide +kernel
theorem dL_ceiling_9 : decode cL_ceiling 9 = .ok (.goto 6, 3) := by decide +kernel
theorem dL_ceiling_12 : decode cL_ceiling 12 = .ok (.astore_n 3, 1) := by decide +kernel
theorem dL_ceiling_13 : decode cL_ceiling 13 = .ok (.iconst 1, 1) := by decide +kernel
theorem dL_ceiling_14 : decode cL_ceiling 14 = .ok (.ireturn, 1) := by decide +kernel
theorem dL_ceiling_15 : decode cL_ceiling 15 = .ok (.iconst 0, 1) := by decide +kernel
theorem dL_ceiling_16 : decode cL_ceiling 16 = .ok (.ireturn, 1) := by decide +kernel
theorem dL_join_0 : decode cL_join 0 = .ok (.aload_n 2, 1) := by decide +kernel
theorem dL_join_1 : decode cL_join 1 = .ok (.iconst 0, 1) := by decide +kernel
theorem dL_join_2 : decode cL_join 2 = .ok (.aload_n 0, 1) := by decide +kernel
theorem dL_join_3 : decode cL_join 3 = .ok (.iload_n 1, 1) := by decide +kernel
theorem dL_join_4 : decode cL_join 4 = .ok (.invokevirtual 20, 3) := by decide +kernel
theorem dL_join_7 : decode cL_join 7 = .ok (.i2l, 1) := by decide +kernel
theorem dL_join_8 : decode cL_join 8 = .ok (.lastore, 1) := by decide +kernel
theorem dL_join_9 : decode cL_join 9 = .ok (.goto 9, 3) := by decide +kernel
theorem dL_join_12 : decode cL_join 12 = .ok (.astore_n 3, 1) := by decide +kernel
theorem dL_join_13 : decode cL_join 13 = .ok (.iconst 1, 1) := by decide +kernel
theorem dL_join_14 : decode cL_join 14 = .ok (.ireturn, 1) := by decide +kernel
theorem dL_join_15 : decode cL_join 15 = .ok (.astore_n 3, 1) := by decide +kernel
theorem dL_join_16 : decode cL_join 16 = .ok (.iconst 2, 1) := by decide +kernel
theorem dL_join_17 : decode cL_join 17 = .ok (.ireturn, 1) := by decide +kernel
theorem dL_join_18 : decode cL_join 18 = .ok (.iconst 0, 1) := by decide +kernel
theorem dL_join_19 : decode cL_join 19 = .ok (.ireturn, 1) := by decide +kernel
theorem dL_rate_0 : decode cL_rate 0 = .ok (.aload_n 3, 1) := by decide +kernel
theorem dL_rate_1 : decode cL_rate 1 = .ok (.iconst 0, 1) := by decide +kernel
theorem dL_rate_2 : decode cL_rate 2 = .ok (.aload_n 0, 1) := by decide +kernel
theorem dL_rate_3 : decode cL_rate 3 = .ok (.iload_n 1, 1) := by decide +kernel
theorem dL_rate_4 : decode cL_rate 4 = .ok (.iload_n 2, 1) := by decide +kernel
theorem dL_rate_5 : decode cL_rate 5 = .ok (.invokevirtual 23, 3) := by decide +kernel
theorem dL_rate_8 : decode cL_rate 8 = .ok (.i2l, 1) := by decide +kernel
theorem dL_rate_9 : decode cL_rate 9 = .ok (.lastore, 1) := by decide +kernel
theorem dL_rate_10 : decode cL_rate 10 = .ok (.goto 15, 3) := by decide +kernel
theorem dL_rate_13 : decode cL_rate 13 = .ok (.astore 4, 2) := by decide +kernel
theorem dL_rate_15 : decode cL_rate 15 = .ok (.iconst 1, 1) := by decide +kernel
theorem dL_rate_16 : decode cL_rate 16 = .ok (.ireturn, 1) := by decide +kernel
theorem dL_rate_17 : decode cL_rate 17 = .ok (.astore 4, 2) := by decide +kernel
theorem dL_rate_19 : decode cL_rate 19 = .ok (.iconst 2, 1) := by decide +kernel
theorem dL_rate_20 : decode cL_rate 20 = .ok (.ireturn, 1) := by decide +kernel
theorem dL_rate_21 : decode cL_rate 21 = .ok (.astore 4, 2) := by decide +kernel
theorem dL_rate_23 : decode cL_rate 23 = .ok (.iconst 3, 1) := by decide +kernel
theorem dL_rate_24 : decode cL_rate 24 = .ok (.ireturn, 1) := by decide +kernel
theorem dL_rate_25 : decode cL_rate 25 = .ok (.iconst 0, 1) := by decide +kernel
theorem dL_rate_26 : decode cL_rate 26 = .ok (.ireturn, 1) := by decide +kernel
theorem dL_slip_0 : decode cL_slip 0 = .ok (.aload_n 3, 1) := by decide +kernel
theorem dL_slip_1 : decode cL_slip 1 = .ok (.iconst 0, 1) := by decide +kernel
theorem dL_slip_2 : decode cL_slip 2 = .ok (.aload_n 0, 1) := by decide +kernel
theorem dL_slip_3 : decode cL_slip 3 = .ok (.iload_n 1, 1) := by decide +kernel
theorem dL_slip_4 : decode cL_slip 4 = .ok (.iload_n 2, 1) := by decide +kernel
theorem dL_slip_5 : decode cL_slip 5 = .ok (.invokevirtual 29, 3) := by decide +kernel
theorem dL_slip_8 : decode cL_slip 8 = .ok (.i2l, 1) := by decide +kernel
theorem dL_slip_9 : decode cL_slip 9 = .ok (.lastore, 1) := by decide +kernel
theorem dL_slip_10 : decode cL_slip 10 = .ok (.goto 15, 3) := by decide +kernel
theorem dL_slip_13 : decode cL_slip 13 = .ok (.astore 4, 2) := by decide +kernel
theorem dL_slip_15 : decode cL_slip 15 = .ok (.iconst 1, 1) := by decide +kernel
theorem dL_slip_16 : decode cL_slip 16 = .ok (.ireturn, 1) := by decide +kernel
theorem dL_slip_17 : decode cL_slip 17 = .ok (.astore 4, 2) := by decide +kernel
theorem dL_slip_19 : decode cL_slip 19 = .ok (.iconst 2, 1) := by decide +kernel
theorem dL_slip_20 : decode cL_slip 20 = .ok (.ireturn, 1) := by decide +kernel
theorem dL_slip_21 : decode cL_slip 21 = .ok (.astore 4, 2) := by decide +kernel
theorem dL_slip_23 : decode cL_slip 23 = .ok (.iconst 3, 1) := by decide +kernel
theorem dL_slip_24 : decode cL_slip 24 = .ok (.ireturn, 1) := by decide +kernel
theorem dL_slip_25 : decode cL_slip 25 = .ok (.iconst 0, 1) := by decide +kernel
theorem dL_slip_26 : decode cL_slip 26 = .ok (.ireturn, 1) := by decide +kernel
theorem dL_leave_0 : decode cL_leave 0 = .ok (.aload_n 2, 1) := by decide +kernel
theorem dL_leave_1 : decode cL_leave 1 = .ok (.iconst 0, 1) := by decide +kernel
theorem dL_leave_2 : decode cL_leave 2 = .ok (.aload_n 0, 1) := by decide +kernel
theorem dL_leave_3 : decode cL_leave 3 = .ok (.iload_n 1, 1) := by decide +kernel
theorem dL_leave_4 : decode cL_leave 4 = .ok (.invokevirtual 32, 3) := by decide +kernel
theorem dL_leave_7 : decode cL_leave 7 = .ok (.i2l, 1) := by decide +kernel
theorem dL_leave_8 : decode cL_leave 8 = .ok (.lastore, 1) := by decide +kernel
theorem dL_leave_9 : decode cL_leave 9 = .ok (.goto 9, 3) := by decide +kernel
theorem dL_leave_12 : decode cL_leave 12 = .ok (.astore_n 3, 1) := by decide +kernel
theorem dL_leave_13 : decode cL_leave 13 = .ok (.iconst 1, 1) := by decide +kernel
theorem dL_leave_14 : decode cL_leave 14 = .ok (.ireturn, 1) := by decide +kernel
theorem dL_leave_15 : decode cL_leave 15 = .ok (.astore_n 3, 1) := by decide +kernel
theorem dL_leave_16 : decode cL_leave 16 = .ok (.iconst 2, 1) := by decide +kernel
theorem dL_leave_17 : decode cL_leave 17 = .ok (.ireturn, 1) := by decide +kernel
theorem dL_leave_18 : decode cL_leave 18 = .ok (.iconst 0, 1) := by decide +kernel
theorem dL_leave_19 : decode cL_leave 19 = .ok (.ireturn, 1) := by decide +kernel
theorem dL_money_0 : decode cL_money 0 = .ok (.aload_n 2, 1) := by decide +kernel
theorem dL_money_1 : decode cL_money 1 = .ok (.iconst 0, 1) := by decide +kernel
theorem dL_money_2 : decode cL_money 2 = .ok (.aload_n 0, 1) := by decide +kernel
theorem dL_money_3 : decode cL_money 3 = .ok (.iload_n 1, 1) := by decide +kernel
theorem dL_money_4 : decode cL_money 4 = .ok (.invokevirtual 35, 3) := by decide +kernel
theorem dL_money_7 : decode cL_money 7 = .ok (.i2l, 1) := by decide +kernel
theorem dL_money_8 : decode cL_money 8 = .ok (.lastore, 1) := by decide +kernel
theorem dL_money_9 : decode cL_money 9 = .ok (.goto 6, 3) := by decide +kernel
theorem dL_money_12 : decode cL_money 12 = .ok (.astore_n 3, 1) := by decide +kernel
theorem dL_money_13 : decode cL_money 13 = .ok (.iconst 1, 1) := by decide +kernel
theorem dL_money_14 : decode cL_money 14 = .ok (.ireturn, 1) := by decide +kernel
theorem dL_money_15 : decode cL_money 15 = .ok (.iconst 0, 1) := by decide +kernel
theorem dL_money_16 : decode cL_money 16 = .ok (.ireturn, 1) := by decide +kernel
theorem dL_offerMonth_0 : decode cL_offerMonth 0 = .ok (.aload_n 2, 1) := by decide +kernel
theorem dL_offerMonth_1 : decode cL_offerMonth 1 = .ok (.iconst 0, 1) := by decide +kernel
theorem dL_offerMonth_2 : decode cL_offerMonth 2 = .ok (.aload_n 0, 1) := by decide +kernel
theorem dL_offerMonth_3 : decode cL_offerMonth 3 = .ok (.iload_n 1, 1) := by decide +kernel
theorem dL_offerMonth_4 : decode cL_offerMonth 4 = .ok (.invokevirtual 38, 3) := by decide +kernel
theorem dL_offerMonth_7 : decode cL_offerMonth 7 = .ok (.i2l, 1) := by decide +kernel
theorem dL_offerMonth_8 : decode cL_offerMonth 8 = .ok (.lastore, 1) := by decide +kernel
theorem dL_offerMonth_9 : decode cL_offerMonth 9 = .ok (.goto 6, 3) := by decide +kernel
theorem dL_offerMonth_12 : decode cL_offerMonth 12 = .ok (.astore_n 3, 1) := by decide +kernel
theorem dL_offerMonth_13 : decode cL_offerMonth 13 = .ok (.iconst 1, 1) := by decide +kernel
theorem dL_offerMonth_14 : decode cL_offerMonth 14 = .ok (.ireturn, 1) := by decide +kernel
theorem dL_offerMonth_15 : decode cL_offerMonth 15 = .ok (.iconst 0, 1) := by decide +kernel
theorem dL_offerMonth_16 : decode cL_offerMonth 16 = .ok (.ireturn, 1) := by decide +kernel
theorem dL_offerPrice_0 : decode cL_offerPrice 0 = .ok (.aload_n 2, 1) := by decide +kernel
theorem dL_offerPrice_1 : decode cL_offerPrice 1 = .ok (.iconst 0, 1) := by decide +kernel
theorem dL_offerPrice_2 : decode cL_offerPrice 2 = .ok (.aload_n 0, 1) := by decide +kernel
theorem dL_offerPrice_3 : decode cL_offerPrice 3 = .ok (.iload_n 1, 1) := by decide +kernel
theorem dL_offerPrice_4 : decode cL_offerPrice 4 = .ok (.invokevirtual 41, 3) := by decide +kernel
theorem dL_offerPrice_7 : decode cL_offerPrice 7 = .ok (.i2l, 1) := by decide +kernel
theorem dL_offerPrice_8 : decode cL_offerPrice 8 = .ok (.lastore, 1) := by decide +kernel
theorem dL_offerPrice_9 : decode cL_offerPrice 9 = .ok (.goto 6, 3) := by decide +kernel
theorem dL_offerPrice_12 : decode cL_offerPrice 12 = .ok (.astore_n 3, 1) := by decide +kernel
theorem dL_offerPrice_13 : decode cL_offerPrice 13 = .ok (.iconst 1, 1) := by decide +kernel
theorem dL_offerPrice_14 : decode cL_offerPrice 14 = .ok (.ireturn, 1) := by decide +kernel
theorem dL_offerPrice_15 : decode cL_offerPrice 15 = .ok (.iconst 0, 1) := by decide +kernel
theorem dL_offerPrice_16 : decode cL_offerPrice 16 = .ok (.ireturn, 1) := by decide +kernel
theorem dL_resets_0 : decode cL_resets 0 = .ok (.aload_n 2, 1) := by decide +kernel
theorem dL_resets_1 : decode cL_resets 1 = .ok (.iconst 0, 1) := by decide +kernel
theorem dL_resets_2 : decode cL_resets 2 = .ok (.aload_n 0, 1) := by decide +kernel
theorem dL_resets_3 : decode cL_resets 3 = .ok (.iload_n 1, 1) := by decide +kernel
theorem dL_resets_4 : decode cL_resets 4 = .ok (.invokevirtual 44, 3) := by decide +kernel
theorem dL_resets_7 : decode cL_resets 7 = .ok (.i2l, 1) := by decide +kernel
theorem dL_resets_8 : decode cL_resets 8 = .ok (.lastore, 1) := by decide +kernel
theorem dL_resets_9 : decode cL_resets 9 = .ok (.goto 6, 3) := by decide +kernel
theorem dL_resets_12 : decode cL_resets 12 = .ok (.astore_n 3, 1) := by decide +kernel
theorem dL_resets_13 : decode cL_resets 13 = .ok (.iconst 1, 1) := by decide +kernel
theorem dL_resets_14 : decode cL_resets 14 = .ok (.ireturn, 1) := by decide +kernel
theorem dL_resets_15 : decode cL_resets 15 = .ok (.iconst 0, 1) := by decide +kernel
theorem dL_resets_16 : decode cL_resets 16 = .ok (.ireturn, 1) := by decide +kernel
theorem dL_shares_0 : decode cL_shares 0 = .ok (.aload_n 2, 1) := by decide +kernel
theorem dL_shares_1 : decode cL_shares 1 = .ok (.iconst 0, 1) := by decide +kernel
theorem dL_shares_2 : decode cL_shares 2 = .ok (.aload_n 0, 1) := by decide +kernel
theorem dL_shares_3 : decode cL_shares 3 = .ok (.iload_n 1, 1) := by decide +kernel
theorem dL_shares_4 : decode cL_shares 4 = .ok (.invokevirtual 47, 3) := by decide +kernel
theorem dL_shares_7 : decode cL_shares 7 = .ok (.i2l, 1) := by decide +kernel
theorem dL_shares_8 : decode cL_shares 8 = .ok (.lastore, 1) := by decide +kernel
theorem dL_shares_9 : decode cL_shares 9 = .ok (.goto 6, 3) := by decide +kernel
theorem dL_shares_12 : decode cL_shares 12 = .ok (.astore_n 3, 1) := by decide +kernel
theorem dL_shares_13 : decode cL_shares 13 = .ok (.iconst 1, 1) := by decide +kernel
theorem dL_shares_14 : decode cL_shares 14 = .ok (.ireturn, 1) := by decide +kernel
theorem dL_shares_15 : decode cL_shares 15 = .ok (.iconst 0, 1) := by decide +kernel
theorem dL_shares_16 : decode cL_shares 16 = .ok (.ireturn, 1) := by decide +kernel
theorem dL_bought_0 : decode cL_bought 0 = .ok (.aload_n 3, 1) := by decide +kernel
theorem dL_bought_1 : decode cL_bought 1 = .ok (.iconst 0, 1) := by decide +kernel
theorem dL_bought_2 : decode cL_bought 2 = .ok (.aload_n 0, 1) := by decide +kernel
theorem dL_bought_3 : decode cL_bought 3 = .ok (.iload_n 1, 1) := by decide +kernel
theorem dL_bought_4 : decode cL_bought 4 = .ok (.iload_n 2, 1) := by decide +kernel
theorem dL_bought_5 : decode cL_bought 5 = .ok (.invokevirtual 50, 3) := by decide +kernel
theorem dL_bought_8 : decode cL_bought 8 = .ok (.i2l, 1) := by decide +kernel
theorem dL_bought_9 : decode cL_bought 9 = .ok (.lastore, 1) := by decide +kernel
theorem dL_bought_10 : decode cL_bought 10 = .ok (.goto 7, 3) := by decide +kernel
theorem dL_bought_13 : decode cL_bought 13 = .ok (.astore 4, 2) := by decide +kernel
theorem dL_bought_15 : decode cL_bought 15 = .ok (.iconst 1, 1) := by decide +kernel
theorem dL_bought_16 : decode cL_bought 16 = .ok (.ireturn, 1) := by decide +kernel
theorem dL_bought_17 : decode cL_bought 17 = .ok (.iconst 0, 1) := by decide +kernel
theorem dL_bought_18 : decode cL_bought 18 = .ok (.ireturn, 1) := by decide +kernel
theorem dL_paidEach_0 : decode cL_paidEach 0 = .ok (.aload_n 3, 1) := by decide +kernel
theorem dL_paidEach_1 : decode cL_paidEach 1 = .ok (.iconst 0, 1) := by decide +kernel
theorem dL_paidEach_2 : decode cL_paidEach 2 = .ok (.aload_n 0, 1) := by decide +kernel
theorem dL_paidEach_3 : decode cL_paidEach 3 = .ok (.iload_n 1, 1) := by decide +kernel
theorem dL_paidEach_4 : decode cL_paidEach 4 = .ok (.iload_n 2, 1) := by decide +kernel
theorem dL_paidEach_5 : decode cL_paidEach 5 = .ok (.invokevirtual 53, 3) := by decide +kernel
theorem dL_paidEach_8 : decode cL_paidEach 8 = .ok (.i2l, 1) := by decide +kernel
theorem dL_paidEach_9 : decode cL_paidEach 9 = .ok (.lastore, 1) := by decide +kernel
theorem dL_paidEach_10 : decode cL_paidEach 10 = .ok (.goto 7, 3) := by decide +kernel
theorem dL_paidEach_13 : decode cL_paidEach 13 = .ok (.astore 4, 2) := by decide +kernel
theorem dL_paidEach_15 : decode cL_paidEach 15 = .ok (.iconst 1, 1) := by decide +kernel
theorem dL_paidEach_16 : decode cL_paidEach 16 = .ok (.ireturn, 1) := by decide +kernel
theorem dL_paidEach_17 : decode cL_paidEach 17 = .ok (.iconst 0, 1) := by decide +kernel
theorem dL_paidEach_18 : decode cL_paidEach 18 = .ok (.ireturn, 1) := by decide +kernel
theorem dL_counted_0 : decode cL_counted 0 = .ok (.aload_n 3, 1) := by decide +kernel
theorem dL_counted_1 : decode cL_counted 1 = .ok (.iconst 0, 1) := by decide +kernel
theorem dL_counted_2 : decode cL_counted 2 = .ok (.aload_n 0, 1) := by decide +kernel
theorem dL_counted_3 : decode cL_counted 3 = .ok (.iload_n 1, 1) := by decide +kernel
theorem dL_counted_4 : decode cL_counted 4 = .ok (.iload_n 2, 1) := by decide +kernel
theorem dL_counted_5 : decode cL_counted 5 = .ok (.invokevirtual 56, 3) := by decide +kernel
theorem dL_counted_8 : decode cL_counted 8 = .ok (.lastore, 1) := by decide +kernel
theorem dL_counted_9 : decode cL_counted 9 = .ok (.goto 7, 3) := by decide +kernel
theorem dL_counted_12 : decode cL_counted 12 = .ok (.astore 4, 2) := by decide +kernel
theorem dL_counted_14 : decode cL_counted 14 = .ok (.iconst 1, 1) := by decide +kernel
theorem dL_counted_15 : decode cL_counted 15 = .ok (.ireturn, 1) := by decide +kernel
theorem dL_counted_16 : decode cL_counted 16 = .ok (.iconst 0, 1) := by decide +kernel
theorem dL_counted_17 : decode cL_counted 17 = .ok (.ireturn, 1) := by decide +kernel
theorem dL_traced_0 : decode cL_traced 0 = .ok (.aload_n 2, 1) := by decide +kernel
theorem dL_traced_1 : decode cL_traced 1 = .ok (.iconst 0, 1) := by decide +kernel
theorem dL_traced_2 : decode cL_traced 2 = .ok (.aload_n 0, 1) := by decide +kernel
theorem dL_traced_3 : decode cL_traced 3 = .ok (.iload_n 1, 1) := by decide +kernel
theorem dL_traced_4 : decode cL_traced 4 = .ok (.invokevirtual 60, 3) := by decide +kernel
theorem dL_traced_7 : decode cL_traced 7 = .ok (.lastore, 1) := by decide +kernel
theorem dL_traced_8 : decode cL_traced 8 = .ok (.goto 6, 3) := by decide +kernel
theorem dL_traced_11 : decode cL_traced 11 = .ok (.astore_n 3, 1) := by decide +kernel
theorem dL_traced_12 : decode cL_traced 12 = .ok (.iconst 1, 1) := by decide +kernel
theorem dL_traced_13 : decode cL_traced 13 = .ok (.ireturn, 1) := by decide +kernel
theorem dL_traced_14 : decode cL_traced 14 = .ok (.iconst 0, 1) := by decide +kernel
theorem dL_traced_15 : decode cL_traced 15 = .ok (.ireturn, 1) := by decide +kernel
theorem dL_kept_0 : decode cL_kept 0 = .ok (.aload_n 2, 1) := by decide +kernel
theorem dL_kept_1 : decode cL_kept 1 = .ok (.iconst 0, 1) := by decide +kernel
theorem dL_kept_2 : decode cL_kept 2 = .ok (.aload_n 0, 1) := by decide +kernel
theorem dL_kept_3 : decode cL_kept 3 = .ok (.iload_n 1, 1) := by decide +kernel
theorem dL_kept_4 : decode cL_kept 4 = .ok (.invokevirtual 64, 3) := by decide +kernel
theorem dL_kept_7 : decode cL_kept 7 = .ok (.lastore, 1) := by decide +kernel
theorem dL_kept_8 : decode cL_kept 8 = .ok (.goto 6, 3) := by decide +kernel
theorem dL_kept_11 : decode cL_kept 11 = .ok (.astore_n 3, 1) := by decide +kernel
theorem dL_kept_12 : decode cL_kept 12 = .ok (.iconst 1, 1) := by decide +kernel
theorem dL_kept_13 : decode cL_kept 13 = .ok (.ireturn, 1) := by decide +kernel
theorem dL_kept_14 : decode cL_kept 14 = .ok (.iconst 0, 1) := by decide +kernel
theorem dL_kept_15 : decode cL_kept 15 = .ok (.ireturn, 1) := by decide +kernel
theorem dL_sell_0 : decode cL_sell 0 = .ok (.aload_n 3, 1) := by decide +kernel
theorem dL_sell_1 : decode cL_sell 1 = .ok (.iconst 0, 1) := by decide +kernel
theorem dL_sell_2 : decode cL_sell 2 = .ok (.aload_n 0, 1) := by decide +kernel
theorem dL_sell_3 : decode cL_sell 3 = .ok (.iload_n 1, 1) := by decide +kernel
theorem dL_sell_4 : decode cL_sell 4 = .ok (.iload_n 2, 1) := by decide +kernel
theorem dL_sell_5 : decode cL_sell 5 = .ok (.invokevirtual 67, 3) := by decide +kernel
theorem dL_sell_8 : decode cL_sell 8 = .ok (.i2l, 1) := by decide +kernel
theorem dL_sell_9 : decode cL_sell 9 = .ok (.lastore, 1) := by decide +kernel
theorem dL_sell_10 : decode cL_sell 10 = .ok (.goto 15, 3) := by decide +kernel
theorem dL_sell_13 : decode cL_sell 13 = .ok (.astore 4, 2) := by decide +kernel
theorem dL_sell_15 : decode cL_sell 15 = .ok (.iconst 1, 1) := by decide +kernel
theorem dL_sell_16 : decode cL_sell 16 = .ok (.ireturn, 1) := by decide +kernel
theorem dL_sell_17 : decode cL_sell 17 = .ok (.astore 4, 2) := by decide +kernel
theorem dL_sell_19 : decode cL_sell 19 = .ok (.iconst 2, 1) := by decide +kernel
theorem dL_sell_20 : decode cL_sell 20 = .ok (.ireturn, 1) := by decide +kernel
theorem dL_sell_21 : decode cL_sell 21 = .ok (.astore 4, 2) := by decide +kernel
theorem dL_sell_23 : decode cL_sell 23 = .ok (.iconst 3, 1) := by decide +kernel
theorem dL_sell_24 : decode cL_sell 24 = .ok (.ireturn, 1) := by decide +kernel
theorem dL_sell_25 : decode cL_sell 25 = .ok (.iconst 0, 1) := by decide +kernel
theorem dL_sell_26 : decode cL_sell 26 = .ok (.ireturn, 1) := by decide +kernel
theorem dL_pay_0 : decode cL_pay 0 = .ok (.aload_n 2, 1) := by decide +kernel
theorem dL_pay_1 : decode cL_pay 1 = .ok (.iconst 0, 1) := by decide +kernel
theorem dL_pay_2 : decode cL_pay 2 = .ok (.aload_n 0, 1) := by decide +kernel
theorem dL_pay_3 : decode cL_pay 3 = .ok (.iload_n 1, 1) := by decide +kernel
theorem dL_pay_4 : decode cL_pay 4 = .ok (.invokevirtual 70, 3) := by decide +kernel
theorem dL_pay_7 : decode cL_pay 7 = .ok (.lastore, 1) := by decide +kernel
theorem dL_pay_8 : decode cL_pay 8 = .ok (.goto 6, 3) := by decide +kernel
theorem dL_pay_11 : decode cL_pay 11 = .ok (.astore_n 3, 1) := by decide +kernel
theorem dL_pay_12 : decode cL_pay 12 = .ok (.iconst 1, 1) := by decide +kernel
theorem dL_pay_13 : decode cL_pay 13 = .ok (.ireturn, 1) := by decide +kernel
theorem dL_pay_14 : decode cL_pay 14 = .ok (.iconst 0, 1) := by decide +kernel
theorem dL_pay_15 : decode cL_pay 15 = .ok (.ireturn, 1) := by decide +kernel
theorem dL_gain_0 : decode cL_gain 0 = .ok (.aload_n 2, 1) := by decide +kernel
theorem dL_gain_1 : decode cL_gain 1 = .ok (.iconst 0, 1) := by decide +kernel
theorem dL_gain_2 : decode cL_gain 2 = .ok (.aload_n 0, 1) := by decide +kernel
theorem dL_gain_3 : decode cL_gain 3 = .ok (.iload_n 1, 1) := by decide +kernel
theorem dL_gain_4 : decode cL_gain 4 = .ok (.invokevirtual 73, 3) := by decide +kernel
theorem dL_gain_7 : decode cL_gain 7 = .ok (.lastore, 1) := by decide +kernel
theorem dL_gain_8 : decode cL_gain 8 = .ok (.goto 6, 3) := by decide +kernel
theorem dL_gain_11 : decode cL_gain 11 = .ok (.astore_n 3, 1) := by decide +kernel
theorem dL_gain_12 : decode cL_gain 12 = .ok (.iconst 1, 1) := by decide +kernel
theorem dL_gain_13 : decode cL_gain 13 = .ok (.ireturn, 1) := by decide +kernel
theorem dL_gain_14 : decode cL_gain 14 = .ok (.iconst 0, 1) := by decide +kernel
theorem dL_gain_15 : decode cL_gain 15 = .ok (.ireturn, 1) := by decide +kernel
theorem dL_gainNow_0 : decode cL_gainNow 0 = .ok (.aload_n 2, 1) := by decide +kernel
theorem dL_gainNow_1 : decode cL_gainNow 1 = .ok (.iconst 0, 1) := by decide +kernel
theorem dL_gainNow_2 : decode cL_gainNow 2 = .ok (.aload_n 0, 1) := by decide +kernel
theorem dL_gainNow_3 : decode cL_gainNow 3 = .ok (.iload_n 1, 1) := by decide +kernel
theorem dL_gainNow_4 : decode cL_gainNow 4 = .ok (.invokevirtual 76, 3) := by decide +kernel
theorem dL_gainNow_7 : decode cL_gainNow 7 = .ok (.lastore, 1) := by decide +kernel
theorem dL_gainNow_8 : decode cL_gainNow 8 = .ok (.goto 6, 3) := by decide +kernel
theorem dL_gainNow_11 : decode cL_gainNow 11 = .ok (.astore_n 3, 1) := by decide +kernel
theorem dL_gainNow_12 : decode cL_gainNow 12 = .ok (.iconst 1, 1) := by decide +kernel
theorem dL_gainNow_13 : decode cL_gainNow 13 = .ok (.ireturn, 1) := by decide +kernel
theorem dL_gainNow_14 : decode cL_gainNow 14 = .ok (.iconst 0, 1) := by decide +kernel
theorem dL_gainNow_15 : decode cL_gainNow 15 = .ok (.ireturn, 1) := by decide +kernel
end
section
theorem dL_law_0 : decode cL_law 0 = .ok (.new 8, 3) := by decide +kernel
theorem dL_law_3 : decode cL_law 3 = .ok (.dup, 1) := by decide +kernel
theorem dL_law_4 : decode cL_law 4 = .ok (.invokespecial 79, 3) := by decide +kernel
theorem dL_law_7 : decode cL_law 7 = .ok (.astore_n 1, 1) := by decide +kernel
theorem dL_law_8 : decode cL_law 8 = .ok (.new 80, 3) := by decide +kernel
theorem dL_law_11 : decode cL_law 11 = .ok (.dup, 1) := by decide +kernel
theorem dL_law_12 : decode cL_law 12 = .ok (.invokespecial 82, 3) := by decide +kernel
theorem dL_law_15 : decode cL_law 15 = .ok (.astore_n 2, 1) := by decide +kernel
theorem dL_law_16 : decode cL_law 16 = .ok (.iconst 1, 1) := by decide +kernel
theorem dL_law_17 : decode cL_law 17 = .ok (.newarray .long, 2) := by decide +kernel
theorem dL_law_19 : decode cL_law 19 = .ok (.astore_n 3, 1) := by decide +kernel
theorem dL_law_20 : decode cL_law 20 = .ok (.iconst 0, 1) := by decide +kernel
theorem dL_law_21 : decode cL_law 21 = .ok (.istore 4, 2) := by decide +kernel
theorem dL_law_23 : decode cL_law 23 = .ok (.iload 4, 2) := by decide +kernel
theorem dL_law_25 : decode cL_law 25 = .ok (.aload_n 0, 1) := by decide +kernel
theorem dL_law_26 : decode cL_law 26 = .ok (.arraylength, 1) := by decide +kernel
theorem dL_law_27 : decode cL_law 27 = .ok (.iconst 3, 1) := by decide +kernel
theorem dL_law_28 : decode cL_law 28 = .ok (.isub, 1) := by decide +kernel
theorem dL_law_29 : decode cL_law 29 = .ok (.if_icmp .gt 1312, 3) := by decide +kernel
theorem dL_law_32 : decode cL_law 32 = .ok (.aload_n 0, 1) := by decide +kernel
theorem dL_law_33 : decode cL_law 33 = .ok (.iload 4, 2) := by decide +kernel
theorem dL_law_35 : decode cL_law 35 = .ok (.iaload, 1) := by decide +kernel
theorem dL_law_36 : decode cL_law 36 = .ok (.bipush 31, 2) := by decide +kernel
theorem dL_law_38 : decode cL_law 38 = .ok (.iand, 1) := by decide +kernel
theorem dL_law_39 : decode cL_law 39 = .ok (.tableswitch 1296 0 20 #[97, 153, 166, 222, 278, 346, 414, 470, 526, 582, 638, 694, 750, 818, 886, 953, 1008, 1063, 1131, 1186, 1241], 97) := by decide +kernel
theorem dL_law_136 : decode cL_law 136 = .ok (.aload_n 1, 1) := by decide +kernel
theorem dL_law_137 : decode cL_law 137 = .ok (.aload_n 0, 1) := by decide +kernel
theorem dL_law_138 : decode cL_law 138 = .ok (.iload 4, 2) := by decide +kernel
theorem dL_law_140 : decode cL_law 140 = .ok (.iconst 1, 1) := by decide +kernel
theorem dL_law_141 : decode cL_law 141 = .ok (.iadd, 1) := by decide +kernel
theorem dL_law_142 : decode cL_law 142 = .ok (.iaload, 1) := by decide +kernel
theorem dL_law_143 : decode cL_law 143 = .ok (.aload_n 3, 1) := by decide +kernel
theorem dL_law_144 : decode cL_law 144 = .ok (.invokestatic 83, 3) := by decide +kernel
theorem dL_law_147 : decode cL_law 147 = .ok (.istore 5, 2) := by decide +kernel
theorem dL_law_149 : decode cL_law 149 = .ok (.aload_n 2, 1) := by decide +kernel
theorem dL_law_150 : decode cL_law 150 = .ok (.aload_n 0, 1) := by decide +kernel
theorem dL_law_151 : decode cL_law 151 = .ok (.iload 4, 2) := by decide +kernel
theorem dL_law_153 : decode cL_law 153 = .ok (.iconst 1, 1) := by decide +kernel
theorem dL_law_154 : decode cL_law 154 = .ok (.iadd, 1) := by decide +kernel
theorem dL_law_155 : decode cL_law 155 = .ok (.iaload, 1) := by decide +kernel
theorem dL_law_156 : decode cL_law 156 = .ok (.invokevirtual 88, 3) := by decide +kernel
theorem dL_law_159 : decode cL_law 159 = .ok (.istore 6, 2) := by decide +kernel
theorem dL_law_161 : decode cL_law 161 = .ok (.aload_n 2, 1) := by decide +kernel
theorem dL_law_162 : decode cL_law 162 = .ok (.invokevirtual 89, 3) := by decide +kernel
theorem dL_law_165 : decode cL_law 165 = .ok (.iload 5, 2) := by decide +kernel
theorem dL_law_167 : decode cL_law 167 = .ok (.if_icmp .eq 5, 3) := by decide +kernel
theorem dL_law_170 : decode cL_law 170 = .ok (.iconst 0, 1) := by decide +kernel
theorem dL_law_171 : decode cL_law 171 = .ok (.ireturn, 1) := by decide +kernel
theorem dL_law_172 : decode cL_law 172 = .ok (.iload 5, 2) := by decide +kernel
theorem dL_law_174 : decode cL_law 174 = .ok (.ifCond .ne 15, 3) := by decide +kernel
theorem dL_law_177 : decode cL_law 177 = .ok (.aload_n 3, 1) := by decide +kernel
theorem dL_law_178 : decode cL_law 178 = .ok (.iconst 0, 1) := by decide +kernel
theorem dL_law_179 : decode cL_law 179 = .ok (.laload, 1) := by decide +kernel
theorem dL_law_180 : decode cL_law 180 = .ok (.iload 6, 2) := by decide +kernel
theorem dL_law_182 : decode cL_law 182 = .ok (.i2l, 1) := by decide +kernel
theorem dL_law_183 : decode cL_law 183 = .ok (.lcmp, 1) := by decide +kernel
theorem dL_law_184 : decode cL_law 184 = .ok (.ifCond .eq 5, 3) := by decide +kernel
theorem dL_law_187 : decode cL_law 187 = .ok (.iconst 0, 1) := by decide +kernel
theorem dL_law_188 : decode cL_law 188 = .ok (.ireturn, 1) := by decide +kernel
theorem dL_law_189 : decode cL_law 189 = .ok (.goto 1146, 3) := by decide +kernel
theorem dL_law_192 : decode cL_law 192 = .ok (.aload_n 1, 1) := by decide +kernel
theorem dL_law_193 : decode cL_law 193 = .ok (.invokevirtual 93, 3) := by decide +kernel
theorem dL_law_196 : decode cL_law 196 = .ok (.aload_n 2, 1) := by decide +kernel
theorem dL_law_197 : decode cL_law 197 = .ok (.invokevirtual 96, 3) := by decide +kernel
theorem dL_law_200 : decode cL_law 200 = .ok (.if_icmp .eq 1135, 3) := by decide +kernel
theorem dL_law_203 : decode cL_law 203 = .ok (.iconst 0, 1) := by decide +kernel
theorem dL_law_204 : decode cL_law 204 = .ok (.ireturn, 1) := by decide +kernel
theorem dL_law_205 : decode cL_law 205 = .ok (.aload_n 1, 1) := by decide +kernel
theorem dL_law_206 : decode cL_law 206 = .ok (.aload_n 0, 1) := by decide +kernel
theorem dL_law_207 : decode cL_law 207 = .ok (.iload 4, 2) := by decide +kernel
theorem dL_law_209 : decode cL_law 209 = .ok (.iconst 1, 1) := by decide +kernel
theorem dL_law_210 : decode cL_law 210 = .ok (.iadd, 1) := by decide +kernel
theorem dL_law_211 : decode cL_law 211 = .ok (.iaload, 1) := by decide +kernel
theorem dL_law_212 : decode cL_law 212 = .ok (.aload_n 3, 1) := by decide +kernel
theorem dL_law_213 : decode cL_law 213 = .ok (.invokestatic 97, 3) := by decide +kernel
theorem dL_law_216 : decode cL_law 216 = .ok (.istore 5, 2) := by decide +kernel
theorem dL_law_218 : decode cL_law 218 = .ok (.aload_n 2, 1) := by decide +kernel
theorem dL_law_219 : decode cL_law 219 = .ok (.aload_n 0, 1) := by decide +kernel
theorem dL_law_220 : decode cL_law 220 = .ok (.iload 4, 2) := by decide +kernel
theorem dL_law_222 : decode cL_law 222 = .ok (.iconst 1, 1) := by decide +kernel
theorem dL_law_223 : decode cL_law 223 = .ok (.iadd, 1) := by decide +kernel
theorem dL_law_224 : decode cL_law 224 = .ok (.iaload, 1) := by decide +kernel
theorem dL_law_225 : decode cL_law 225 = .ok (.invokevirtual 99, 3) := by decide +kernel
theorem dL_law_228 : decode cL_law 228 = .ok (.istore 6, 2) := by decide +kernel
theorem dL_law_230 : decode cL_law 230 = .ok (.aload_n 2, 1) := by decide +kernel
theorem dL_law_231 : decode cL_law 231 = .ok (.invokevirtual 89, 3) := by decide +kernel
theorem dL_law_234 : decode cL_law 234 = .ok (.iload 5, 2) := by decide +kernel
theorem dL_law_236 : decode cL_law 236 = .ok (.if_icmp .eq 5, 3) := by decide +kernel
theorem dL_law_239 : decode cL_law 239 = .ok (.iconst 0, 1) := by decide +kernel
theorem dL_law_240 : decode cL_law 240 = .ok (.ireturn, 1) := by decide +kernel
theorem dL_law_241 : decode cL_law 241 = .ok (.iload 5, 2) := by decide +kernel
theorem dL_law_243 : decode cL_law 243 = .ok (.ifCond .ne 15, 3) := by decide +kernel
theorem dL_law_246 : decode cL_law 246 = .ok (.aload_n 3, 1) := by decide +kernel
theorem dL_law_247 : decode cL_law 247 = .ok (.iconst 0, 1) := by decide +kernel
theorem dL_law_248 : decode cL_law 248 = .ok (.laload, 1) := by decide +kernel
theorem dL_law_249 : decode cL_law 249 = .ok (.iload 6, 2) := by decide +kernel
theorem dL_law_251 : decode cL_law 251 = .ok (.i2l, 1) := by decide +kernel
theorem dL_law_252 : decode cL_law 252 = .ok (.lcmp, 1) := by decide +kernel
theorem dL_law_253 : decode cL_law 253 = .ok (.ifCond .eq 5, 3) := by decide +kernel
theorem dL_law_256 : decode cL_law 256 = .ok (.iconst 0, 1) := by decide +kernel
theorem dL_law_257 : decode cL_law 257 = .ok (.ireturn, 1) := by decide +kernel
theorem dL_law_258 : decode cL_law 258 = .ok (.goto 1077, 3) := by decide +kernel
theorem dL_law_261 : decode cL_law 261 = .ok (.aload_n 1, 1) := by decide +kernel
theorem dL_law_262 : decode cL_law 262 = .ok (.aload_n 0, 1) := by decide +kernel
theorem dL_law_263 : decode cL_law 263 = .ok (.iload 4, 2) := by decide +kernel
theorem dL_law_265 : decode cL_law 265 = .ok (.iconst 1, 1) := by decide +kernel
theorem dL_law_266 : decode cL_law 266 = .ok (.iadd, 1) := by decide +kernel
theorem dL_law_267 : decode cL_law 267 = .ok (.iaload, 1) := by decide +kernel
theorem dL_law_268 : decode cL_law 268 = .ok (.aload_n 3, 1) := by decide +kernel
theorem dL_law_269 : decode cL_law 269 = .ok (.invokestatic 100, 3) := by decide +kernel
theorem dL_law_272 : decode cL_law 272 = .ok (.istore 5, 2) := by decide +kernel
theorem dL_law_274 : decode cL_law 274 = .ok (.aload_n 2, 1) := by decide +kernel
theorem dL_law_275 : decode cL_law 275 = .ok (.aload_n 0, 1) := by decide +kernel
theorem dL_law_276 : decode cL_law 276 = .ok (.iload 4, 2) := by decide +kernel
theorem dL_law_278 : decode cL_law 278 = .ok (.iconst 1, 1) := by decide +kernel
theorem dL_law_279 : decode cL_law 279 = .ok (.iadd, 1) := by decide +kernel
theorem dL_law_280 : decode cL_law 280 = .ok (.iaload, 1) := by decide +kernel
theorem dL_law_281 : decode cL_law 281 = .ok (.invokevirtual 102, 3) := by decide +kernel
theorem dL_law_284 : decode cL_law 284 = .ok (.istore 6, 2) := by decide +kernel
theorem dL_law_286 : decode cL_law 286 = .ok (.aload_n 2, 1) := by decide +kernel
theorem dL_law_287 : decode cL_law 287 = .ok (.invokevirtual 89, 3) := by decide +kernel
theorem dL_law_290 : decode cL_law 290 = .ok (.iload 5, 2) := by decide +kernel
theorem dL_law_292 : decode cL_law 292 = .ok (.if_icmp .eq 5, 3) := by decide +kernel
theorem dL_law_295 : decode cL_law 295 = .ok (.iconst 0, 1) := by decide +kernel
theorem dL_law_296 : decode cL_law 296 = .ok (.ireturn, 1) := by decide +kernel
theorem dL_law_297 : decode cL_law 297 = .ok (.iload 5, 2) := by decide +kernel
theorem dL_law_299 : decode cL_law 299 = .ok (.ifCond .ne 15, 3) := by decide +kernel
theorem dL_law_302 : decode cL_law 302 = .ok (.aload_n 3, 1) := by decide +kernel
theorem dL_law_303 : decode cL_law 303 = .ok (.iconst 0, 1) := by decide +kernel
theorem dL_law_304 : decode cL_law 304 = .ok (.laload, 1) := by decide +kernel
theorem dL_law_305 : decode cL_law 305 = .ok (.iload 6, 2) := by decide +kernel
theorem dL_law_307 : decode cL_law 307 = .ok (.i2l, 1) := by decide +kernel
theorem dL_law_308 : decode cL_law 308 = .ok (.lcmp, 1) := by decide +kernel
theorem dL_law_309 : decode cL_law 309 = .ok (.ifCond .eq 5, 3) := by decide +kernel
theorem dL_law_312 : decode cL_law 312 = .ok (.iconst 0, 1) := by decide +kernel
theorem dL_law_313 : decode cL_law 313 = .ok (.ireturn, 1) := by decide +kernel
theorem dL_law_314 : decode cL_law 314 = .ok (.goto 1021, 3) := by decide +kernel
theorem dL_law_317 : decode cL_law 317 = .ok (.aload_n 1, 1) := by decide +kernel
theorem dL_law_318 : decode cL_law 318 = .ok (.aload_n 0, 1) := by decide +kernel
theorem dL_law_319 : decode cL_law 319 = .ok (.iload 4, 2) := by decide +kernel
theorem dL_law_321 : decode cL_law 321 = .ok (.iconst 1, 1) := by decide +kernel
theorem dL_law_322 : decode cL_law 322 = .ok (.iadd, 1) := by decide +kernel
theorem dL_law_323 : decode cL_law 323 = .ok (.iaload, 1) := by decide +kernel
theorem dL_law_324 : decode cL_law 324 = .ok (.aload_n 0, 1) := by decide +kernel
theorem dL_law_325 : decode cL_law 325 = .ok (.iload 4, 2) := by decide +kernel
theorem dL_law_327 : decode cL_law 327 = .ok (.iconst 2, 1) := by decide +kernel
theorem dL_law_328 : decode cL_law 328 = .ok (.iadd, 1) := by decide +kernel
theorem dL_law_329 : decode cL_law 329 = .ok (.iaload, 1) := by decide +kernel
theorem dL_law_330 : decode cL_law 330 = .ok (.aload_n 3, 1) := by decide +kernel
theorem dL_law_331 : decode cL_law 331 = .ok (.invokestatic 103, 3) := by decide +kernel
theorem dL_law_334 : decode cL_law 334 = .ok (.istore 5, 2) := by decide +kernel
theorem dL_law_336 : decode cL_law 336 = .ok (.aload_n 2, 1) := by decide +kernel
theorem dL_law_337 : decode cL_law 337 = .ok (.aload_n 0, 1) := by decide +kernel
theorem dL_law_338 : decode cL_law 338 = .ok (.iload 4, 2) := by decide +kernel
theorem dL_law_340 : decode cL_law 340 = .ok (.iconst 1, 1) := by decide +kernel
theorem dL_law_341 : decode cL_law 341 = .ok (.iadd, 1) := by decide +kernel
theorem dL_law_342 : decode cL_law 342 = .ok (.iaload, 1) := by decide +kernel
theorem dL_law_343 : decode cL_law 343 = .ok (.aload_n 0, 1) := by decide +kernel
theorem dL_law_344 : decode cL_law 344 = .ok (.iload 4, 2) := by decide +kernel
theorem dL_law_346 : decode cL_law 346 = .ok (.iconst 2, 1) := by decide +kernel
theorem dL_law_347 : decode cL_law 347 = .ok (.iadd, 1) := by decide +kernel
theorem dL_law_348 : decode cL_law 348 = .ok (.iaload, 1) := by decide +kernel
theorem dL_law_349 : decode cL_law 349 = .ok (.invokevirtual 106, 3) := by decide +kernel
theorem dL_law_352 : decode cL_law 352 = .ok (.istore 6, 2) := by decide +kernel
theorem dL_law_354 : decode cL_law 354 = .ok (.aload_n 2, 1) := by decide +kernel
theorem dL_law_355 : decode cL_law 355 = .ok (.invokevirtual 89, 3) := by decide +kernel
theorem dL_law_358 : decode cL_law 358 = .ok (.iload 5, 2) := by decide +kernel
theorem dL_law_360 : decode cL_law 360 = .ok (.if_icmp .eq 5, 3) := by decide +kernel
theorem dL_law_363 : decode cL_law 363 = .ok (.iconst 0, 1) := by decide +kernel
theorem dL_law_364 : decode cL_law 364 = .ok (.ireturn, 1) := by decide +kernel
theorem dL_law_365 : decode cL_law 365 = .ok (.iload 5, 2) := by decide +kernel
theorem dL_law_367 : decode cL_law 367 = .ok (.ifCond .ne 15, 3) := by decide +kernel
theorem dL_law_370 : decode cL_law 370 = .ok (.aload_n 3, 1) := by decide +kernel
theorem dL_law_371 : decode cL_law 371 = .ok (.iconst 0, 1) := by decide +kernel
theorem dL_law_372 : decode cL_law 372 = .ok (.laload, 1) := by decide +kernel
theorem dL_law_373 : decode cL_law 373 = .ok (.iload 6, 2) := by decide +kernel
theorem dL_law_375 : decode cL_law 375 = .ok (.i2l, 1) := by decide +kernel
theorem dL_law_376 : decode cL_law 376 = .ok (.lcmp, 1) := by decide +kernel
theorem dL_law_377 : decode cL_law 377 = .ok (.ifCond .eq 5, 3) := by decide +kernel
theorem dL_law_380 : decode cL_law 380 = .ok (.iconst 0, 1) := by decide +kernel
theorem dL_law_381 : decode cL_law 381 = .ok (.ireturn, 1) := by decide +kernel
theorem dL_law_382 : decode cL_law 382 = .ok (.goto 953, 3) := by decide +kernel
theorem dL_law_385 : decode cL_law 385 = .ok (.aload_n 1, 1) := by decide +kernel
theorem dL_law_386 : decode cL_law 386 = .ok (.aload_n 0, 1) := by decide +kernel
theorem dL_law_387 : decode cL_law 387 = .ok (.iload 4, 2) := by decide +kernel
theorem dL_law_389 : decode cL_law 389 = .ok (.iconst 1, 1) := by decide +kernel
theorem dL_law_390 : decode cL_law 390 = .ok (.iadd, 1) := by decide +kernel
theorem dL_law_391 : decode cL_law 391 = .ok (.iaload, 1) := by decide +kernel
theorem dL_law_392 : decode cL_law 392 = .ok (.aload_n 0, 1) := by decide +kernel
theorem dL_law_393 : decode cL_law 393 = .ok (.iload 4, 2) := by decide +kernel
theorem dL_law_395 : decode cL_law 395 = .ok (.iconst 2, 1) := by decide +kernel
theorem dL_law_396 : decode cL_law 396 = .ok (.iadd, 1) := by decide +kernel
theorem dL_law_397 : decode cL_law 397 = .ok (.iaload, 1) := by decide +kernel
theorem dL_law_398 : decode cL_law 398 = .ok (.aload_n 3, 1) := by decide +kernel
theorem dL_law_399 : decode cL_law 399 = .ok (.invokestatic 107, 3) := by decide +kernel
theorem dL_law_402 : decode cL_law 402 = .ok (.istore 5, 2) := by decide +kernel
theorem dL_law_404 : decode cL_law 404 = .ok (.aload_n 2, 1) := by decide +kernel
theorem dL_law_405 : decode cL_law 405 = .ok (.aload_n 0, 1) := by decide +kernel
theorem dL_law_406 : decode cL_law 406 = .ok (.iload 4, 2) := by decide +kernel
theorem dL_law_408 : decode cL_law 408 = .ok (.iconst 1, 1) := by decide +kernel
theorem dL_law_409 : decode cL_law 409 = .ok (.iadd, 1) := by decide +kernel
theorem dL_law_410 : decode cL_law 410 = .ok (.iaload, 1) := by decide +kernel
theorem dL_law_411 : decode cL_law 411 = .ok (.aload_n 0, 1) := by decide +kernel
theorem dL_law_412 : decode cL_law 412 = .ok (.iload 4, 2) := by decide +kernel
theorem dL_law_414 : decode cL_law 414 = .ok (.iconst 2, 1) := by decide +kernel
theorem dL_law_415 : decode cL_law 415 = .ok (.iadd, 1) := by decide +kernel
theorem dL_law_416 : decode cL_law 416 = .ok (.iaload, 1) := by decide +kernel
theorem dL_law_417 : decode cL_law 417 = .ok (.invokevirtual 109, 3) := by decide +kernel
theorem dL_law_420 : decode cL_law 420 = .ok (.istore 6, 2) := by decide +kernel
theorem dL_law_422 : decode cL_law 422 = .ok (.aload_n 2, 1) := by decide +kernel
theorem dL_law_423 : decode cL_law 423 = .ok (.invokevirtual 89, 3) := by decide +kernel
theorem dL_law_426 : decode cL_law 426 = .ok (.iload 5, 2) := by decide +kernel
theorem dL_law_428 : decode cL_law 428 = .ok (.if_icmp .eq 5, 3) := by decide +kernel
theorem dL_law_431 : decode cL_law 431 = .ok (.iconst 0, 1) := by decide +kernel
theorem dL_law_432 : decode cL_law 432 = .ok (.ireturn, 1) := by decide +kernel
theorem dL_law_433 : decode cL_law 433 = .ok (.iload 5, 2) := by decide +kernel
theorem dL_law_435 : decode cL_law 435 = .ok (.ifCond .ne 15, 3) := by decide +kernel
theorem dL_law_438 : decode cL_law 438 = .ok (.aload_n 3, 1) := by decide +kernel
theorem dL_law_439 : decode cL_law 439 = .ok (.iconst 0, 1) := by decide +kernel
theorem dL_law_440 : decode cL_law 440 = .ok (.laload, 1) := by decide +kernel
theorem dL_law_441 : decode cL_law 441 = .ok (.iload 6, 2) := by decide +kernel
theorem dL_law_443 : decode cL_law 443 = .ok (.i2l, 1) := by decide +kernel
theorem dL_law_444 : decode cL_law 444 = .ok (.lcmp, 1) := by decide +kernel
theorem dL_law_445 : decode cL_law 445 = .ok (.ifCond .eq 5, 3) := by decide +kernel
theorem dL_law_448 : decode cL_law 448 = .ok (.iconst 0, 1) := by decide +kernel
theorem dL_law_449 : decode cL_law 449 = .ok (.ireturn, 1) := by decide +kernel
theorem dL_law_450 : decode cL_law 450 = .ok (.goto 885, 3) := by decide +kernel
theorem dL_law_453 : decode cL_law 453 = .ok (.aload_n 1, 1) := by decide +kernel
theorem dL_law_454 : decode cL_law 454 = .ok (.aload_n 0, 1) := by decide +kernel
theorem dL_law_455 : decode cL_law 455 = .ok (.iload 4, 2) := by decide +kernel
theorem dL_law_457 : decode cL_law 457 = .ok (.iconst 1, 1) := by decide +kernel
theorem dL_law_458 : decode cL_law 458 = .ok (.iadd, 1) := by decide +kernel
theorem dL_law_459 : decode cL_law 459 = .ok (.iaload, 1) := by decide +kernel
theorem dL_law_460 : decode cL_law 460 = .ok (.aload_n 3, 1) := by decide +kernel
theorem dL_law_461 : decode cL_law 461 = .ok (.invokestatic 110, 3) := by decide +kernel
theorem dL_law_464 : decode cL_law 464 = .ok (.istore 5, 2) := by decide +kernel
theorem dL_law_466 : decode cL_law 466 = .ok (.aload_n 2, 1) := by decide +kernel
theorem dL_law_467 : decode cL_law 467 = .ok (.aload_n 0, 1) := by decide +kernel
theorem dL_law_468 : decode cL_law 468 = .ok (.iload 4, 2) := by decide +kernel
theorem dL_law_470 : decode cL_law 470 = .ok (.iconst 1, 1) := by decide +kernel
theorem dL_law_471 : decode cL_law 471 = .ok (.iadd, 1) := by decide +kernel
theorem dL_law_472 : decode cL_law 472 = .ok (.iaload, 1) := by decide +kernel
theorem dL_law_473 : decode cL_law 473 = .ok (.invokevirtual 112, 3) := by decide +kernel
theorem dL_law_476 : decode cL_law 476 = .ok (.istore 6, 2) := by decide +kernel
theorem dL_law_478 : decode cL_law 478 = .ok (.aload_n 2, 1) := by decide +kernel
theorem dL_law_479 : decode cL_law 479 = .ok (.invokevirtual 89, 3) := by decide +kernel
theorem dL_law_482 : decode cL_law 482 = .ok (.iload 5, 2) := by decide +kernel
theorem dL_law_484 : decode cL_law 484 = .ok (.if_icmp .eq 5, 3) := by decide +kernel
theorem dL_law_487 : decode cL_law 487 = .ok (.iconst 0, 1) := by decide +kernel
theorem dL_law_488 : decode cL_law 488 = .ok (.ireturn, 1) := by decide +kernel
theorem dL_law_489 : decode cL_law 489 = .ok (.iload 5, 2) := by decide +kernel
theorem dL_law_491 : decode cL_law 491 = .ok (.ifCond .ne 15, 3) := by decide +kernel
theorem dL_law_494 : decode cL_law 494 = .ok (.aload_n 3, 1) := by decide +kernel
theorem dL_law_495 : decode cL_law 495 = .ok (.iconst 0, 1) := by decide +kernel
theorem dL_law_496 : decode cL_law 496 = .ok (.laload, 1) := by decide +kernel
theorem dL_law_497 : decode cL_law 497 = .ok (.iload 6, 2) := by decide +kernel
theorem dL_law_499 : decode cL_law 499 = .ok (.i2l, 1) := by decide +kernel
theorem dL_law_500 : decode cL_law 500 = .ok (.lcmp, 1) := by decide +kernel
theorem dL_law_501 : decode cL_law 501 = .ok (.ifCond .eq 5, 3) := by decide +kernel
theorem dL_law_504 : decode cL_law 504 = .ok (.iconst 0, 1) := by decide +kernel
theorem dL_law_505 : decode cL_law 505 = .ok (.ireturn, 1) := by decide +kernel
theorem dL_law_506 : decode cL_law 506 = .ok (.goto 829, 3) := by decide +kernel
theorem dL_law_509 : decode cL_law 509 = .ok (.aload_n 1, 1) := by decide +kernel
theorem dL_law_510 : decode cL_law 510 = .ok (.aload_n 0, 1) := by decide +kernel
theorem dL_law_511 : decode cL_law 511 = .ok (.iload 4, 2) := by decide +kernel
theorem dL_law_513 : decode cL_law 513 = .ok (.iconst 1, 1) := by decide +kernel
theorem dL_law_514 : decode cL_law 514 = .ok (.iadd, 1) := by decide +kernel
theorem dL_law_515 : decode cL_law 515 = .ok (.iaload, 1) := by decide +kernel
theorem dL_law_516 : decode cL_law 516 = .ok (.aload_n 3, 1) := by decide +kernel
theorem dL_law_517 : decode cL_law 517 = .ok (.invokestatic 113, 3) := by decide +kernel
theorem dL_law_520 : decode cL_law 520 = .ok (.istore 5, 2) := by decide +kernel
theorem dL_law_522 : decode cL_law 522 = .ok (.aload_n 2, 1) := by decide +kernel
theorem dL_law_523 : decode cL_law 523 = .ok (.aload_n 0, 1) := by decide +kernel
theorem dL_law_524 : decode cL_law 524 = .ok (.iload 4, 2) := by decide +kernel
theorem dL_law_526 : decode cL_law 526 = .ok (.iconst 1, 1) := by decide +kernel
theorem dL_law_527 : decode cL_law 527 = .ok (.iadd, 1) := by decide +kernel
theorem dL_law_528 : decode cL_law 528 = .ok (.iaload, 1) := by decide +kernel
theorem dL_law_529 : decode cL_law 529 = .ok (.invokevirtual 115, 3) := by decide +kernel
theorem dL_law_532 : decode cL_law 532 = .ok (.istore 6, 2) := by decide +kernel
theorem dL_law_534 : decode cL_law 534 = .ok (.aload_n 2, 1) := by decide +kernel
theorem dL_law_535 : decode cL_law 535 = .ok (.invokevirtual 89, 3) := by decide +kernel
theorem dL_law_538 : decode cL_law 538 = .ok (.iload 5, 2) := by decide +kernel
theorem dL_law_540 : decode cL_law 540 = .ok (.if_icmp .eq 5, 3) := by decide +kernel
theorem dL_law_543 : decode cL_law 543 = .ok (.iconst 0, 1) := by decide +kernel
theorem dL_law_544 : decode cL_law 544 = .ok (.ireturn, 1) := by decide +kernel
theorem dL_law_545 : decode cL_law 545 = .ok (.iload 5, 2) := by decide +kernel
theorem dL_law_547 : decode cL_law 547 = .ok (.ifCond .ne 15, 3) := by decide +kernel
theorem dL_law_550 : decode cL_law 550 = .ok (.aload_n 3, 1) := by decide +kernel
theorem dL_law_551 : decode cL_law 551 = .ok (.iconst 0, 1) := by decide +kernel
theorem dL_law_552 : decode cL_law 552 = .ok (.laload, 1) := by decide +kernel
theorem dL_law_553 : decode cL_law 553 = .ok (.iload 6, 2) := by decide +kernel
theorem dL_law_555 : decode cL_law 555 = .ok (.i2l, 1) := by decide +kernel
theorem dL_law_556 : decode cL_law 556 = .ok (.lcmp, 1) := by decide +kernel
theorem dL_law_557 : decode cL_law 557 = .ok (.ifCond .eq 5, 3) := by decide +kernel
theorem dL_law_560 : decode cL_law 560 = .ok (.iconst 0, 1) := by decide +kernel
theorem dL_law_561 : decode cL_law 561 = .ok (.ireturn, 1) := by decide +kernel
theorem dL_law_562 : decode cL_law 562 = .ok (.goto 773, 3) := by decide +kernel
theorem dL_law_565 : decode cL_law 565 = .ok (.aload_n 1, 1) := by decide +kernel
theorem dL_law_566 : decode cL_law 566 = .ok (.aload_n 0, 1) := by decide +kernel
theorem dL_law_567 : decode cL_law 567 = .ok (.iload 4, 2) := by decide +kernel
theorem dL_law_569 : decode cL_law 569 = .ok (.iconst 1, 1) := by decide +kernel
theorem dL_law_570 : decode cL_law 570 = .ok (.iadd, 1) := by decide +kernel
theorem dL_law_571 : decode cL_law 571 = .ok (.iaload, 1) := by decide +kernel
theorem dL_law_572 : decode cL_law 572 = .ok (.aload_n 3, 1) := by decide +kernel
theorem dL_law_573 : decode cL_law 573 = .ok (.invokestatic 116, 3) := by decide +kernel
theorem dL_law_576 : decode cL_law 576 = .ok (.istore 5, 2) := by decide +kernel
theorem dL_law_578 : decode cL_law 578 = .ok (.aload_n 2, 1) := by decide +kernel
theorem dL_law_579 : decode cL_law 579 = .ok (.aload_n 0, 1) := by decide +kernel
theorem dL_law_580 : decode cL_law 580 = .ok (.iload 4, 2) := by decide +kernel
theorem dL_law_582 : decode cL_law 582 = .ok (.iconst 1, 1) := by decide +kernel
theorem dL_law_583 : decode cL_law 583 = .ok (.iadd, 1) := by decide +kernel
theorem dL_law_584 : decode cL_law 584 = .ok (.iaload, 1) := by decide +kernel
theorem dL_law_585 : decode cL_law 585 = .ok (.invokevirtual 118, 3) := by decide +kernel
theorem dL_law_588 : decode cL_law 588 = .ok (.istore 6, 2) := by decide +kernel
theorem dL_law_590 : decode cL_law 590 = .ok (.aload_n 2, 1) := by decide +kernel
theorem dL_law_591 : decode cL_law 591 = .ok (.invokevirtual 89, 3) := by decide +kernel
theorem dL_law_594 : decode cL_law 594 = .ok (.iload 5, 2) := by decide +kernel
theorem dL_law_596 : decode cL_law 596 = .ok (.if_icmp .eq 5, 3) := by decide +kernel
theorem dL_law_599 : decode cL_law 599 = .ok (.iconst 0, 1) := by decide +kernel
theorem dL_law_600 : decode cL_law 600 = .ok (.ireturn, 1) := by decide +kernel
theorem dL_law_601 : decode cL_law 601 = .ok (.iload 5, 2) := by decide +kernel
theorem dL_law_603 : decode cL_law 603 = .ok (.ifCond .ne 15, 3) := by decide +kernel
theorem dL_law_606 : decode cL_law 606 = .ok (.aload_n 3, 1) := by decide +kernel
theorem dL_law_607 : decode cL_law 607 = .ok (.iconst 0, 1) := by decide +kernel
theorem dL_law_608 : decode cL_law 608 = .ok (.laload, 1) := by decide +kernel
theorem dL_law_609 : decode cL_law 609 = .ok (.iload 6, 2) := by decide +kernel
theorem dL_law_611 : decode cL_law 611 = .ok (.i2l, 1) := by decide +kernel
theorem dL_law_612 : decode cL_law 612 = .ok (.lcmp, 1) := by decide +kernel
theorem dL_law_613 : decode cL_law 613 = .ok (.ifCond .eq 5, 3) := by decide +kernel
theorem dL_law_616 : decode cL_law 616 = .ok (.iconst 0, 1) := by decide +kernel
theorem dL_law_617 : decode cL_law 617 = .ok (.ireturn, 1) := by decide +kernel
theorem dL_law_618 : decode cL_law 618 = .ok (.goto 717, 3) := by decide +kernel
theorem dL_law_621 : decode cL_law 621 = .ok (.aload_n 1, 1) := by decide +kernel
theorem dL_law_622 : decode cL_law 622 = .ok (.aload_n 0, 1) := by decide +kernel
theorem dL_law_623 : decode cL_law 623 = .ok (.iload 4, 2) := by decide +kernel
theorem dL_law_625 : decode cL_law 625 = .ok (.iconst 1, 1) := by decide +kernel
theorem dL_law_626 : decode cL_law 626 = .ok (.iadd, 1) := by decide +kernel
theorem dL_law_627 : decode cL_law 627 = .ok (.iaload, 1) := by decide +kernel
theorem dL_law_628 : decode cL_law 628 = .ok (.aload_n 3, 1) := by decide +kernel
theorem dL_law_629 : decode cL_law 629 = .ok (.invokestatic 119, 3) := by decide +kernel
theorem dL_law_632 : decode cL_law 632 = .ok (.istore 5, 2) := by decide +kernel
theorem dL_law_634 : decode cL_law 634 = .ok (.aload_n 2, 1) := by decide +kernel
theorem dL_law_635 : decode cL_law 635 = .ok (.aload_n 0, 1) := by decide +kernel
theorem dL_law_636 : decode cL_law 636 = .ok (.iload 4, 2) := by decide +kernel
theorem dL_law_638 : decode cL_law 638 = .ok (.iconst 1, 1) := by decide +kernel
theorem dL_law_639 : decode cL_law 639 = .ok (.iadd, 1) := by decide +kernel
theorem dL_law_640 : decode cL_law 640 = .ok (.iaload, 1) := by decide +kernel
theorem dL_law_641 : decode cL_law 641 = .ok (.invokevirtual 121, 3) := by decide +kernel
theorem dL_law_644 : decode cL_law 644 = .ok (.istore 6, 2) := by decide +kernel
theorem dL_law_646 : decode cL_law 646 = .ok (.aload_n 2, 1) := by decide +kernel
theorem dL_law_647 : decode cL_law 647 = .ok (.invokevirtual 89, 3) := by decide +kernel
theorem dL_law_650 : decode cL_law 650 = .ok (.iload 5, 2) := by decide +kernel
theorem dL_law_652 : decode cL_law 652 = .ok (.if_icmp .eq 5, 3) := by decide +kernel
theorem dL_law_655 : decode cL_law 655 = .ok (.iconst 0, 1) := by decide +kernel
theorem dL_law_656 : decode cL_law 656 = .ok (.ireturn, 1) := by decide +kernel
theorem dL_law_657 : decode cL_law 657 = .ok (.iload 5, 2) := by decide +kernel
theorem dL_law_659 : decode cL_law 659 = .ok (.ifCond .ne 15, 3) := by decide +kernel
theorem dL_law_662 : decode cL_law 662 = .ok (.aload_n 3, 1) := by decide +kernel
theorem dL_law_663 : decode cL_law 663 = .ok (.iconst 0, 1) := by decide +kernel
theorem dL_law_664 : decode cL_law 664 = .ok (.laload, 1) := by decide +kernel
theorem dL_law_665 : decode cL_law 665 = .ok (.iload 6, 2) := by decide +kernel
theorem dL_law_667 : decode cL_law 667 = .ok (.i2l, 1) := by decide +kernel
theorem dL_law_668 : decode cL_law 668 = .ok (.lcmp, 1) := by decide +kernel
theorem dL_law_669 : decode cL_law 669 = .ok (.ifCond .eq 5, 3) := by decide +kernel
theorem dL_law_672 : decode cL_law 672 = .ok (.iconst 0, 1) := by decide +kernel
theorem dL_law_673 : decode cL_law 673 = .ok (.ireturn, 1) := by decide +kernel
theorem dL_law_674 : decode cL_law 674 = .ok (.goto 661, 3) := by decide +kernel
theorem dL_law_677 : decode cL_law 677 = .ok (.aload_n 1, 1) := by decide +kernel
theorem dL_law_678 : decode cL_law 678 = .ok (.aload_n 0, 1) := by decide +kernel
theorem dL_law_679 : decode cL_law 679 = .ok (.iload 4, 2) := by decide +kernel
theorem dL_law_681 : decode cL_law 681 = .ok (.iconst 1, 1) := by decide +kernel
theorem dL_law_682 : decode cL_law 682 = .ok (.iadd, 1) := by decide +kernel
theorem dL_law_683 : decode cL_law 683 = .ok (.iaload, 1) := by decide +kernel
theorem dL_law_684 : decode cL_law 684 = .ok (.aload_n 3, 1) := by decide +kernel
theorem dL_law_685 : decode cL_law 685 = .ok (.invokestatic 122, 3) := by decide +kernel
theorem dL_law_688 : decode cL_law 688 = .ok (.istore 5, 2) := by decide +kernel
theorem dL_law_690 : decode cL_law 690 = .ok (.aload_n 2, 1) := by decide +kernel
theorem dL_law_691 : decode cL_law 691 = .ok (.aload_n 0, 1) := by decide +kernel
theorem dL_law_692 : decode cL_law 692 = .ok (.iload 4, 2) := by decide +kernel
theorem dL_law_694 : decode cL_law 694 = .ok (.iconst 1, 1) := by decide +kernel
theorem dL_law_695 : decode cL_law 695 = .ok (.iadd, 1) := by decide +kernel
theorem dL_law_696 : decode cL_law 696 = .ok (.iaload, 1) := by decide +kernel
theorem dL_law_697 : decode cL_law 697 = .ok (.invokevirtual 124, 3) := by decide +kernel
theorem dL_law_700 : decode cL_law 700 = .ok (.istore 6, 2) := by decide +kernel
theorem dL_law_702 : decode cL_law 702 = .ok (.aload_n 2, 1) := by decide +kernel
theorem dL_law_703 : decode cL_law 703 = .ok (.invokevirtual 89, 3) := by decide +kernel
theorem dL_law_706 : decode cL_law 706 = .ok (.iload 5, 2) := by decide +kernel
theorem dL_law_708 : decode cL_law 708 = .ok (.if_icmp .eq 5, 3) := by decide +kernel
theorem dL_law_711 : decode cL_law 711 = .ok (.iconst 0, 1) := by decide +kernel
theorem dL_law_712 : decode cL_law 712 = .ok (.ireturn, 1) := by decide +kernel
theorem dL_law_713 : decode cL_law 713 = .ok (.iload 5, 2) := by decide +kernel
theorem dL_law_715 : decode cL_law 715 = .ok (.ifCond .ne 15, 3) := by decide +kernel
theorem dL_law_718 : decode cL_law 718 = .ok (.aload_n 3, 1) := by decide +kernel
theorem dL_law_719 : decode cL_law 719 = .ok (.iconst 0, 1) := by decide +kernel
theorem dL_law_720 : decode cL_law 720 = .ok (.laload, 1) := by decide +kernel
end
section
theorem dL_law_721 : decode cL_law 721 = .ok (.iload 6, 2) := by decide +kernel
theorem dL_law_723 : decode cL_law 723 = .ok (.i2l, 1) := by decide +kernel
theorem dL_law_724 : decode cL_law 724 = .ok (.lcmp, 1) := by decide +kernel
theorem dL_law_725 : decode cL_law 725 = .ok (.ifCond .eq 5, 3) := by decide +kernel
theorem dL_law_728 : decode cL_law 728 = .ok (.iconst 0, 1) := by decide +kernel
theorem dL_law_729 : decode cL_law 729 = .ok (.ireturn, 1) := by decide +kernel
theorem dL_law_730 : decode cL_law 730 = .ok (.goto 605, 3) := by decide +kernel
theorem dL_law_733 : decode cL_law 733 = .ok (.aload_n 1, 1) := by decide +kernel
theorem dL_law_734 : decode cL_law 734 = .ok (.aload_n 0, 1) := by decide +kernel
theorem dL_law_735 : decode cL_law 735 = .ok (.iload 4, 2) := by decide +kernel
theorem dL_law_737 : decode cL_law 737 = .ok (.iconst 1, 1) := by decide +kernel
theorem dL_law_738 : decode cL_law 738 = .ok (.iadd, 1) := by decide +kernel
theorem dL_law_739 : decode cL_law 739 = .ok (.iaload, 1) := by decide +kernel
theorem dL_law_740 : decode cL_law 740 = .ok (.aload_n 3, 1) := by decide +kernel
theorem dL_law_741 : decode cL_law 741 = .ok (.invokestatic 125, 3) := by decide +kernel
theorem dL_law_744 : decode cL_law 744 = .ok (.istore 5, 2) := by decide +kernel
theorem dL_law_746 : decode cL_law 746 = .ok (.aload_n 2, 1) := by decide +kernel
theorem dL_law_747 : decode cL_law 747 = .ok (.aload_n 0, 1) := by decide +kernel
theorem dL_law_748 : decode cL_law 748 = .ok (.iload 4, 2) := by decide +kernel
theorem dL_law_750 : decode cL_law 750 = .ok (.iconst 1, 1) := by decide +kernel
theorem dL_law_751 : decode cL_law 751 = .ok (.iadd, 1) := by decide +kernel
theorem dL_law_752 : decode cL_law 752 = .ok (.iaload, 1) := by decide +kernel
theorem dL_law_753 : decode cL_law 753 = .ok (.invokevirtual 127, 3) := by decide +kernel
theorem dL_law_756 : decode cL_law 756 = .ok (.istore 6, 2) := by decide +kernel
theorem dL_law_758 : decode cL_law 758 = .ok (.aload_n 2, 1) := by decide +kernel
theorem dL_law_759 : decode cL_law 759 = .ok (.invokevirtual 89, 3) := by decide +kernel
theorem dL_law_762 : decode cL_law 762 = .ok (.iload 5, 2) := by decide +kernel
theorem dL_law_764 : decode cL_law 764 = .ok (.if_icmp .eq 5, 3) := by decide +kernel
theorem dL_law_767 : decode cL_law 767 = .ok (.iconst 0, 1) := by decide +kernel
theorem dL_law_768 : decode cL_law 768 = .ok (.ireturn, 1) := by decide +kernel
theorem dL_law_769 : decode cL_law 769 = .ok (.iload 5, 2) := by decide +kernel
theorem dL_law_771 : decode cL_law 771 = .ok (.ifCond .ne 15, 3) := by decide +kernel
theorem dL_law_774 : decode cL_law 774 = .ok (.aload_n 3, 1) := by decide +kernel
theorem dL_law_775 : decode cL_law 775 = .ok (.iconst 0, 1) := by decide +kernel
theorem dL_law_776 : decode cL_law 776 = .ok (.laload, 1) := by decide +kernel
theorem dL_law_777 : decode cL_law 777 = .ok (.iload 6, 2) := by decide +kernel
theorem dL_law_779 : decode cL_law 779 = .ok (.i2l, 1) := by decide +kernel
theorem dL_law_780 : decode cL_law 780 = .ok (.lcmp, 1) := by decide +kernel
theorem dL_law_781 : decode cL_law 781 = .ok (.ifCond .eq 5, 3) := by decide +kernel
theorem dL_law_784 : decode cL_law 784 = .ok (.iconst 0, 1) := by decide +kernel
theorem dL_law_785 : decode cL_law 785 = .ok (.ireturn, 1) := by decide +kernel
theorem dL_law_786 : decode cL_law 786 = .ok (.goto 549, 3) := by decide +kernel
theorem dL_law_789 : decode cL_law 789 = .ok (.aload_n 1, 1) := by decide +kernel
theorem dL_law_790 : decode cL_law 790 = .ok (.aload_n 0, 1) := by decide +kernel
theorem dL_law_791 : decode cL_law 791 = .ok (.iload 4, 2) := by decide +kernel
theorem dL_law_793 : decode cL_law 793 = .ok (.iconst 1, 1) := by decide +kernel
theorem dL_law_794 : decode cL_law 794 = .ok (.iadd, 1) := by decide +kernel
theorem dL_law_795 : decode cL_law 795 = .ok (.iaload, 1) := by decide +kernel
theorem dL_law_796 : decode cL_law 796 = .ok (.aload_n 0, 1) := by decide +kernel
theorem dL_law_797 : decode cL_law 797 = .ok (.iload 4, 2) := by decide +kernel
theorem dL_law_799 : decode cL_law 799 = .ok (.iconst 2, 1) := by decide +kernel
theorem dL_law_800 : decode cL_law 800 = .ok (.iadd, 1) := by decide +kernel
theorem dL_law_801 : decode cL_law 801 = .ok (.iaload, 1) := by decide +kernel
theorem dL_law_802 : decode cL_law 802 = .ok (.aload_n 3, 1) := by decide +kernel
theorem dL_law_803 : decode cL_law 803 = .ok (.invokestatic 128, 3) := by decide +kernel
theorem dL_law_806 : decode cL_law 806 = .ok (.istore 5, 2) := by decide +kernel
theorem dL_law_808 : decode cL_law 808 = .ok (.aload_n 2, 1) := by decide +kernel
theorem dL_law_809 : decode cL_law 809 = .ok (.aload_n 0, 1) := by decide +kernel
theorem dL_law_810 : decode cL_law 810 = .ok (.iload 4, 2) := by decide +kernel
theorem dL_law_812 : decode cL_law 812 = .ok (.iconst 1, 1) := by decide +kernel
theorem dL_law_813 : decode cL_law 813 = .ok (.iadd, 1) := by decide +kernel
theorem dL_law_814 : decode cL_law 814 = .ok (.iaload, 1) := by decide +kernel
theorem dL_law_815 : decode cL_law 815 = .ok (.aload_n 0, 1) := by decide +kernel
theorem dL_law_816 : decode cL_law 816 = .ok (.iload 4, 2) := by decide +kernel
theorem dL_law_818 : decode cL_law 818 = .ok (.iconst 2, 1) := by decide +kernel
theorem dL_law_819 : decode cL_law 819 = .ok (.iadd, 1) := by decide +kernel
theorem dL_law_820 : decode cL_law 820 = .ok (.iaload, 1) := by decide +kernel
theorem dL_law_821 : decode cL_law 821 = .ok (.invokevirtual 130, 3) := by decide +kernel
theorem dL_law_824 : decode cL_law 824 = .ok (.istore 6, 2) := by decide +kernel
theorem dL_law_826 : decode cL_law 826 = .ok (.aload_n 2, 1) := by decide +kernel
theorem dL_law_827 : decode cL_law 827 = .ok (.invokevirtual 89, 3) := by decide +kernel
theorem dL_law_830 : decode cL_law 830 = .ok (.iload 5, 2) := by decide +kernel
theorem dL_law_832 : decode cL_law 832 = .ok (.if_icmp .eq 5, 3) := by decide +kernel
theorem dL_law_835 : decode cL_law 835 = .ok (.iconst 0, 1) := by decide +kernel
theorem dL_law_836 : decode cL_law 836 = .ok (.ireturn, 1) := by decide +kernel
theorem dL_law_837 : decode cL_law 837 = .ok (.iload 5, 2) := by decide +kernel
theorem dL_law_839 : decode cL_law 839 = .ok (.ifCond .ne 15, 3) := by decide +kernel
theorem dL_law_842 : decode cL_law 842 = .ok (.aload_n 3, 1) := by decide +kernel
theorem dL_law_843 : decode cL_law 843 = .ok (.iconst 0, 1) := by decide +kernel
theorem dL_law_844 : decode cL_law 844 = .ok (.laload, 1) := by decide +kernel
theorem dL_law_845 : decode cL_law 845 = .ok (.iload 6, 2) := by decide +kernel
theorem dL_law_847 : decode cL_law 847 = .ok (.i2l, 1) := by decide +kernel
theorem dL_law_848 : decode cL_law 848 = .ok (.lcmp, 1) := by decide +kernel
theorem dL_law_849 : decode cL_law 849 = .ok (.ifCond .eq 5, 3) := by decide +kernel
theorem dL_law_852 : decode cL_law 852 = .ok (.iconst 0, 1) := by decide +kernel
theorem dL_law_853 : decode cL_law 853 = .ok (.ireturn, 1) := by decide +kernel
theorem dL_law_854 : decode cL_law 854 = .ok (.goto 481, 3) := by decide +kernel
theorem dL_law_857 : decode cL_law 857 = .ok (.aload_n 1, 1) := by decide +kernel
theorem dL_law_858 : decode cL_law 858 = .ok (.aload_n 0, 1) := by decide +kernel
theorem dL_law_859 : decode cL_law 859 = .ok (.iload 4, 2) := by decide +kernel
theorem dL_law_861 : decode cL_law 861 = .ok (.iconst 1, 1) := by decide +kernel
theorem dL_law_862 : decode cL_law 862 = .ok (.iadd, 1) := by decide +kernel
theorem dL_law_863 : decode cL_law 863 = .ok (.iaload, 1) := by decide +kernel
theorem dL_law_864 : decode cL_law 864 = .ok (.aload_n 0, 1) := by decide +kernel
theorem dL_law_865 : decode cL_law 865 = .ok (.iload 4, 2) := by decide +kernel
theorem dL_law_867 : decode cL_law 867 = .ok (.iconst 2, 1) := by decide +kernel
theorem dL_law_868 : decode cL_law 868 = .ok (.iadd, 1) := by decide +kernel
theorem dL_law_869 : decode cL_law 869 = .ok (.iaload, 1) := by decide +kernel
theorem dL_law_870 : decode cL_law 870 = .ok (.aload_n 3, 1) := by decide +kernel
theorem dL_law_871 : decode cL_law 871 = .ok (.invokestatic 131, 3) := by decide +kernel
theorem dL_law_874 : decode cL_law 874 = .ok (.istore 5, 2) := by decide +kernel
theorem dL_law_876 : decode cL_law 876 = .ok (.aload_n 2, 1) := by decide +kernel
theorem dL_law_877 : decode cL_law 877 = .ok (.aload_n 0, 1) := by decide +kernel
theorem dL_law_878 : decode cL_law 878 = .ok (.iload 4, 2) := by decide +kernel
theorem dL_law_880 : decode cL_law 880 = .ok (.iconst 1, 1) := by decide +kernel
theorem dL_law_881 : decode cL_law 881 = .ok (.iadd, 1) := by decide +kernel
theorem dL_law_882 : decode cL_law 882 = .ok (.iaload, 1) := by decide +kernel
theorem dL_law_883 : decode cL_law 883 = .ok (.aload_n 0, 1) := by decide +kernel
theorem dL_law_884 : decode cL_law 884 = .ok (.iload 4, 2) := by decide +kernel
theorem dL_law_886 : decode cL_law 886 = .ok (.iconst 2, 1) := by decide +kernel
theorem dL_law_887 : decode cL_law 887 = .ok (.iadd, 1) := by decide +kernel
theorem dL_law_888 : decode cL_law 888 = .ok (.iaload, 1) := by decide +kernel
theorem dL_law_889 : decode cL_law 889 = .ok (.invokevirtual 133, 3) := by decide +kernel
theorem dL_law_892 : decode cL_law 892 = .ok (.istore 6, 2) := by decide +kernel
theorem dL_law_894 : decode cL_law 894 = .ok (.aload_n 2, 1) := by decide +kernel
theorem dL_law_895 : decode cL_law 895 = .ok (.invokevirtual 89, 3) := by decide +kernel
theorem dL_law_898 : decode cL_law 898 = .ok (.iload 5, 2) := by decide +kernel
theorem dL_law_900 : decode cL_law 900 = .ok (.if_icmp .eq 5, 3) := by decide +kernel
theorem dL_law_903 : decode cL_law 903 = .ok (.iconst 0, 1) := by decide +kernel
theorem dL_law_904 : decode cL_law 904 = .ok (.ireturn, 1) := by decide +kernel
theorem dL_law_905 : decode cL_law 905 = .ok (.iload 5, 2) := by decide +kernel
theorem dL_law_907 : decode cL_law 907 = .ok (.ifCond .ne 15, 3) := by decide +kernel
theorem dL_law_910 : decode cL_law 910 = .ok (.aload_n 3, 1) := by decide +kernel
theorem dL_law_911 : decode cL_law 911 = .ok (.iconst 0, 1) := by decide +kernel
theorem dL_law_912 : decode cL_law 912 = .ok (.laload, 1) := by decide +kernel
theorem dL_law_913 : decode cL_law 913 = .ok (.iload 6, 2) := by decide +kernel
theorem dL_law_915 : decode cL_law 915 = .ok (.i2l, 1) := by decide +kernel
theorem dL_law_916 : decode cL_law 916 = .ok (.lcmp, 1) := by decide +kernel
theorem dL_law_917 : decode cL_law 917 = .ok (.ifCond .eq 5, 3) := by decide +kernel
theorem dL_law_920 : decode cL_law 920 = .ok (.iconst 0, 1) := by decide +kernel
theorem dL_law_921 : decode cL_law 921 = .ok (.ireturn, 1) := by decide +kernel
theorem dL_law_922 : decode cL_law 922 = .ok (.goto 413, 3) := by decide +kernel
theorem dL_law_925 : decode cL_law 925 = .ok (.aload_n 1, 1) := by decide +kernel
theorem dL_law_926 : decode cL_law 926 = .ok (.aload_n 0, 1) := by decide +kernel
theorem dL_law_927 : decode cL_law 927 = .ok (.iload 4, 2) := by decide +kernel
theorem dL_law_929 : decode cL_law 929 = .ok (.iconst 1, 1) := by decide +kernel
theorem dL_law_930 : decode cL_law 930 = .ok (.iadd, 1) := by decide +kernel
theorem dL_law_931 : decode cL_law 931 = .ok (.iaload, 1) := by decide +kernel
theorem dL_law_932 : decode cL_law 932 = .ok (.aload_n 0, 1) := by decide +kernel
theorem dL_law_933 : decode cL_law 933 = .ok (.iload 4, 2) := by decide +kernel
theorem dL_law_935 : decode cL_law 935 = .ok (.iconst 2, 1) := by decide +kernel
theorem dL_law_936 : decode cL_law 936 = .ok (.iadd, 1) := by decide +kernel
theorem dL_law_937 : decode cL_law 937 = .ok (.iaload, 1) := by decide +kernel
theorem dL_law_938 : decode cL_law 938 = .ok (.aload_n 3, 1) := by decide +kernel
theorem dL_law_939 : decode cL_law 939 = .ok (.invokestatic 134, 3) := by decide +kernel
theorem dL_law_942 : decode cL_law 942 = .ok (.istore 5, 2) := by decide +kernel
theorem dL_law_944 : decode cL_law 944 = .ok (.aload_n 2, 1) := by decide +kernel
theorem dL_law_945 : decode cL_law 945 = .ok (.aload_n 0, 1) := by decide +kernel
theorem dL_law_946 : decode cL_law 946 = .ok (.iload 4, 2) := by decide +kernel
theorem dL_law_948 : decode cL_law 948 = .ok (.iconst 1, 1) := by decide +kernel
theorem dL_law_949 : decode cL_law 949 = .ok (.iadd, 1) := by decide +kernel
theorem dL_law_950 : decode cL_law 950 = .ok (.iaload, 1) := by decide +kernel
theorem dL_law_951 : decode cL_law 951 = .ok (.aload_n 0, 1) := by decide +kernel
theorem dL_law_952 : decode cL_law 952 = .ok (.iload 4, 2) := by decide +kernel
theorem dL_law_954 : decode cL_law 954 = .ok (.iconst 2, 1) := by decide +kernel
theorem dL_law_955 : decode cL_law 955 = .ok (.iadd, 1) := by decide +kernel
theorem dL_law_956 : decode cL_law 956 = .ok (.iaload, 1) := by decide +kernel
theorem dL_law_957 : decode cL_law 957 = .ok (.invokevirtual 136, 3) := by decide +kernel
theorem dL_law_960 : decode cL_law 960 = .ok (.lstore 6, 2) := by decide +kernel
theorem dL_law_962 : decode cL_law 962 = .ok (.aload_n 2, 1) := by decide +kernel
theorem dL_law_963 : decode cL_law 963 = .ok (.invokevirtual 89, 3) := by decide +kernel
theorem dL_law_966 : decode cL_law 966 = .ok (.iload 5, 2) := by decide +kernel
theorem dL_law_968 : decode cL_law 968 = .ok (.if_icmp .eq 5, 3) := by decide +kernel
theorem dL_law_971 : decode cL_law 971 = .ok (.iconst 0, 1) := by decide +kernel
theorem dL_law_972 : decode cL_law 972 = .ok (.ireturn, 1) := by decide +kernel
theorem dL_law_973 : decode cL_law 973 = .ok (.iload 5, 2) := by decide +kernel
theorem dL_law_975 : decode cL_law 975 = .ok (.ifCond .ne 14, 3) := by decide +kernel
theorem dL_law_978 : decode cL_law 978 = .ok (.aload_n 3, 1) := by decide +kernel
theorem dL_law_979 : decode cL_law 979 = .ok (.iconst 0, 1) := by decide +kernel
theorem dL_law_980 : decode cL_law 980 = .ok (.laload, 1) := by decide +kernel
theorem dL_law_981 : decode cL_law 981 = .ok (.lload 6, 2) := by decide +kernel
theorem dL_law_983 : decode cL_law 983 = .ok (.lcmp, 1) := by decide +kernel
theorem dL_law_984 : decode cL_law 984 = .ok (.ifCond .eq 5, 3) := by decide +kernel
theorem dL_law_987 : decode cL_law 987 = .ok (.iconst 0, 1) := by decide +kernel
theorem dL_law_988 : decode cL_law 988 = .ok (.ireturn, 1) := by decide +kernel
theorem dL_law_989 : decode cL_law 989 = .ok (.goto 346, 3) := by decide +kernel
theorem dL_law_992 : decode cL_law 992 = .ok (.aload_n 1, 1) := by decide +kernel
theorem dL_law_993 : decode cL_law 993 = .ok (.aload_n 0, 1) := by decide +kernel
theorem dL_law_994 : decode cL_law 994 = .ok (.iload 4, 2) := by decide +kernel
theorem dL_law_996 : decode cL_law 996 = .ok (.iconst 1, 1) := by decide +kernel
theorem dL_law_997 : decode cL_law 997 = .ok (.iadd, 1) := by decide +kernel
theorem dL_law_998 : decode cL_law 998 = .ok (.iaload, 1) := by decide +kernel
theorem dL_law_999 : decode cL_law 999 = .ok (.aload_n 3, 1) := by decide +kernel
theorem dL_law_1000 : decode cL_law 1000 = .ok (.invokestatic 137, 3) := by decide +kernel
theorem dL_law_1003 : decode cL_law 1003 = .ok (.istore 5, 2) := by decide +kernel
theorem dL_law_1005 : decode cL_law 1005 = .ok (.aload_n 2, 1) := by decide +kernel
theorem dL_law_1006 : decode cL_law 1006 = .ok (.aload_n 0, 1) := by decide +kernel
theorem dL_law_1007 : decode cL_law 1007 = .ok (.iload 4, 2) := by decide +kernel
theorem dL_law_1009 : decode cL_law 1009 = .ok (.iconst 1, 1) := by decide +kernel
theorem dL_law_1010 : decode cL_law 1010 = .ok (.iadd, 1) := by decide +kernel
theorem dL_law_1011 : decode cL_law 1011 = .ok (.iaload, 1) := by decide +kernel
theorem dL_law_1012 : decode cL_law 1012 = .ok (.invokevirtual 139, 3) := by decide +kernel
theorem dL_law_1015 : decode cL_law 1015 = .ok (.lstore 6, 2) := by decide +kernel
theorem dL_law_1017 : decode cL_law 1017 = .ok (.aload_n 2, 1) := by decide +kernel
theorem dL_law_1018 : decode cL_law 1018 = .ok (.invokevirtual 89, 3) := by decide +kernel
theorem dL_law_1021 : decode cL_law 1021 = .ok (.iload 5, 2) := by decide +kernel
theorem dL_law_1023 : decode cL_law 1023 = .ok (.if_icmp .eq 5, 3) := by decide +kernel
theorem dL_law_1026 : decode cL_law 1026 = .ok (.iconst 0, 1) := by decide +kernel
theorem dL_law_1027 : decode cL_law 1027 = .ok (.ireturn, 1) := by decide +kernel
theorem dL_law_1028 : decode cL_law 1028 = .ok (.iload 5, 2) := by decide +kernel
theorem dL_law_1030 : decode cL_law 1030 = .ok (.ifCond .ne 14, 3) := by decide +kernel
theorem dL_law_1033 : decode cL_law 1033 = .ok (.aload_n 3, 1) := by decide +kernel
theorem dL_law_1034 : decode cL_law 1034 = .ok (.iconst 0, 1) := by decide +kernel
theorem dL_law_1035 : decode cL_law 1035 = .ok (.laload, 1) := by decide +kernel
theorem dL_law_1036 : decode cL_law 1036 = .ok (.lload 6, 2) := by decide +kernel
theorem dL_law_1038 : decode cL_law 1038 = .ok (.lcmp, 1) := by decide +kernel
theorem dL_law_1039 : decode cL_law 1039 = .ok (.ifCond .eq 5, 3) := by decide +kernel
theorem dL_law_1042 : decode cL_law 1042 = .ok (.iconst 0, 1) := by decide +kernel
theorem dL_law_1043 : decode cL_law 1043 = .ok (.ireturn, 1) := by decide +kernel
theorem dL_law_1044 : decode cL_law 1044 = .ok (.goto 291, 3) := by decide +kernel
theorem dL_law_1047 : decode cL_law 1047 = .ok (.aload_n 1, 1) := by decide +kernel
theorem dL_law_1048 : decode cL_law 1048 = .ok (.aload_n 0, 1) := by decide +kernel
theorem dL_law_1049 : decode cL_law 1049 = .ok (.iload 4, 2) := by decide +kernel
theorem dL_law_1051 : decode cL_law 1051 = .ok (.iconst 1, 1) := by decide +kernel
theorem dL_law_1052 : decode cL_law 1052 = .ok (.iadd, 1) := by decide +kernel
theorem dL_law_1053 : decode cL_law 1053 = .ok (.iaload, 1) := by decide +kernel
theorem dL_law_1054 : decode cL_law 1054 = .ok (.aload_n 3, 1) := by decide +kernel
theorem dL_law_1055 : decode cL_law 1055 = .ok (.invokestatic 140, 3) := by decide +kernel
theorem dL_law_1058 : decode cL_law 1058 = .ok (.istore 5, 2) := by decide +kernel
theorem dL_law_1060 : decode cL_law 1060 = .ok (.aload_n 2, 1) := by decide +kernel
theorem dL_law_1061 : decode cL_law 1061 = .ok (.aload_n 0, 1) := by decide +kernel
theorem dL_law_1062 : decode cL_law 1062 = .ok (.iload 4, 2) := by decide +kernel
theorem dL_law_1064 : decode cL_law 1064 = .ok (.iconst 1, 1) := by decide +kernel
theorem dL_law_1065 : decode cL_law 1065 = .ok (.iadd, 1) := by decide +kernel
theorem dL_law_1066 : decode cL_law 1066 = .ok (.iaload, 1) := by decide +kernel
theorem dL_law_1067 : decode cL_law 1067 = .ok (.invokevirtual 142, 3) := by decide +kernel
theorem dL_law_1070 : decode cL_law 1070 = .ok (.lstore 6, 2) := by decide +kernel
theorem dL_law_1072 : decode cL_law 1072 = .ok (.aload_n 2, 1) := by decide +kernel
theorem dL_law_1073 : decode cL_law 1073 = .ok (.invokevirtual 89, 3) := by decide +kernel
theorem dL_law_1076 : decode cL_law 1076 = .ok (.iload 5, 2) := by decide +kernel
theorem dL_law_1078 : decode cL_law 1078 = .ok (.if_icmp .eq 5, 3) := by decide +kernel
theorem dL_law_1081 : decode cL_law 1081 = .ok (.iconst 0, 1) := by decide +kernel
theorem dL_law_1082 : decode cL_law 1082 = .ok (.ireturn, 1) := by decide +kernel
theorem dL_law_1083 : decode cL_law 1083 = .ok (.iload 5, 2) := by decide +kernel
theorem dL_law_1085 : decode cL_law 1085 = .ok (.ifCond .ne 14, 3) := by decide +kernel
theorem dL_law_1088 : decode cL_law 1088 = .ok (.aload_n 3, 1) := by decide +kernel
theorem dL_law_1089 : decode cL_law 1089 = .ok (.iconst 0, 1) := by decide +kernel
theorem dL_law_1090 : decode cL_law 1090 = .ok (.laload, 1) := by decide +kernel
theorem dL_law_1091 : decode cL_law 1091 = .ok (.lload 6, 2) := by decide +kernel
theorem dL_law_1093 : decode cL_law 1093 = .ok (.lcmp, 1) := by decide +kernel
theorem dL_law_1094 : decode cL_law 1094 = .ok (.ifCond .eq 5, 3) := by decide +kernel
theorem dL_law_1097 : decode cL_law 1097 = .ok (.iconst 0, 1) := by decide +kernel
theorem dL_law_1098 : decode cL_law 1098 = .ok (.ireturn, 1) := by decide +kernel
theorem dL_law_1099 : decode cL_law 1099 = .ok (.goto 236, 3) := by decide +kernel
theorem dL_law_1102 : decode cL_law 1102 = .ok (.aload_n 1, 1) := by decide +kernel
theorem dL_law_1103 : decode cL_law 1103 = .ok (.aload_n 0, 1) := by decide +kernel
theorem dL_law_1104 : decode cL_law 1104 = .ok (.iload 4, 2) := by decide +kernel
theorem dL_law_1106 : decode cL_law 1106 = .ok (.iconst 1, 1) := by decide +kernel
theorem dL_law_1107 : decode cL_law 1107 = .ok (.iadd, 1) := by decide +kernel
theorem dL_law_1108 : decode cL_law 1108 = .ok (.iaload, 1) := by decide +kernel
theorem dL_law_1109 : decode cL_law 1109 = .ok (.aload_n 0, 1) := by decide +kernel
theorem dL_law_1110 : decode cL_law 1110 = .ok (.iload 4, 2) := by decide +kernel
theorem dL_law_1112 : decode cL_law 1112 = .ok (.iconst 2, 1) := by decide +kernel
theorem dL_law_1113 : decode cL_law 1113 = .ok (.iadd, 1) := by decide +kernel
theorem dL_law_1114 : decode cL_law 1114 = .ok (.iaload, 1) := by decide +kernel
theorem dL_law_1115 : decode cL_law 1115 = .ok (.aload_n 3, 1) := by decide +kernel
theorem dL_law_1116 : decode cL_law 1116 = .ok (.invokestatic 143, 3) := by decide +kernel
theorem dL_law_1119 : decode cL_law 1119 = .ok (.istore 5, 2) := by decide +kernel
theorem dL_law_1121 : decode cL_law 1121 = .ok (.aload_n 2, 1) := by decide +kernel
theorem dL_law_1122 : decode cL_law 1122 = .ok (.aload_n 0, 1) := by decide +kernel
theorem dL_law_1123 : decode cL_law 1123 = .ok (.iload 4, 2) := by decide +kernel
theorem dL_law_1125 : decode cL_law 1125 = .ok (.iconst 1, 1) := by decide +kernel
theorem dL_law_1126 : decode cL_law 1126 = .ok (.iadd, 1) := by decide +kernel
theorem dL_law_1127 : decode cL_law 1127 = .ok (.iaload, 1) := by decide +kernel
theorem dL_law_1128 : decode cL_law 1128 = .ok (.aload_n 0, 1) := by decide +kernel
theorem dL_law_1129 : decode cL_law 1129 = .ok (.iload 4, 2) := by decide +kernel
theorem dL_law_1131 : decode cL_law 1131 = .ok (.iconst 2, 1) := by decide +kernel
theorem dL_law_1132 : decode cL_law 1132 = .ok (.iadd, 1) := by decide +kernel
theorem dL_law_1133 : decode cL_law 1133 = .ok (.iaload, 1) := by decide +kernel
theorem dL_law_1134 : decode cL_law 1134 = .ok (.invokevirtual 145, 3) := by decide +kernel
theorem dL_law_1137 : decode cL_law 1137 = .ok (.istore 6, 2) := by decide +kernel
theorem dL_law_1139 : decode cL_law 1139 = .ok (.aload_n 2, 1) := by decide +kernel
theorem dL_law_1140 : decode cL_law 1140 = .ok (.invokevirtual 89, 3) := by decide +kernel
theorem dL_law_1143 : decode cL_law 1143 = .ok (.iload 5, 2) := by decide +kernel
theorem dL_law_1145 : decode cL_law 1145 = .ok (.if_icmp .eq 5, 3) := by decide +kernel
theorem dL_law_1148 : decode cL_law 1148 = .ok (.iconst 0, 1) := by decide +kernel
theorem dL_law_1149 : decode cL_law 1149 = .ok (.ireturn, 1) := by decide +kernel
theorem dL_law_1150 : decode cL_law 1150 = .ok (.iload 5, 2) := by decide +kernel
theorem dL_law_1152 : decode cL_law 1152 = .ok (.ifCond .ne 15, 3) := by decide +kernel
theorem dL_law_1155 : decode cL_law 1155 = .ok (.aload_n 3, 1) := by decide +kernel
theorem dL_law_1156 : decode cL_law 1156 = .ok (.iconst 0, 1) := by decide +kernel
theorem dL_law_1157 : decode cL_law 1157 = .ok (.laload, 1) := by decide +kernel
theorem dL_law_1158 : decode cL_law 1158 = .ok (.iload 6, 2) := by decide +kernel
theorem dL_law_1160 : decode cL_law 1160 = .ok (.i2l, 1) := by decide +kernel
theorem dL_law_1161 : decode cL_law 1161 = .ok (.lcmp, 1) := by decide +kernel
theorem dL_law_1162 : decode cL_law 1162 = .ok (.ifCond .eq 5, 3) := by decide +kernel
theorem dL_law_1165 : decode cL_law 1165 = .ok (.iconst 0, 1) := by decide +kernel
theorem dL_law_1166 : decode cL_law 1166 = .ok (.ireturn, 1) := by decide +kernel
theorem dL_law_1167 : decode cL_law 1167 = .ok (.goto 168, 3) := by decide +kernel
theorem dL_law_1170 : decode cL_law 1170 = .ok (.aload_n 1, 1) := by decide +kernel
theorem dL_law_1171 : decode cL_law 1171 = .ok (.aload_n 0, 1) := by decide +kernel
theorem dL_law_1172 : decode cL_law 1172 = .ok (.iload 4, 2) := by decide +kernel
theorem dL_law_1174 : decode cL_law 1174 = .ok (.iconst 1, 1) := by decide +kernel
theorem dL_law_1175 : decode cL_law 1175 = .ok (.iadd, 1) := by decide +kernel
theorem dL_law_1176 : decode cL_law 1176 = .ok (.iaload, 1) := by decide +kernel
theorem dL_law_1177 : decode cL_law 1177 = .ok (.aload_n 3, 1) := by decide +kernel
theorem dL_law_1178 : decode cL_law 1178 = .ok (.invokestatic 146, 3) := by decide +kernel
theorem dL_law_1181 : decode cL_law 1181 = .ok (.istore 5, 2) := by decide +kernel
theorem dL_law_1183 : decode cL_law 1183 = .ok (.aload_n 2, 1) := by decide +kernel
theorem dL_law_1184 : decode cL_law 1184 = .ok (.aload_n 0, 1) := by decide +kernel
theorem dL_law_1185 : decode cL_law 1185 = .ok (.iload 4, 2) := by decide +kernel
theorem dL_law_1187 : decode cL_law 1187 = .ok (.iconst 1, 1) := by decide +kernel
theorem dL_law_1188 : decode cL_law 1188 = .ok (.iadd, 1) := by decide +kernel
theorem dL_law_1189 : decode cL_law 1189 = .ok (.iaload, 1) := by decide +kernel
theorem dL_law_1190 : decode cL_law 1190 = .ok (.invokevirtual 148, 3) := by decide +kernel
theorem dL_law_1193 : decode cL_law 1193 = .ok (.lstore 6, 2) := by decide +kernel
theorem dL_law_1195 : decode cL_law 1195 = .ok (.aload_n 2, 1) := by decide +kernel
theorem dL_law_1196 : decode cL_law 1196 = .ok (.invokevirtual 89, 3) := by decide +kernel
theorem dL_law_1199 : decode cL_law 1199 = .ok (.iload 5, 2) := by decide +kernel
theorem dL_law_1201 : decode cL_law 1201 = .ok (.if_icmp .eq 5, 3) := by decide +kernel
theorem dL_law_1204 : decode cL_law 1204 = .ok (.iconst 0, 1) := by decide +kernel
theorem dL_law_1205 : decode cL_law 1205 = .ok (.ireturn, 1) := by decide +kernel
theorem dL_law_1206 : decode cL_law 1206 = .ok (.iload 5, 2) := by decide +kernel
theorem dL_law_1208 : decode cL_law 1208 = .ok (.ifCond .ne 14, 3) := by decide +kernel
theorem dL_law_1211 : decode cL_law 1211 = .ok (.aload_n 3, 1) := by decide +kernel
theorem dL_law_1212 : decode cL_law 1212 = .ok (.iconst 0, 1) := by decide +kernel
theorem dL_law_1213 : decode cL_law 1213 = .ok (.laload, 1) := by decide +kernel
theorem dL_law_1214 : decode cL_law 1214 = .ok (.lload 6, 2) := by decide +kernel
theorem dL_law_1216 : decode cL_law 1216 = .ok (.lcmp, 1) := by decide +kernel
theorem dL_law_1217 : decode cL_law 1217 = .ok (.ifCond .eq 5, 3) := by decide +kernel
theorem dL_law_1220 : decode cL_law 1220 = .ok (.iconst 0, 1) := by decide +kernel
theorem dL_law_1221 : decode cL_law 1221 = .ok (.ireturn, 1) := by decide +kernel
theorem dL_law_1222 : decode cL_law 1222 = .ok (.goto 113, 3) := by decide +kernel
theorem dL_law_1225 : decode cL_law 1225 = .ok (.aload_n 1, 1) := by decide +kernel
theorem dL_law_1226 : decode cL_law 1226 = .ok (.aload_n 0, 1) := by decide +kernel
theorem dL_law_1227 : decode cL_law 1227 = .ok (.iload 4, 2) := by decide +kernel
theorem dL_law_1229 : decode cL_law 1229 = .ok (.iconst 1, 1) := by decide +kernel
theorem dL_law_1230 : decode cL_law 1230 = .ok (.iadd, 1) := by decide +kernel
theorem dL_law_1231 : decode cL_law 1231 = .ok (.iaload, 1) := by decide +kernel
theorem dL_law_1232 : decode cL_law 1232 = .ok (.aload_n 3, 1) := by decide +kernel
theorem dL_law_1233 : decode cL_law 1233 = .ok (.invokestatic 149, 3) := by decide +kernel
theorem dL_law_1236 : decode cL_law 1236 = .ok (.istore 5, 2) := by decide +kernel
theorem dL_law_1238 : decode cL_law 1238 = .ok (.aload_n 2, 1) := by decide +kernel
theorem dL_law_1239 : decode cL_law 1239 = .ok (.aload_n 0, 1) := by decide +kernel
theorem dL_law_1240 : decode cL_law 1240 = .ok (.iload 4, 2) := by decide +kernel
theorem dL_law_1242 : decode cL_law 1242 = .ok (.iconst 1, 1) := by decide +kernel
theorem dL_law_1243 : decode cL_law 1243 = .ok (.iadd, 1) := by decide +kernel
theorem dL_law_1244 : decode cL_law 1244 = .ok (.iaload, 1) := by decide +kernel
theorem dL_law_1245 : decode cL_law 1245 = .ok (.invokevirtual 151, 3) := by decide +kernel
theorem dL_law_1248 : decode cL_law 1248 = .ok (.lstore 6, 2) := by decide +kernel
theorem dL_law_1250 : decode cL_law 1250 = .ok (.aload_n 2, 1) := by decide +kernel
theorem dL_law_1251 : decode cL_law 1251 = .ok (.invokevirtual 89, 3) := by decide +kernel
theorem dL_law_1254 : decode cL_law 1254 = .ok (.iload 5, 2) := by decide +kernel
theorem dL_law_1256 : decode cL_law 1256 = .ok (.if_icmp .eq 5, 3) := by decide +kernel
theorem dL_law_1259 : decode cL_law 1259 = .ok (.iconst 0, 1) := by decide +kernel
theorem dL_law_1260 : decode cL_law 1260 = .ok (.ireturn, 1) := by decide +kernel
theorem dL_law_1261 : decode cL_law 1261 = .ok (.iload 5, 2) := by decide +kernel
theorem dL_law_1263 : decode cL_law 1263 = .ok (.ifCond .ne 14, 3) := by decide +kernel
theorem dL_law_1266 : decode cL_law 1266 = .ok (.aload_n 3, 1) := by decide +kernel
theorem dL_law_1267 : decode cL_law 1267 = .ok (.iconst 0, 1) := by decide +kernel
theorem dL_law_1268 : decode cL_law 1268 = .ok (.laload, 1) := by decide +kernel
theorem dL_law_1269 : decode cL_law 1269 = .ok (.lload 6, 2) := by decide +kernel
theorem dL_law_1271 : decode cL_law 1271 = .ok (.lcmp, 1) := by decide +kernel
theorem dL_law_1272 : decode cL_law 1272 = .ok (.ifCond .eq 5, 3) := by decide +kernel
theorem dL_law_1275 : decode cL_law 1275 = .ok (.iconst 0, 1) := by decide +kernel
theorem dL_law_1276 : decode cL_law 1276 = .ok (.ireturn, 1) := by decide +kernel
theorem dL_law_1277 : decode cL_law 1277 = .ok (.goto 58, 3) := by decide +kernel
theorem dL_law_1280 : decode cL_law 1280 = .ok (.aload_n 1, 1) := by decide +kernel
theorem dL_law_1281 : decode cL_law 1281 = .ok (.aload_n 0, 1) := by decide +kernel
theorem dL_law_1282 : decode cL_law 1282 = .ok (.iload 4, 2) := by decide +kernel
theorem dL_law_1284 : decode cL_law 1284 = .ok (.iconst 1, 1) := by decide +kernel
theorem dL_law_1285 : decode cL_law 1285 = .ok (.iadd, 1) := by decide +kernel
theorem dL_law_1286 : decode cL_law 1286 = .ok (.iaload, 1) := by decide +kernel
theorem dL_law_1287 : decode cL_law 1287 = .ok (.aload_n 3, 1) := by decide +kernel
theorem dL_law_1288 : decode cL_law 1288 = .ok (.invokestatic 152, 3) := by decide +kernel
theorem dL_law_1291 : decode cL_law 1291 = .ok (.istore 5, 2) := by decide +kernel
theorem dL_law_1293 : decode cL_law 1293 = .ok (.aload_n 2, 1) := by decide +kernel
theorem dL_law_1294 : decode cL_law 1294 = .ok (.aload_n 0, 1) := by decide +kernel
theorem dL_law_1295 : decode cL_law 1295 = .ok (.iload 4, 2) := by decide +kernel
theorem dL_law_1297 : decode cL_law 1297 = .ok (.iconst 1, 1) := by decide +kernel
theorem dL_law_1298 : decode cL_law 1298 = .ok (.iadd, 1) := by decide +kernel
theorem dL_law_1299 : decode cL_law 1299 = .ok (.iaload, 1) := by decide +kernel
theorem dL_law_1300 : decode cL_law 1300 = .ok (.invokevirtual 154, 3) := by decide +kernel
theorem dL_law_1303 : decode cL_law 1303 = .ok (.lstore 6, 2) := by decide +kernel
theorem dL_law_1305 : decode cL_law 1305 = .ok (.aload_n 2, 1) := by decide +kernel
theorem dL_law_1306 : decode cL_law 1306 = .ok (.invokevirtual 89, 3) := by decide +kernel
theorem dL_law_1309 : decode cL_law 1309 = .ok (.iload 5, 2) := by decide +kernel
theorem dL_law_1311 : decode cL_law 1311 = .ok (.if_icmp .eq 5, 3) := by decide +kernel
theorem dL_law_1314 : decode cL_law 1314 = .ok (.iconst 0, 1) := by decide +kernel
theorem dL_law_1315 : decode cL_law 1315 = .ok (.ireturn, 1) := by decide +kernel
theorem dL_law_1316 : decode cL_law 1316 = .ok (.iload 5, 2) := by decide +kernel
theorem dL_law_1318 : decode cL_law 1318 = .ok (.ifCond .ne 14, 3) := by decide +kernel
theorem dL_law_1321 : decode cL_law 1321 = .ok (.aload_n 3, 1) := by decide +kernel
theorem dL_law_1322 : decode cL_law 1322 = .ok (.iconst 0, 1) := by decide +kernel
theorem dL_law_1323 : decode cL_law 1323 = .ok (.laload, 1) := by decide +kernel
theorem dL_law_1324 : decode cL_law 1324 = .ok (.lload 6, 2) := by decide +kernel
theorem dL_law_1326 : decode cL_law 1326 = .ok (.lcmp, 1) := by decide +kernel
theorem dL_law_1327 : decode cL_law 1327 = .ok (.ifCond .eq 5, 3) := by decide +kernel
theorem dL_law_1330 : decode cL_law 1330 = .ok (.iconst 0, 1) := by decide +kernel
theorem dL_law_1331 : decode cL_law 1331 = .ok (.ireturn, 1) := by decide +kernel
theorem dL_law_1332 : decode cL_law 1332 = .ok (.goto 3, 3) := by decide +kernel
theorem dL_law_1335 : decode cL_law 1335 = .ok (.iinc 4 3, 3) := by decide +kernel
theorem dL_law_1338 : decode cL_law 1338 = .ok (.goto (-1315), 3) := by decide +kernel
theorem dL_law_1341 : decode cL_law 1341 = .ok (.iconst 1, 1) := by decide +kernel
theorem dL_law_1342 : decode cL_law 1342 = .ok (.ireturn, 1) := by decide +kernel
end
section
/-! WORLDS BY NAMES. A cell has a name (a number), an address and a content; a world is a function from names. Every method's contract takes the whole world and tells the whole world behind it: nothing is cut out before a call, nothing joined behind it. -/
abbrev sg_W : Type := Nat → Option (Nat × va_E)
def sg_P (D : va_G) (σ : sg_W) (H : Heap) : Prop := ∀ (n : Nat) (q : Nat × va_E), σ n = some q → va_at D vwCl q H
def sg_D (A : Nat → Prop) (σ : sg_W) : Prop := (∀ (i j : Nat) (p q : Nat × va_E), σ i = some p → σ j = some q → p.1 = q.1 → i = j) ∧ ∀ (k : Nat) (q : Nat × va_E), σ k = some q → A q.1
def sg_A (σ : sg_W) (sz : Nat) : Nat → Prop := fun a => (∃ (n : Nat) (e : va_E), σ n = some (a, e)) ∨ sz ≤ a
def sg_u (σ : sg_W) (n a : Nat) (e : va_E) : sg_W := fun j => if j = n then some (a, e) else σ j
theorem sg_ue {σ : sg_W} {n a : Nat} {e : va_E} : sg_u σ n a e n = some (a, e) := if_pos rfl
theorem sg_un {σ : sg_W} {n a j : Nat} {e : va_E} (h : j ≠ n) : sg_u σ n a e j = σ j := if_neg h
theorem sg_one {D : va_G} {σ : sg_W} {H : Heap} {n : Nat} {q : Nat × va_E} (hP : sg_P D σ H) (h : σ n = some q) : va_P D vwCl [q] H := by
  intro k x hx
  have hz : k < 1 := (List.getElem?_eq_some_iff.mp hx).1
  rw [show k = 0 by omega] at hx
  cases hx
  exact hP n q h
theorem sg_lt {D : va_G} {σ : sg_W} {H : Heap} {n : Nat} {q : Nat × va_E} (hP : sg_P D σ H) (h : σ n = some q) : q.1 < H.size := (hP n q h).lt
theorem sg_P.set {D : va_G} {σ : sg_W} {A : Nat → Prop} {H H1 : Heap} {n a : Nat} {e0 e : va_E} (hP : sg_P D σ H) (hD : sg_D A σ) (h : σ n = some (a, e0)) (he : va_at D vwCl (a, e) H1) (oq : ∀ q : Nat, q ≠ a → H1[q]? = H[q]?) : sg_P D (sg_u σ n a e) H1 := by
  intro k q hk
  by_cases hkn : k = n
  · subst hkn
    rw [sg_ue] at hk
    cases hk
    exact he
  · rw [sg_un hkn] at hk
    exact (hP k q hk).kept (oq q.1 (fun z => hkn (hD.1 k n q (a, e0) hk h z)))
theorem sg_D.set {A : Nat → Prop} {σ : sg_W} {n a : Nat} {e0 e : va_E} (hD : sg_D A σ) (h : σ n = some (a, e0)) : sg_D A (sg_u σ n a e) := by
  have key : ∀ (k : Nat) (q : Nat × va_E), sg_u σ n a e k = some q → ∃ q0, σ k = some q0 ∧ q0.1 = q.1 := by
    intro k q hk
    by_cases hkn : k = n
    · subst hkn
      rw [sg_ue] at hk
      cases hk
      exact ⟨_, h, rfl⟩
    · rw [sg_un hkn] at hk
      exact ⟨q, hk, rfl⟩
  refine ⟨fun i j x y hi hj hxy => ?_, fun k q hk => ?_⟩
  · obtain ⟨x0, h1, h2⟩ := key i x hi
    obtain ⟨y0, h3, h4⟩ := key j y hj
    exact hD.1 i j x0 y0 h1 h3 (h2.trans (hxy.trans h4.symm))
  · obtain ⟨q0, h1, h2⟩ := key k q hk
    rw [← h2]
    exact hD.2 k q0 h1
theorem sg_P.new {D : va_G} {σ : sg_W} {H H1 : Heap} {n : Nat} {e : va_E} (hP : sg_P D σ H) (he : va_at D vwCl (H.size, e) H1) (oq : ∀ q : Nat, q < H.size → H1[q]? = H[q]?) : sg_P D (sg_u σ n H.size e) H1 := by
  intro k q hk
  by_cases hkn : k = n
  · subst hkn
    rw [sg_ue] at hk
    cases hk
    exact he
  · rw [sg_un hkn] at hk
    exact (hP k q hk).kept (oq q.1 (hP k q hk).lt)
theorem sg_D.new {D : va_G} {A : Nat → Prop} {σ : sg_W} {H : Heap} {n : Nat} {e : va_E} (hD : sg_D A σ) (hP : sg_P D σ H) (hA : A H.size) : sg_D A (sg_u σ n H.size e) := by
  have key : ∀ (k : Nat) (q : Nat × va_E), sg_u σ n H.size e k = some q → (k = n ∧ q.1 = H.size) ∨ (σ k = some q ∧ q.1 < H.size) := by
    intro k q hk
    by_cases hkn : k = n
    · subst hkn
      rw [sg_ue] at hk
      cases hk
      exact Or.inl ⟨rfl, rfl⟩
    · rw [sg_un hkn] at hk
      exact Or.inr ⟨hk, (hP k q hk).lt⟩
  refine ⟨fun i j x y hi hj hxy => ?_, fun k q hk => ?_⟩
  · rcases key i x hi with ⟨h1, l1⟩ | ⟨h1, l1⟩ <;> rcases key j y hj with ⟨h2, l2⟩ | ⟨h2, l2⟩
    · rw [h1, h2]
    · omega
    · omega
    · exact hD.1 i j x y h1 h2 hxy
  · rcases key k q hk with ⟨-, l1⟩ | ⟨h1, -⟩
    · rw [l1]; exact hA
    · exact hD.2 k q h1
theorem sg_D.weaken {A B : Nat → Prop} {σ : sg_W} (h : sg_D A σ) (hAB : ∀ q, A q → B q) : sg_D B σ := ⟨h.1, fun k q hk => hAB _ (h.2 k q hk)⟩
theorem sg_D.self {A : Nat → Prop} {σ : sg_W} {sz : Nat} (h : sg_D A σ) : sg_D (sg_A σ sz) σ := ⟨h.1, fun k q hk => Or.inl ⟨k, q.2, hk⟩⟩
theorem sg_A.sub {A : Nat → Prop} {σ : sg_W} {sz : Nat} (h : sg_D A σ) (hA : ∀ q, sz ≤ q → A q) : ∀ q, sg_A σ sz q → A q := fun q hq => hq.elim (fun ⟨n, e, h1⟩ => h.2 n (q, e) h1) (hA q)
/-- the classes and array classes: Y 0 int[], 1 long[], 2 boolean[], 3 Lot[], 4 Member[] -/
abbrev sg_T (Y : Nat → ClassId) : List (ClassId × FieldType) := [(Y 0, .int), (Y 1, .long), (Y 2, .boolean), (Y 3, .object RX0), (Y 4, .object RX1)]
abbrev sg_K (D : va_G) (Y : Nat → ClassId) (U : State) : Prop := va_K D vwCl (sg_T Y) U
/-- words of the tables that no list of words holds: nest mates' links, castables, arrays of references -/
abbrev sg_nf : List Cond := [.fieldLinkNest RX1 93 RX0 "month" "I" RX2, .fieldLinkNest RX2 114 RX0 "paidEach" "I" RX2, .fieldLinkNest RX2 109 RX0 "bought" "I" RX2, .fieldLinkNest RX1 96 RX0 "left" "I" RX2, .fieldLinkNest RX2 71 RX1 "rate" "I" RX2, .fieldLinkNest RX2 160 RX1 "hasLeft" "Z" RX2, .fieldLinkNest RX2 85 RX1 "money" "J" RX2, .fieldLinkNest RX2 126 RX1 "spent" "J" RX2, .fieldLinkNest RX2 129 RX1 "givenBack" "J" RX2, .fieldLinkNest RX2 132 RX1 "keptOfSlips" "J" RX2, .fieldLinkNest RX2 89 RX1 "offerMonth" "I" RX2, .fieldLinkNest RX2 92 RX1 "offerPrice" "I" RX2, .fieldLinkNest RX2 95 RX1 "resets" "I" RX2, .fieldLinkNest RX2 144 RX1 "payOfSales" "J" RX2, .fieldLinkNest RX2 147 RX1 "gainOfSales" "J" RX2]
abbrev sg_nm : List Cond := [.methodLinkNest RX2 105 yX1_lotOf RX2, .methodLinkNest RX2 122 yX1_countedIn RX2, .methodLinkNest RX2 140 yX1_sellOldest RX2, .methodLinkNest RX2 150 yX1_gainIfAllSold RX2, .methodLinkNest RX2 166 yX1_buyShares RX2, .methodLinkNest RX2 60 yX1_init RX2, .methodLinkNest RX2 77 yX1_takeSlip RX2, .methodLinkNest RX2 81 yX1_giveBack RX2, .methodLinkNest RX2 98 yX1_sharesHeld RX2, .methodLinkNest RX1 102 yX0_payEach RX2, .methodLinkNest RX1 109 yX0_gainEach RX2, .methodLinkNest RX1 112 yX0_isEarly RX2, .methodLinkNest RX1 65 yX0_init RX2, .methodLinkNest RX1 89 yX2_isPurchaseMonth RX2]
abbrev sg_nc : List Cond := [.castable "java/lang/IndexOutOfBoundsException" "java/lang/IndexOutOfBoundsException", .castable "java/lang/IllegalArgumentException" "java/lang/IllegalArgumentException", .castable "java/lang/IllegalStateException" "java/lang/IllegalStateException"]
abbrev sg_ns : List (Nat × String) := [(119, "there is no such year"), (136, "the number of shares is out of its range"), (138, "the member has fewer shares"), (154, "there is no such member"), (156, "the rate is out of its range"), (158, "there is no such month"), (164, "the member has left"), (32, "the price is out of its range"), (39, "the last month has begun already"), (50, "the ceiling is out of its range"), (56, "no month has begun"), (58, "the plan is full"), (75, "the gross is out of its range")]
def sg_N (U : State) : Prop := (∀ w ∈ sg_nf, va_Nw w U) ∧ (∀ w ∈ sg_nm, va_Nw w U) ∧ (∀ w ∈ sg_nc, va_Nw w U) ∧ (va_AO RX0 U ∧ va_AO RX1 U) ∧ ∀ q ∈ sg_ns, ∃ a, vk_R RX2 q.1 q.2 a U
theorem sg_N.warm {s U : State} (hW : s.WarmedH U.vm) (h : sg_N s) : sg_N U := by
  obtain ⟨h1, h2, h3, h4, h5⟩ := h
  refine ⟨fun w hw => ?_, fun w hw => ?_, fun w hw => ?_, ⟨h4.1.moved hW.alike, h4.2.moved hW.alike⟩, fun q hq => ?_⟩
  · have h9 := h1 w hw
    simp only [sg_nf, List.mem_cons, List.not_mem_nil, or_false] at hw
    rcases hw with rfl | rfl | rfl | rfl | rfl | rfl | rfl | rfl | rfl | rfl | rfl | rfl | rfl | rfl | rfl <;> exact va_Nw.warmF hW h9
  · have h9 := h2 w hw
    simp only [sg_nm, List.mem_cons, List.not_mem_nil, or_false] at hw
    rcases hw with rfl | rfl | rfl | rfl | rfl | rfl | rfl | rfl | rfl | rfl | rfl | rfl | rfl | rfl <;> exact va_Nw.warmM hW h9
  · have h9 := h3 w hw
    simp only [sg_nc, List.mem_cons, List.not_mem_nil, or_false] at hw
    rcases hw with rfl | rfl | rfl <;> exact va_Nw.warmC hW h9
  · obtain ⟨a, ha⟩ := h5 q hq
    exact ⟨a, ha.warm hW⟩
def sg_X (A : Nat → Prop) (U : State) (H : Heap) : Prop := vx_Zq Bundle.tN "UNASSIGNED_STACK" Bundle.steD A U H ∧ vx_Zq Bundle.tN "SUPPRESSED_SENTINEL" Bundle.listD A U H
theorem sg_X.at {A B : Nat → Prop} {s U : State} {H : Heap} {locs : List Loc} (hvm : s.vm.Alike U.vm) (h : sg_X A s s.heap) (hS : va_S A s.heap H locs) (hB : ∀ q, B q → A q) : sg_X B U H :=
  ⟨((h.1.kept hS.2.1).narrow hB).moved hvm, ((h.2.kept hS.2.1).narrow hB).moved hvm⟩
/-- a contract's start: the heap's size, the world, the tables -/
def sg_U (D : va_G) (Y : Nat → ClassId) (σ : sg_W) (sz : Nat) (U : State) : Prop := U.heap.size = sz ∧ sg_P D σ U.heap ∧ sg_K D Y U ∧ sg_D (fun _ => True) σ ∧ sg_N U ∧ sg_X (sg_A σ sz) U U.heap
/-- a contract's end: the world behind it -/
def sg_B (D : va_G) (σ : sg_W) (sz : Nat) (σ' : sg_W) (t : State) : Prop := sg_P D σ' t.heap ∧ sg_D (sg_A σ sz) σ'
theorem sg_blind {D : va_G} {Y : Nat → ClassId} {σ : sg_W} {sz : Nat} {av : List Value} : FrameBlind (va_Pc av (sg_U D Y σ sz)) := fun a U g mk q => by
  obtain ⟨q0, q1, q2, q3, q4, q5, q6⟩ := q
  exact ⟨q0, q1, q2, va_K.moved (u := U) (U := U.calling g mk a) (Vm.Alike.refl U.vm) q3, q4, sg_N.warm (s := U) (U := U.calling g mk a) (State.WarmedH.refl U) q5, ⟨vx_Zq.moved (u := U) (U := U.calling g mk a) (Vm.Alike.refl U.vm) q6.1, vx_Zq.moved (u := U) (U := U.calling g mk a) (Vm.Alike.refl U.vm) q6.2⟩⟩
end
section
/-! the rows over worlds by names: stores, new cells, calls, starts and ends of methods -/
section SG
variable {p : Program} {l : Launch} {e : Env} {R : Room} {s : State} {m : MethodId} {args : Array Value} {below : List Frame} {meth : Method} {c : Code} {H : Heap} {locs : List Loc} {cells slots : Nat} {Q : State → Prop}
variable {cc : ByteArray} {pc : Nat} {ls : Array Slot} {rest : List Value} {D : va_G} {Y : Nat → ClassId} {A : Nat → Prop} {a : Nat} {σ : sg_W} {H0 : Heap}
theorem sg_iast (hexec : p.tables.exec = Jvm.exec) (hb : c.code = cc) (hK : sg_K D Y s) (hP : sg_P D σ H) (hD : sg_D A σ) (hS : va_S A H0 H locs) {n N : Nat} {f : Nat → Int32} (h : σ n = some (a, .inl (Y 0, N, .inl f))) {i x : Int32} (hin : vp_in i N) (hdg : decode cc pc = .ok (.iastore, 1))
    (kk : ∀ (H1 : Heap) (locs1 : List Loc), sg_P D (sg_u σ n a (.inl (Y 0, N, .inl (upd f i.toNatClampNeg x)))) H1 → sg_D A (sg_u σ n a (.inl (Y 0, N, .inl (upd f i.toNatClampNeg x)))) → va_S A H0 H1 locs1 → W p l e R s m args below meth c H1 locs1 cells slots Q (F0 m (pc + 1) ls rest)) : W p l e R s m args below meth c H locs cells slots Q (F0 m pc ls (.int x :: .int i :: .ref a :: rest)) := by
  refine W.iast hexec hb (hP n _ h) ((hK.2 0 _ rfl).1 N (fun j => .int (f j))) (fun q => by cases q) (by show ¬ (i < 0 ∨ (arrV _ _ _).slots.size ≤ _); rw [arrV_size]; exact hin) rfl rfl hdg fun H1 e1 z oq => ?_
  refine kk H1 _ (hP.set hD h ?_ oq) (hD.set h) (hS.put z oq (hD.2 n _ h))
  show H1[a]? = some (vp_cell _ _)
  rw [e1, vp_cell_i, vp_cell_i, arrV_store]
  congr 2
  funext q
  by_cases hq : q = i.toNatClampNeg
  · subst hq; simp [updV, upd]
  · simp [updV, upd, hq]
theorem sg_zast (hexec : p.tables.exec = Jvm.exec) (hb : c.code = cc) (hK : sg_K D Y s) (hP : sg_P D σ H) (hD : sg_D A σ) (hS : va_S A H0 H locs) {n N : Nat} {f : Nat → Int32} (h : σ n = some (a, .inl (Y 2, N, .inl f))) {i x : Int32} (hin : vp_in i N) (hx : vp_nar .boolean x = x) (hdg : decode cc pc = .ok (.bastore, 1))
    (kk : ∀ (H1 : Heap) (locs1 : List Loc), sg_P D (sg_u σ n a (.inl (Y 2, N, .inl (upd f i.toNatClampNeg x)))) H1 → sg_D A (sg_u σ n a (.inl (Y 2, N, .inl (upd f i.toNatClampNeg x)))) → va_S A H0 H1 locs1 → W p l e R s m args below meth c H1 locs1 cells slots Q (F0 m (pc + 1) ls rest)) : W p l e R s m args below meth c H locs cells slots Q (F0 m pc ls (.int x :: .int i :: .ref a :: rest)) := by
  refine W.zast hexec hb (hP n _ h) ((hK.2 2 _ rfl).1 N (fun j => .int (f j))) (fun q => by cases q) (by show ¬ (i < 0 ∨ (arrV _ _ _).slots.size ≤ _); rw [arrV_size]; exact hin) rfl rfl hdg fun H1 e1 z oq => ?_
  refine kk H1 _ (hP.set hD h ?_ oq) (hD.set h) (hS.put z oq (hD.2 n _ h))
  show H1[a]? = some (vp_cell _ _)
  rw [e1, vp_cell_i, vp_cell_i, arrV_store]
  congr 2
  funext q
  by_cases hq : q = i.toNatClampNeg
  · subst hq
    have h8 : narrow FieldType.boolean (Value.int x) = .int x := by
      rw [show narrow FieldType.boolean (Value.int x) = .int (vp_nar .boolean x) from rfl, hx]
    simp [updV, upd, h8]
  · simp [updV, upd, hq]
theorem sg_last (hexec : p.tables.exec = Jvm.exec) (hb : c.code = cc) (hK : sg_K D Y s) (hP : sg_P D σ H) (hD : sg_D A σ) (hS : va_S A H0 H locs) {n N : Nat} {f : Nat → Int64} (h : σ n = some (a, .inl (Y 1, N, .inr (.inl f)))) {i : Int32} {x : Int64} (hin : vp_in i N) (hdg : decode cc pc = .ok (.lastore, 1))
    (kk : ∀ (H1 : Heap) (locs1 : List Loc), sg_P D (sg_u σ n a (.inl (Y 1, N, .inr (.inl (vp_updL f i.toNatClampNeg x))))) H1 → sg_D A (sg_u σ n a (.inl (Y 1, N, .inr (.inl (vp_updL f i.toNatClampNeg x))))) → va_S A H0 H1 locs1 → W p l e R s m args below meth c H1 locs1 cells slots Q (F0 m (pc + 1) ls rest)) : W p l e R s m args below meth c H locs cells slots Q (F0 m pc ls (.long x :: .int i :: .ref a :: rest)) := by
  refine W.last hexec hb (hP n _ h) ((hK.2 1 _ rfl).1 N (fun j => .long (f j))) (fun q => by cases q) (by show ¬ (i < 0 ∨ (arrV _ _ _).slots.size ≤ _); rw [arrV_size]; exact hin) rfl rfl hdg fun H1 e1 z oq => ?_
  refine kk H1 _ (hP.set hD h ?_ oq) (hD.set h) (hS.put z oq (hD.2 n _ h))
  show H1[a]? = some (vp_cell _ _)
  rw [e1, vp_cell_l, vp_cell_l, arrV_store]
  congr 2
  funext q
  by_cases hq : q = i.toNatClampNeg
  · subst hq; simp [updV, vp_updL]
  · simp [updV, vp_updL, hq]
theorem sg_aast (hexec : p.tables.exec = Jvm.exec) (hb : c.code = cc) (hK : sg_K D Y s) (hP : sg_P D σ H) (hD : sg_D A σ) (hS : va_S A H0 H locs) (t0 ci : Nat) {n N n2 v : Nat} {cA : ClassId} {r : vw_C} {vs : List Value} {f : Nat → Option Nat} (h : σ n = some (a, .inl (cA, N, .inr (.inr (.inr (.inr f)))))) (ht : (sg_T Y)[t0]? = some (cA, .object r.1)) (hv : σ n2 = some (v, .inr (ci, vs))) (hc : vwCl[ci]? = some r) {i : Int32} (hin : vp_in i N) (hdg : decode cc pc = .ok (.aastore, 1))
    (kk : ∀ (H1 : Heap) (locs1 : List Loc), sg_P D (sg_u σ n a (.inl (cA, N, .inr (.inr (.inr (.inr (va_up f i.toNatClampNeg (some v)))))))) H1 → sg_D A (sg_u σ n a (.inl (cA, N, .inr (.inr (.inr (.inr (va_up f i.toNatClampNeg (some v)))))))) → va_S A H0 H1 locs1 → W p l e R s m args below meth c H1 locs1 cells slots Q (F0 m (pc + 1) ls rest)) : W p l e R s m args below meth c H locs cells slots Q (F0 m pc ls (.ref v :: .int i :: .ref a :: rest)) := by
  have hlt : i.toNatClampNeg < N := Nat.not_le.mp fun q => hin (Or.inr q)
  have h0 : ¬ i < 0 := fun q => hin (Or.inl q)
  obtain ⟨r', hr', cellV, g1, g2, g3, -⟩ := hP n2 _ hv
  have hcls := (hK.1 ci r hc).2
  obtain ⟨kA, comp, k1, k2, k3, -⟩ := (hK.2 t0 _ ht).2
  have hcomp : comp = D.1 ci := Option.some.inj (k3.symm.trans hcls.1)
  subst hcomp
  obtain ⟨kC, hkC, -⟩ := hcls.2
  refine W.aast hexec hb (hP n _ h) (fun q h => by cases h) (fun h => by cases h) k1 k2 rfl hkC ⟨h0, by show _ < (arrV _ _ _).slots.size; rw [arrV_size]; exact hlt⟩ g1 (fun q h => by rw [g3] at h; cases h) (by rw [g2]; exact hkC) (by rw [g2]; exact va_assign hcls) rfl rfl hdg fun H1 e1 z oq => ?_
  refine kk H1 _ (hP.set hD h ?_ oq) (hD.set h) (hS.put z oq (hD.2 n _ h))
  show H1[a]? = some (vp_cell _ _)
  rw [e1, vp_cell_q, vp_cell_q, arrV_store]
  congr 2
  funext q
  by_cases hq : q = i.toNatClampNeg
  · subst hq; simp [updV, va_up, va_rf]
  · simp [updV, va_up, hq]
theorem sg_put (hexec : p.tables.exec = Jvm.exec) (hb : c.code = cc) {own ref C : String} {T : u_T} {N ci index : Nat} {Ts : List Cond} (hts : ∀ w ∈ Ts, w.before args s = true) (hin : ∀ w ∈ u_ws C T N, w ∈ Ts) (ty0 : Nat → FieldType) (hty : ∀ k, k < N → parseFieldDescriptor (T k).2.2.1 = some (ty0 k)) (hnm : ∀ a, a < N → ∀ b, b < N → a ≠ b → (T a).2.1 ≠ (T b).2.1) (hown : s.vm.findClass own = some m.cls) (hK : sg_K D Y s) (hP : sg_P D σ H) (hD : sg_D A σ) (hS0 : va_S A H0 H locs) {n : Nat} {fs : List Value} (h : σ n = some (a, .inr (ci, fs))) (hc : vwCl[ci]? = some (C, T, N)) (k : Nat) (hk : k < N) (hlink : (Cond.fieldLink own index ref (T k).2.1 (T k).2.2.1).before args s = true) (hsame : ∀ x, s.fieldFound? (T k).1 (T k).2.1 (T k).2.2.1 = some x → s.fieldFound? ref (T k).2.1 (T k).2.2.1 = some x) (hfin : (T k).2.2.2 = false) {ty : FieldType} {v : Value} (hd : parseFieldDescriptor (T k).2.2.1 = some ty) (hn : narrow ty v = v) (hfit : fits ty v = true) (hl : k < fs.length)
    (hdg : decode cc pc = .ok (.putfield index, 3)) (kk : ∀ (H1 : Heap) (locs1 : List Loc), sg_P D (sg_u σ n a (.inr (ci, fs.set k v))) H1 → sg_D A (sg_u σ n a (.inr (ci, fs.set k v))) → va_S A H0 H1 locs1 → W p l e R s m args below meth c H1 locs1 cells slots Q (F0 m (pc + 3) ls rest)) : W p l e R s m args below meth c H locs cells slots Q (F0 m pc ls (v :: .ref a :: rest)) := by
  have hap := va_apart (own := own) hts hin ty0 hty hnm hK hc
  obtain ⟨r, h1, cell, q1, q2, q3, q4⟩ := hP n _ h
  have hr : r = (C, T, N) := Option.some.inj (h1.symm.trans hc)
  subst hr
  obtain ⟨hS, hfc, kC, hkC, hkind⟩ := hK.1 ci _ hc
  obtain ⟨cf, kf, fi, f, hi, hsl⟩ := hS k hk
  have hlay := hts _ (hin _ (u_in_lay hk))
  unfold u_lay at hlay
  rw [if_neg (by rw [hfin]; decide)] at hlay
  have hst := (u_facts hfc hkC (u_lays hts hin hk) hi).1
  have h6 := u_store hfc hkC hkind hlay hi hd hn hfit
  refine W.putK hexec hb (f := f) ⟨hown, hlink, ⟨_, _, _, hsame _ hi⟩, hst⟩ (by rw [q2]; exact h6) q1 q3 (by rw [hsl]; exact k2_hasslot (q4 k hk)) rfl rfl hdg fun H' e1 e2 e3 => ?_
  rw [hsl] at e1 ⊢
  exact kk H' _ (hP.set hD h ⟨_, hc, t_OB.to (V := updV (vp_V fs) k v) ⟨_, e1, q2, q3, t_set q4 hap hk v⟩ (fun j _ => vp_updV_set hl v j)⟩ e3) (hD.set h) (hS0.put e2 e3 (hD.2 n _ h))
theorem sg_putN (hexec : p.tables.exec = Jvm.exec) (hb : c.code = cc) {own ref C host : String} {T : u_T} {N ci index : Nat} {Ts : List Cond} (hts : ∀ w ∈ Ts, w.before args s = true) (hin : ∀ w ∈ u_ws C T N, w ∈ Ts) (ty0 : Nat → FieldType) (hty : ∀ k, k < N → parseFieldDescriptor (T k).2.2.1 = some (ty0 k)) (hnm : ∀ a, a < N → ∀ b, b < N → a ≠ b → (T a).2.1 ≠ (T b).2.1) (hown : s.vm.findClass own = some m.cls) (hK : sg_K D Y s) (hP : sg_P D σ H) (hD : sg_D A σ) (hS0 : va_S A H0 H locs) {n : Nat} {fs : List Value} (h : σ n = some (a, .inr (ci, fs))) (hc : vwCl[ci]? = some (C, T, N)) (k : Nat) (hk : k < N) (hlink : (Cond.fieldLinkNest own index ref (T k).2.1 (T k).2.2.1 host).before args s = true) (hsame : ∀ x, s.fieldFound? (T k).1 (T k).2.1 (T k).2.2.1 = some x → s.fieldFound? ref (T k).2.1 (T k).2.2.1 = some x) (hfin : (T k).2.2.2 = false) {ty : FieldType} {v : Value} (hd : parseFieldDescriptor (T k).2.2.1 = some ty) (hn : narrow ty v = v) (hfit : fits ty v = true) (hl : k < fs.length)
    (hdg : decode cc pc = .ok (.putfield index, 3)) (kk : ∀ (H1 : Heap) (locs1 : List Loc), sg_P D (sg_u σ n a (.inr (ci, fs.set k v))) H1 → sg_D A (sg_u σ n a (.inr (ci, fs.set k v))) → va_S A H0 H1 locs1 → W p l e R s m args below meth c H1 locs1 cells slots Q (F0 m (pc + 3) ls rest)) : W p l e R s m args below meth c H locs cells slots Q (F0 m pc ls (v :: .ref a :: rest)) := by
  have hap := va_apart (own := own) hts hin ty0 hty hnm hK hc
  obtain ⟨r, h1, cell, q1, q2, q3, q4⟩ := hP n _ h
  have hr : r = (C, T, N) := Option.some.inj (h1.symm.trans hc)
  subst hr
  obtain ⟨hS, hfc, kC, hkC, hkind⟩ := hK.1 ci _ hc
  obtain ⟨cf, kf, fi, f, hi, hsl⟩ := hS k hk
  have hlay := hts _ (hin _ (u_in_lay hk))
  unfold u_lay at hlay
  rw [if_neg (by rw [hfin]; decide)] at hlay
  have hst := (u_facts hfc hkC (u_lays hts hin hk) hi).1
  have h6 := u_store hfc hkC hkind hlay hi hd hn hfit
  refine va_WputK hexec hb (f := f) hown hlink (hsame _ hi) hst (by rw [q2]; exact h6) q1 q3 (by rw [hsl]; exact k2_hasslot (q4 k hk)) rfl rfl hdg fun H' e1 e2 e3 => ?_
  rw [hsl] at e1 ⊢
  exact kk H' _ (hP.set hD h ⟨_, hc, t_OB.to (V := updV (vp_V fs) k v) ⟨_, e1, q2, q3, t_set q4 hap hk v⟩ (fun j _ => vp_updV_set hl v j)⟩ e3) (hD.set h) (hS0.put e2 e3 (hD.2 n _ h))
theorem sg_putF (hexec : p.tables.exec = Jvm.exec) (hb : c.code = cc) {own ref C : String} {T : u_T} {N ci index : Nat} {Ts : List Cond} (hts : ∀ w ∈ Ts, w.before args s = true) (hin : ∀ w ∈ u_ws C T N, w ∈ Ts) (ty0 : Nat → FieldType) (hty : ∀ k, k < N → parseFieldDescriptor (T k).2.2.1 = some (ty0 k)) (hnm : ∀ a, a < N → ∀ b, b < N → a ≠ b → (T a).2.1 ≠ (T b).2.1) (hown : s.vm.findClass own = some m.cls) (hK : sg_K D Y s) (hP : sg_P D σ H) (hD : sg_D A σ) (hS0 : va_S A H0 H locs) {n : Nat} {fs : List Value} (h : σ n = some (a, .inr (ci, fs))) (hc : vwCl[ci]? = some (C, T, N)) (k : Nat) (hk : k < N) (hlink : (Cond.fieldLink own index ref (T k).2.1 (T k).2.2.1).before args s = true) (hsame : ∀ x, s.fieldFound? (T k).1 (T k).2.1 (T k).2.2.1 = some x → s.fieldFound? ref (T k).2.1 (T k).2.2.1 = some x) (hfin : (T k).2.2.2 = true) (hin2 : meth.name = "<init>") (hdecl : (T k).1 = own) {ty : FieldType} {v : Value} (hd : parseFieldDescriptor (T k).2.2.1 = some ty) (hn : narrow ty v = v) (hfit : fits ty v = true) (hl : k < fs.length)
    (hdg : decode cc pc = .ok (.putfield index, 3)) (kk : ∀ (H1 : Heap) (locs1 : List Loc), sg_P D (sg_u σ n a (.inr (ci, fs.set k v))) H1 → sg_D A (sg_u σ n a (.inr (ci, fs.set k v))) → va_S A H0 H1 locs1 → W p l e R s m args below meth c H1 locs1 cells slots Q (F0 m (pc + 3) ls rest)) : W p l e R s m args below meth c H locs cells slots Q (F0 m pc ls (v :: .ref a :: rest)) := by
  have hap := va_apart (own := own) hts hin ty0 hty hnm hK hc
  obtain ⟨r, h1, cell, q1, q2, q3, q4⟩ := hP n _ h
  have hr : r = (C, T, N) := Option.some.inj (h1.symm.trans hc)
  subst hr
  obtain ⟨hS, hfc, kC, hkC, hkind⟩ := hK.1 ci _ hc
  obtain ⟨cf, kf, fi, f, hi, hsl⟩ := hS k hk
  have hlay := hts _ (hin _ (u_in_lay hk))
  unfold u_lay at hlay
  rw [if_pos hfin] at hlay
  have hst := (u_facts hfc hkC (u_lays hts hin hk) hi).1
  have hcf : m.cls = cf := by
    obtain ⟨_, _, c', _, _, _, -, -, hf', -, -, -, hown2, -⟩ := Cond.laysFinal_spec hlay
    have e1 : c' = cf := by have := hi.symm.trans hf'; simp at this; exact this.1.symm
    rw [hdecl] at hown2
    rw [← e1]; exact Option.some.inj (hown.symm.trans hown2)
  have h6 := u_fits hfc hkC hkind (Or.inr hlay) hi hd hn hfit
  refine W.putFinK hexec hb hown hlink (hsame _ hi) hst hcf hin2 (by rw [q2]; exact h6) q1 q3 (by rw [hsl]; exact k2_hasslot (q4 k hk)) rfl rfl hdg fun H' e1 e2 e3 => ?_
  rw [hsl] at e1 ⊢
  exact kk H' _ (hP.set hD h ⟨_, hc, t_OB.to (V := updV (vp_V fs) k v) ⟨_, e1, q2, q3, t_set q4 hap hk v⟩ (fun j _ => vp_updV_set hl v j)⟩ e3) (hD.set h) (hS0.put e2 e3 (hD.2 n _ h))
/-- a new object gets the name n -/
theorem sg_new (n : Nat) (hexec : p.tables.exec = Jvm.exec) (hb : c.code = cc) {own C : String} {T : u_T} {N ci index : Nat} {Ts : List Cond} (hts : ∀ w ∈ Ts, w.before args s = true) (hin : ∀ w ∈ u_ws C T N, w ∈ Ts) (ty : Nat → FieldType) (hty : ∀ k, k < N → parseFieldDescriptor (T k).2.2.1 = some (ty k)) (hown : s.vm.findClass own = some m.cls) (hcl : (Cond.classLink own index C).before args s = true) (hinst : (Cond.instantiable C N).before args s = true) (hini : (Cond.initialized C).before args s = true)
    (hK : sg_K D Y s) (hP : sg_P D σ H) (hD : sg_D A σ) (hS : va_S A H0 H locs) (hA : ∀ q, H0.size ≤ q → A q) (hc : vwCl[ci]? = some (C, T, N)) {fs : List Value} (hfs : ∀ j, j < N → defaultValue (ty j) = vp_V fs j) (hcells : cells + 1 ≤ R.cells) (hslots : slots + N ≤ R.slots) (hdg : decode cc pc = .ok (.new index, 3))
    (kk : ∀ (q : Nat) (H1 : Heap), sg_P D (sg_u σ n q (.inr (ci, fs))) H1 → sg_D A (sg_u σ n q (.inr (ci, fs))) → va_S A H0 H1 locs →
      W p l e R s m args below meth c H1 locs (cells + 1) (slots + N) Q (F0 m (pc + 3) ls (.ref q :: rest))) : W p l e R s m args below meth c H locs cells slots Q (F0 m pc ls rest) := by
  have hKn := hK.1 ci _ hc
  refine W.newcK hexec hb hown hcl hinst hini rfl hdg hcells hslots hKn.2.1 rfl fun H1 kC hkC e1 z1 o1 => ?_
  exact kk H.size H1 (hP.new ⟨_, hc, (u_born ty hts hin hKn hkC e1 hty).to hfs⟩ o1) (hD.new hP (hA _ hS.1)) ⟨Nat.le_trans hS.1 (by omega), fun x h1 h2 => (o1 x (Nat.lt_of_lt_of_le h1 hS.1)).trans (hS.2.1 x h1 h2), hS.2.2⟩
/-- a new array of numbers gets the name n; t0: its class's place among the array classes -/
theorem sg_newa (n t0 : Nat) (hexec : p.tables.exec = Jvm.exec) (hb : c.code = cc) {atype : ArrayType} (harr : (Cond.arrayClass (newarray.typeOf atype)).before args s = true) {cA : ClassId} (ht : (sg_T Y)[t0]? = some (cA, newarray.typeOf atype)) (hK : sg_K D Y s) (hP : sg_P D σ H) (hD : sg_D A σ) (hS : va_S A H0 H locs) (hA : ∀ q, H0.size ≤ q → A q)
    {n1 : Int32} {N' : Nat} {a0 : vp_A} (ha : ∀ cA : ClassId, vp_cell cA a0 = arrV cA N' (fun _ => defaultValue (newarray.typeOf atype))) (hn : ¬ n1 < 0) (hN : n1.toNatClampNeg = N') (hbytes : N' * componentBytes (newarray.typeOf atype) ≤ 536870912) (hcells : cells + 1 ≤ R.cells) (hslots : slots + N' ≤ R.slots) (hdg : decode cc pc = .ok (.newarray atype, 2))
    (kk : ∀ (q : Nat) (H1 : Heap), sg_P D (sg_u σ n q (.inl (cA, a0))) H1 → sg_D A (sg_u σ n q (.inl (cA, a0))) → va_S A H0 H1 locs →
      W p l e R s m args below meth c H1 locs (cells + 1) (slots + N') Q (F0 m (pc + 2) ls (.ref q :: rest))) : W p l e R s m args below meth c H locs cells slots Q (F0 m pc ls (.int n1 :: rest)) := by
  refine va_newaK hexec hb harr rfl hdg rfl hn hN hbytes hcells hslots rfl fun H1 cB e1 z1 o1 hAr hNm => ?_
  have hcc : cB = cA := by
    have h9 := (hK.2 t0 _ ht).2
    have h8 : s.vm.findClass ("[" ++ (newarray.typeOf atype).toString) = some cA := by cases atype <;> exact h9
    exact Option.some.inj (hNm.symm.trans h8)
  subst hcc
  exact kk H.size H1 (hP.new (by show H1[H.size]? = some (vp_cell _ _); rw [ha]; exact e1) o1) (hD.new hP (hA _ hS.1)) ⟨Nat.le_trans hS.1 (by omega), fun x h1 h2 => (o1 x (Nat.lt_of_lt_of_le h1 hS.1)).trans (hS.2.1 x h1 h2), hS.2.2⟩
/-- a new array of references gets the name n -/
theorem sg_newq (n t0 : Nat) (hexec : p.tables.exec = Jvm.exec) (hb : c.code = cc) {own C : String} {index : Nat} (hown : s.vm.findClass own = some m.cls) (hclink : (Cond.classLink own index C).before args s = true) (hover : va_AO C s) {cA : ClassId} (ht : (sg_T Y)[t0]? = some (cA, .object C)) (hK : sg_K D Y s) (hP : sg_P D σ H) (hD : sg_D A σ) (hS : va_S A H0 H locs) (hA : ∀ q, H0.size ≤ q → A q)
    {n1 : Int32} {N' : Nat} (hn : ¬ n1 < 0) (hN : n1.toNatClampNeg = N') (hbytes : N' * 4 ≤ 536870912) (hcells : cells + 1 ≤ R.cells) (hslots : slots + N' ≤ R.slots) (hdg : decode cc pc = .ok (.anewarray index, 3))
    (kk : ∀ (q : Nat) (H1 : Heap), sg_P D (sg_u σ n q (.inl (cA, N', .inr (.inr (.inr (.inr (fun _ => none))))))) H1 → sg_D A (sg_u σ n q (.inl (cA, N', .inr (.inr (.inr (.inr (fun _ => none))))))) → va_S A H0 H1 locs →
      W p l e R s m args below meth c H1 locs (cells + 1) (slots + N') Q (F0 m (pc + 3) ls (.ref q :: rest))) : W p l e R s m args below meth c H locs cells slots Q (F0 m pc ls (.int n1 :: rest)) := by
  subst hN
  refine W.anew hexec hb hown hclink (va_AO.use hover) rfl hdg rfl hn hbytes hcells hslots fun cB kA comp f1 f2 f3 f4 => ?_
  have hcc : cB = cA := by
    obtain ⟨_, _, _, _, _, h9⟩ := (hK.2 t0 _ ht).2
    exact Option.some.inj (f1.symm.trans h9)
  subst hcc
  generalize hH1 : H.push ({ cls := cB, slots := Array.replicate n1.toNatClampNeg .null, vm := .none } : Cell) = H1
  have z1 : H1.size = H.size + 1 := by rw [← hH1, Array.size_push]
  have e1 : H1[H.size]? = some (arrV cB n1.toNatClampNeg (fun _ => .null)) := by rw [← hH1, Array.getElem?_push_size, ← arrV_new]
  have o1 : ∀ q : Nat, q < H.size → H1[q]? = H[q]? := fun q hq => by rw [← hH1, Array.getElem?_push, if_neg (Nat.ne_of_lt hq)]
  exact kk H.size H1 (hP.new (by show H1[H.size]? = some (vp_cell _ _); rw [vp_cell_q]; exact e1) o1) (hD.new hP (hA _ hS.1)) ⟨Nat.le_trans hS.1 (by omega), fun x h1 h2 => (o1 x (Nat.lt_of_lt_of_le h1 hS.1)).trans (hS.2.1 x h1 h2), hS.2.2⟩
/-! starts of calls -/
theorem sg_pre {av : List Value} (hK : sg_K D Y s) (hP : sg_P D σ H) (hD : sg_D A σ) (hN : sg_N s) (hX : sg_X A s s.heap) (hS : va_S A s.heap H locs) (hA : ∀ q, s.heap.size ≤ q → A q) : ∀ U : State, U.heap = H → s.WarmedH U.vm → va_Pc av (sg_U D Y σ H.size) av.toArray U := by
  intro U hU hW
  refine ⟨rfl, by rw [hU], by rw [hU]; exact hP, va_K.moved hW.alike hK, hD.weaken (fun _ _ => trivial), hN.warm hW, ?_⟩
  rw [hU]
  exact hX.at hW.alike hS (sg_A.sub hD (fun q h => hA q (Nat.le_trans hS.1 h)))
theorem sg_preS {av : List Value} (hK : sg_K D Y s) (hP : sg_P D σ H) (hD : sg_D A σ) (hN : sg_N s) (hX : sg_X A s s.heap) (hS : va_S A s.heap H locs) (hA : ∀ q, s.heap.size ≤ q → A q) : PreS s H (va_Pc av (sg_U D Y σ H.size)) av := ⟨sg_blind, sg_pre hK hP hD hN hX hS hA⟩
theorem sg_preV {As : List Value} {q : vw_C} {b ci n : Nat} {fs : List Value} (h : σ n = some (b, .inr (ci, fs))) (hc : vwCl[ci]? = some q) (hK : sg_K D Y s) (hP : sg_P D σ H) (hD : sg_D A σ) (hN : sg_N s) (hX : sg_X A s s.heap) (hS : va_S A s.heap H locs) (hA : ∀ q, s.heap.size ≤ q → A q) : PreV s H q.1 b (va_Pc (.ref b :: As) (sg_U D Y σ H.size)) As :=
  ⟨sg_blind, va_recv hK (sg_one hP h) (q0 := 0) hc rfl, sg_pre hK hP hD hN hX hS hA⟩
/-! behind calls -/
theorem sg_behind {σ' : sg_W} {t : State} {H1 : Heap} (hD : sg_D A σ) (hS : va_S A H0 H locs) (hA : ∀ q, H0.size ≤ q → A q) (ht : t.heap = H1) (hB : sg_B D σ H.size σ' t) : sg_P D σ' H1 ∧ sg_D A σ' := by
  refine ⟨by rw [← ht]; exact hB.1, hB.2.weaken (sg_A.sub hD (fun q h => hA q (Nat.le_trans hS.1 h)))⟩
theorem sg_calli {mc ms : Nat} {st0 : List Value} {a : Array Value} {Post : Int32 → sg_W → Prop} (hD : sg_D A σ) (hS : va_S A H0 H locs) (hA : ∀ q, H0.size ≤ q → A q) (hr : va_Run p l e R s m args below meth c H locs cells slots mc ms (F0 m pc ls st0) rest (va_Qi Post (sg_B D σ H.size) (sg_A σ H.size) a) (sg_A σ H.size))
    (kk : ∀ (r : Int32) (σ' : sg_W) (H1 : Heap) (locs1 : List Loc), Post r σ' → sg_P D σ' H1 → sg_D A σ' → va_S A H0 H1 locs1 → W p l e R s m args below meth c H1 locs1 (cells + mc) (slots + ms) Q (F0 m (pc + 3) ls (.int r :: rest))) : W p l e R s m args below meth c H locs cells slots Q (F0 m pc ls st0) := by
  have hsub := sg_A.sub hD (fun q h => hA q (Nat.le_trans hS.1 h))
  refine va_calli hr hS (fun q _ h => hsub q h) hsub (fun r σ' t H1 locs1 ht hvm hw hB hz hk hS1 => ?_)
  obtain ⟨h1, h2⟩ := sg_behind hD hS hA ht hB
  exact kk r σ' H1 locs1 hw h1 h2 hS1
theorem sg_calll {mc ms : Nat} {st0 : List Value} {a : Array Value} {Post : Int64 → sg_W → Prop} (hD : sg_D A σ) (hS : va_S A H0 H locs) (hA : ∀ q, H0.size ≤ q → A q) (hr : va_Run p l e R s m args below meth c H locs cells slots mc ms (F0 m pc ls st0) rest (va_Ql Post (sg_B D σ H.size) (sg_A σ H.size) a) (sg_A σ H.size))
    (kk : ∀ (r : Int64) (σ' : sg_W) (H1 : Heap) (locs1 : List Loc), Post r σ' → sg_P D σ' H1 → sg_D A σ' → va_S A H0 H1 locs1 → W p l e R s m args below meth c H1 locs1 (cells + mc) (slots + ms) Q (F0 m (pc + 3) ls (.long r :: rest))) : W p l e R s m args below meth c H locs cells slots Q (F0 m pc ls st0) := by
  have hsub := sg_A.sub hD (fun q h => hA q (Nat.le_trans hS.1 h))
  refine va_calll hr hS (fun q _ h => hsub q h) hsub (fun r σ' t H1 locs1 ht hvm hw hB hz hk hS1 => ?_)
  obtain ⟨h1, h2⟩ := sg_behind hD hS hA ht hB
  exact kk r σ' H1 locs1 hw h1 h2 hS1
theorem sg_callv {mc ms : Nat} {st0 : List Value} {a : Array Value} {Post : sg_W → Prop} (hD : sg_D A σ) (hS : va_S A H0 H locs) (hA : ∀ q, H0.size ≤ q → A q) (hr : va_Run p l e R s m args below meth c H locs cells slots mc ms (F0 m pc ls st0) rest (va_Qv Post (sg_B D σ H.size) (sg_A σ H.size) a) (sg_A σ H.size))
    (kk : ∀ (σ' : sg_W) (H1 : Heap) (locs1 : List Loc), Post σ' → sg_P D σ' H1 → sg_D A σ' → va_S A H0 H1 locs1 → W p l e R s m args below meth c H1 locs1 (cells + mc) (slots + ms) Q (F0 m (pc + 3) ls rest)) : W p l e R s m args below meth c H locs cells slots Q (F0 m pc ls st0) := by
  have hsub := sg_A.sub hD (fun q h => hA q (Nat.le_trans hS.1 h))
  refine va_callv hr hS (fun q _ h => hsub q h) hsub (fun σ' t H1 locs1 ht hvm hw hB hz hk hS1 => ?_)
  obtain ⟨h1, h2⟩ := sg_behind hD hS hA ht hB
  exact kk σ' H1 locs1 hw h1 h2 hS1
theorem sg_callq {mc ms : Nat} {st0 : List Value} {a : Array Value} {Post : Option Nat → sg_W → Prop} (hD : sg_D A σ) (hS : va_S A H0 H locs) (hA : ∀ q, H0.size ≤ q → A q) (hr : va_Run p l e R s m args below meth c H locs cells slots mc ms (F0 m pc ls st0) rest (va_Qq Post (sg_B D σ H.size) (sg_A σ H.size) a) (sg_A σ H.size))
    (kk : ∀ (r : Option Nat) (σ' : sg_W) (H1 : Heap) (locs1 : List Loc), Post r σ' → sg_P D σ' H1 → sg_D A σ' → va_S A H0 H1 locs1 → W p l e R s m args below meth c H1 locs1 (cells + mc) (slots + ms) Q (F0 m (pc + 3) ls (va_rf r :: rest))) : W p l e R s m args below meth c H locs cells slots Q (F0 m pc ls st0) := by
  have hsub := sg_A.sub hD (fun q h => hA q (Nat.le_trans hS.1 h))
  refine va_callq hr hS (fun q _ h => hsub q h) hsub (fun r σ' t H1 locs1 ht hvm hw hB hz hk hS1 => ?_)
  obtain ⟨h1, h2⟩ := sg_behind hD hS hA ht hB
  exact kk r σ' H1 locs1 hw h1 h2 hS1
/-! ends -/
theorem sg_iret {σ0 : sg_W} {sz mc ms : Nat} {v : Int32} {ty : FieldType} {Post : Int32 → sg_W → Prop} (hexec : p.tables.exec = Jvm.exec) (hb : c.code = cc) (hr : meth.sig.returnType = some ty) (hn : narrow ty (.int v) = .int v) (hlocks : meth.locks = false) (hP : sg_P D σ H) (hD : sg_D (sg_A σ0 sz) σ) (hS : va_S (sg_A σ0 sz) s.heap H locs) (hc : cells ≤ mc) (hs : slots ≤ ms) (hdg : decode cc pc = .ok (.ireturn, 1)) (hpost : Post v σ) :
    W p l e R s m args below meth c H locs cells slots (MQ below (va_Qi Post (sg_B D σ0 sz) (sg_A σ0 sz)) args s mc ms (sg_A σ0 sz)) (F0 m pc ls [.int v]) :=
  W.widen hc hs (W.zret hexec hb hr hn (fun t ht _ => ⟨⟨v, σ, rfl, hpost, by rw [ht]; exact hP, hD⟩, hS.F ht⟩) hS.2.2 hdg hlocks)
theorem sg_lret {σ0 : sg_W} {sz mc ms : Nat} {v : Int64} {Post : Int64 → sg_W → Prop} (hexec : p.tables.exec = Jvm.exec) (hb : c.code = cc) (hr : meth.sig.returnType = some .long) (hlocks : meth.locks = false) (hP : sg_P D σ H) (hD : sg_D (sg_A σ0 sz) σ) (hS : va_S (sg_A σ0 sz) s.heap H locs) (hc : cells ≤ mc) (hs : slots ≤ ms) (hdg : decode cc pc = .ok (.lreturn, 1)) (hpost : Post v σ) :
    W p l e R s m args below meth c H locs cells slots (MQ below (va_Ql Post (sg_B D σ0 sz) (sg_A σ0 sz)) args s mc ms (sg_A σ0 sz)) (F0 m pc ls [.long v]) :=
  W.widen hc hs (W.lret hexec hb hr (fun t ht _ => ⟨⟨v, σ, rfl, hpost, by rw [ht]; exact hP, hD⟩, hS.F ht⟩) hS.2.2 hdg hlocks)
theorem sg_vret {σ0 : sg_W} {sz mc ms : Nat} {Post : sg_W → Prop} (hexec : p.tables.exec = Jvm.exec) (hb : c.code = cc) (hr : meth.sig.returnType = none) (hlocks : meth.locks = false) (hP : sg_P D σ H) (hD : sg_D (sg_A σ0 sz) σ) (hS : va_S (sg_A σ0 sz) s.heap H locs) (hc : cells ≤ mc) (hs : slots ≤ ms) (hdg : decode cc pc = .ok (.return_, 1)) (hpost : Post σ) :
    W p l e R s m args below meth c H locs cells slots (MQ below (va_Qv Post (sg_B D σ0 sz) (sg_A σ0 sz)) args s mc ms (sg_A σ0 sz)) (F0 m pc ls []) :=
  W.widen hc hs (W.vret hexec hb hr (fun t ht _ => ⟨⟨σ, rfl, hpost, by rw [ht]; exact hP, hD⟩, hS.F ht⟩) hS.2.2 hdg hlocks)
theorem sg_qret {σ0 : sg_W} {sz mc ms : Nat} {n : String} {v : Option Nat} {Post : Option Nat → sg_W → Prop} (hexec : p.tables.exec = Jvm.exec) (hb : c.code = cc) (hr : meth.sig.returnType = some (.object n)) (hlocks : meth.locks = false) (hP : sg_P D σ H) (hD : sg_D (sg_A σ0 sz) σ) (hS : va_S (sg_A σ0 sz) s.heap H locs) (hc : cells ≤ mc) (hs : slots ≤ ms) (hdg : decode cc pc = .ok (.areturn, 1)) (hpost : Post v σ) :
    W p l e R s m args below meth c H locs cells slots (MQ below (va_Qq Post (sg_B D σ0 sz) (sg_A σ0 sz)) args s mc ms (sg_A σ0 sz)) (F0 m pc ls [va_rf v]) :=
  W.widen hc hs (W.aret hexec hb hr (Or.inl ⟨n, rfl⟩) (va_rf_or v) (fun t ht _ => ⟨⟨v, σ, rfl, hpost, by rw [ht]; exact hP, hD⟩, hS.F ht⟩) hS.2.2 hdg hlocks)
end SG
/-! starts of methods -/
theorem sg_met {l : Launch} {y : MethodName} {ws ws' : List Cond} {rm : Room} {av : List Value} {Qc : Array Value → State → Outcome → State → Prop} {mc ms : Nat} {cc : ByteArray} {maxL : Nat} {ret : Option FieldType} {D : va_G} {Y : Nat → ClassId} {σ : sg_W} {sz : Nat} (hy : plainName y.cls = true) (hw : ws = Cond.code y cc maxL ret :: ws') (hlen : (lg_sl av).length ≤ maxL)
    (body : ∀ (p : Program) (e : Env) (s : State) (m : MethodId) (below : List Frame) (meth : Method) (c : Code) (ls : Array Slot), p.tables.exec = Jvm.exec → c.code = cc → c.maxLocals = maxL → meth.sig.returnType = ret → s.vm.findClass y.cls = some m.cls → (∀ w ∈ ws, w.before av.toArray s = true) → meth.locks = false → meth.name = y.name →
      sg_P D σ s.heap → sg_K D Y s → sg_D (sg_A σ sz) σ → sg_N s → sg_X (sg_A σ sz) s s.heap → (∀ q, s.heap.size ≤ q → sg_A σ sz q) → va_S (sg_A σ sz) s.heap s.heap [] → s.heap.size = sz → lv_has ls maxL (lv_args 0 av) →
      W p l e rm s m av.toArray below meth c s.heap [] 0 0 (MQ below Qc av.toArray s mc ms (sg_A σ sz)) (F0 m 0 ls [])) : Met l y ws rm (va_Pc av (sg_U D Y σ sz)) Qc mc ms (sg_A σ sz) := by
  refine Met.ofW (cc := cc) (maxL := maxL) (ret := ret) hy hw ?_
  intro p e s m args below meth c s₁ B hml hv
  obtain ⟨rfl, hsz, hP, hK, hD0, hN, hX⟩ := hv
  rw [lg_entry_eq]
  exact body p e s m below meth c _ B.exec B.bytes hml B.returns (findClass_of_methodNamed B.named) (atoms_spec (ws := ws) B.pre) B.notSynchronized (name_of_methodNamed B.named B.method).1 hP hK hD0.self hN hX (fun q h => Or.inr (by rw [← hsz]; exact h)) va_S.rf hsz (lv_entry av hlen)
theorem sg_metX {l : Launch} {y : MethodName} {ws ws' : List Cond} {rm : Room} {av : List Value} {Qc : Array Value → State → Outcome → State → Prop} {XC : String → State → State → Prop} {mc ms : Nat} {cc : ByteArray} {maxL : Nat} {ret : Option FieldType} {D : va_G} {Y : Nat → ClassId} {σ : sg_W} {sz : Nat} (hy : plainName y.cls = true) (hw : ws = Cond.code y cc maxL ret :: ws') (hlen : (lg_sl av).length ≤ maxL)
    (body : ∀ (p : Program) (e : Env) (s : State) (m : MethodId) (below : List Frame) (meth : Method) (c : Code) (ls : Array Slot), p.tables.exec = Jvm.exec → c.code = cc → c.maxLocals = maxL → (∀ x ∈ c.exceptionTable.toList, False) → meth.sig.returnType = ret → s.vm.findClass y.cls = some m.cls → (∀ w ∈ ws, w.before av.toArray s = true) → meth.locks = false → meth.name = y.name →
      sg_P D σ s.heap → sg_K D Y s → sg_D (sg_A σ sz) σ → sg_N s → sg_X (sg_A σ sz) s s.heap → (∀ q, s.heap.size ≤ q → sg_A σ sz q) → va_S (sg_A σ sz) s.heap s.heap [] → s.heap.size = sz → lv_has ls maxL (lv_args 0 av) →
      W p l e rm s m av.toArray below meth c s.heap [] 0 0 (vx_MQ below Qc XC av.toArray s mc ms (sg_A σ sz)) (F0 m 0 ls [])) : vx_Met l y ws rm (va_Pc av (sg_U D Y σ sz)) Qc XC mc ms (sg_A σ sz) := by
  refine vx_ofW (cc := cc) (maxL := maxL) (ret := ret) hy hw ?_
  intro p e s m args below meth c s₁ B hml hx hv
  obtain ⟨rfl, hsz, hP, hK, hD0, hN, hX⟩ := hv
  rw [lg_entry_eq]
  exact body p e s m below meth c _ B.exec B.bytes hml hx B.returns (findClass_of_methodNamed B.named) (atoms_spec (ws := ws) B.pre) B.notSynchronized (name_of_methodNamed B.named B.method).1 hP hK hD0.self hN hX (fun q h => Or.inr (by rw [← hsz]; exact h)) va_S.rf hsz (lv_entry av hlen)
end
section
/-! THE STATE: a state of the plan is the reference's: its scalars, its int rows, its long rows, each by the place of its field (0 month, 1 price, 2 ceiling, 3 members, 4 rate, 5 left, 6 money, 7 back, 8 spent, 9 kept, 10 first, 11 times, 12 resets, 13 pay, 14 gain, 15 bought, 16 had, 17 paid, 18 offer, 19 thrown) -/
abbrev MS : Type := (Nat → Int32) × (Nat → Nat → Int32) × (Nat → Nat → Int64)
def sS (M : MS) (j : Nat) : Int32 := M.1 j
def sI (M : MS) (j : Nat) : Nat → Int32 := M.2.1 j
def sL (M : MS) (j : Nat) : Nat → Int64 := M.2.2 j
def uS (M : MS) (j : Nat) (v : Int32) : MS := (fun i => if i = j then v else M.1 i, M.2)
def uI (M : MS) (j k : Nat) (v : Int32) : MS := (M.1, fun i => if i = j then upd (M.2.1 j) k v else M.2.1 i, M.2.2)
def uL (M : MS) (j k : Nat) (v : Int64) : MS := (M.1, M.2.1, fun i => if i = j then vp_updL (M.2.2 j) k v else M.2.2 i)
theorem sS_uS {M : MS} {j i : Nat} {v : Int32} : sS (uS M j v) i = if i = j then v else sS M i := rfl
theorem sI_uS {M : MS} {j i : Nat} {v : Int32} : sI (uS M j v) i = sI M i := rfl
theorem sL_uS {M : MS} {j i : Nat} {v : Int32} : sL (uS M j v) i = sL M i := rfl
theorem sS_uI {M : MS} {j k i : Nat} {v : Int32} : sS (uI M j k v) i = sS M i := rfl
theorem sL_uI {M : MS} {j k i : Nat} {v : Int32} : sL (uI M j k v) i = sL M i := rfl
theorem sS_uL {M : MS} {j k i : Nat} {v : Int64} : sS (uL M j k v) i = sS M i := rfl
theorem sI_uL {M : MS} {j k i : Nat} {v : Int64} : sI (uL M j k v) i = sI M i := rfl
theorem sI_uI {M : MS} {j k i : Nat} {v : Int32} : sI (uI M j k v) i = if i = j then upd (sI M j) k v else sI M i := rfl
theorem sL_uL {M : MS} {j k i : Nat} {v : Int64} : sL (uL M j k v) i = if i = j then vp_updL (sL M j) k v else sL M i := rfl
theorem upd_at {f : Nat → Int32} {k x : Nat} {v : Int32} : upd f k v x = if x = k then v else f x := rfl
theorem updL_at {f : Nat → Int64} {k x : Nat} {v : Int64} : vp_updL f k v x = if x = k then v else f x := rfl
theorem MS_ext {M N : MS} (h1 : ∀ j, sS M j = sS N j) (h2 : ∀ j k, sI M j k = sI N j k) (h3 : ∀ j k, sL M j k = sL N j k) : M = N := by
  obtain ⟨a, b, c⟩ := M
  obtain ⟨a', b', c'⟩ := N
  have e1 : a = a' := funext h1
  have e2 : b = b' := funext fun j => funext (h2 j)
  have e3 : c = c' := funext fun j => funext (h3 j)
  subst e1; subst e2; subst e3; rfl
/-- the reference's cells: 100 the object, 100 + j the row of field j -/
def mw_f (ad : Nat → Nat) (M : MS) : List Value := [.int (sS M 0), .ref (ad 1), .int (sS M 2), .int (sS M 3), .ref (ad 4), .ref (ad 5), .ref (ad 6), .ref (ad 7), .ref (ad 8), .ref (ad 9), .ref (ad 10), .ref (ad 11), .ref (ad 12), .ref (ad 13), .ref (ad 14), .ref (ad 15), .ref (ad 16), .ref (ad 17), .ref (ad 18), .int (sS M 19)]
def mw_c (Y : Nat → ClassId) (ad : Nat → Nat) (M : MS) (j : Nat) : va_E := match j with
  | 0 => .inr (3, mw_f ad M)
  | 1 => .inl (Y 0, 60, .inl (sI M 1))
  | 4 => .inl (Y 0, 6, .inl (sI M 4))
  | 5 => .inl (Y 2, 6, .inl (sI M 5))
  | 6 => .inl (Y 0, 6, .inl (sI M 6))
  | 7 => .inl (Y 0, 6, .inl (sI M 7))
  | 8 => .inl (Y 1, 6, .inr (.inl (sL M 8)))
  | 9 => .inl (Y 1, 6, .inr (.inl (sL M 9)))
  | 10 => .inl (Y 0, 6, .inl (sI M 10))
  | 11 => .inl (Y 0, 6, .inl (sI M 11))
  | 12 => .inl (Y 0, 6, .inl (sI M 12))
  | 13 => .inl (Y 1, 6, .inr (.inl (sL M 13)))
  | 14 => .inl (Y 1, 6, .inr (.inl (sL M 14)))
  | 15 => .inl (Y 0, 60, .inl (sI M 15))
  | 16 => .inl (Y 0, 60, .inl (sI M 16))
  | 17 => .inl (Y 0, 60, .inl (sI M 17))
  | 18 => .inl (Y 0, 60, .inl (sI M 18))
  | _ => .inr (0, [])
def mw_in (j : Nat) : Bool := decide (j = 0 ∨ j = 1 ∨ (4 ≤ j ∧ j ≤ 18))
theorem mw_cases {j : Nat} (h : mw_in j = true) : j = 0 ∨ j = 1 ∨ j = 4 ∨ j = 5 ∨ j = 6 ∨ j = 7 ∨ j = 8 ∨ j = 9 ∨ j = 10 ∨ j = 11 ∨ j = 12 ∨ j = 13 ∨ j = 14 ∨ j = 15 ∨ j = 16 ∨ j = 17 ∨ j = 18 := by
  simp only [mw_in, decide_eq_true_eq] at h
  omega
/-- σ holds the reference in the state M; off the reference it is σ0 -/
def MF (Y : Nat → ClassId) (ad : Nat → Nat) (σ0 : sg_W) (M : MS) (σ : sg_W) : Prop := (∀ j, mw_in j = true → σ (100 + j) = some (ad j, mw_c Y ad M j)) ∧ ∀ n, ¬ (100 ≤ n ∧ n ≤ 118) → σ n = σ0 n
abbrev MW (Y : Nat → ClassId) (ad : Nat → Nat) (M : MS) (σ : sg_W) : Prop := MF Y ad σ M σ
theorem MF.self {Y : Nat → ClassId} {ad : Nat → Nat} {σ0 σ : sg_W} {M : MS} (h : MF Y ad σ0 M σ) : MW Y ad M σ := ⟨h.1, fun _ _ => rfl⟩
theorem MF.trans {Y : Nat → ClassId} {ad : Nat → Nat} {σ0 σ1 σ : sg_W} {M M' : MS} (h0 : MF Y ad σ0 M σ1) (h : MF Y ad σ1 M' σ) : MF Y ad σ0 M' σ := ⟨h.1, fun n hn => (h.2 n hn).trans (h0.2 n hn)⟩
theorem MF.of {Y : Nat → ClassId} {ad : Nat → Nat} {σ0 σ : sg_W} {M M' : MS} {j : Nat} {e : va_E} (h : MF Y ad σ0 M σ) (hj : mw_in j = true) (he : mw_c Y ad M' j = e) (ho : ∀ i, i ≠ j → mw_in i = true → mw_c Y ad M' i = mw_c Y ad M i) : MF Y ad σ0 M' (sg_u σ (100 + j) (ad j) e) := by
  refine ⟨fun i hi => ?_, fun n hn => ?_⟩
  · by_cases hij : i = j
    · subst hij
      rw [sg_ue, he]
    · rw [sg_un (by omega), h.1 i hi, ho i hij hi]
  · rw [sg_un (fun q => hn (by subst q; have := mw_cases hj; omega))]
    exact h.2 n hn
theorem MF.a1 {Y : Nat → ClassId} {ad : Nat → Nat} {σ0 σ : sg_W} {M : MS} {k : Nat} {v : Int32} (h : MF Y ad σ0 M σ) : MF Y ad σ0 (uI M 1 k v) (sg_u σ (100 + 1) (ad 1) (.inl (Y 0, 60, .inl (upd (sI M 1) k v)))) := by
  refine h.of (j := 1) rfl (by simp [mw_c, sI_uI]) (fun i hij hi => ?_)
  rcases mw_cases hi with rfl | rfl | rfl | rfl | rfl | rfl | rfl | rfl | rfl | rfl | rfl | rfl | rfl | rfl | rfl | rfl | rfl <;> first | exact absurd rfl hij | rfl
theorem MF.a4 {Y : Nat → ClassId} {ad : Nat → Nat} {σ0 σ : sg_W} {M : MS} {k : Nat} {v : Int32} (h : MF Y ad σ0 M σ) : MF Y ad σ0 (uI M 4 k v) (sg_u σ (100 + 4) (ad 4) (.inl (Y 0, 6, .inl (upd (sI M 4) k v)))) := by
  refine h.of (j := 4) rfl (by simp [mw_c, sI_uI]) (fun i hij hi => ?_)
  rcases mw_cases hi with rfl | rfl | rfl | rfl | rfl | rfl | rfl | rfl | rfl | rfl | rfl | rfl | rfl | rfl | rfl | rfl | rfl <;> first | exact absurd rfl hij | rfl
theorem MF.a5 {Y : Nat → ClassId} {ad : Nat → Nat} {σ0 σ : sg_W} {M : MS} {k : Nat} {v : Int32} (h : MF Y ad σ0 M σ) : MF Y ad σ0 (uI M 5 k v) (sg_u σ (100 + 5) (ad 5) (.inl (Y 2, 6, .inl (upd (sI M 5) k v)))) := by
  refine h.of (j := 5) rfl (by simp [mw_c, sI_uI]) (fun i hij hi => ?_)
  rcases mw_cases hi with rfl | rfl | rfl | rfl | rfl | rfl | rfl | rfl | rfl | rfl | rfl | rfl | rfl | rfl | rfl | rfl | rfl <;> first | exact absurd rfl hij | rfl
theorem MF.a6 {Y : Nat → ClassId} {ad : Nat → Nat} {σ0 σ : sg_W} {M : MS} {k : Nat} {v : Int32} (h : MF Y ad σ0 M σ) : MF Y ad σ0 (uI M 6 k v) (sg_u σ (100 + 6) (ad 6) (.inl (Y 0, 6, .inl (upd (sI M 6) k v)))) := by
  refine h.of (j := 6) rfl (by simp [mw_c, sI_uI]) (fun i hij hi => ?_)
  rcases mw_cases hi with rfl | rfl | rfl | rfl | rfl | rfl | rfl | rfl | rfl | rfl | rfl | rfl | rfl | rfl | rfl | rfl | rfl <;> first | exact absurd rfl hij | rfl
theorem MF.a7 {Y : Nat → ClassId} {ad : Nat → Nat} {σ0 σ : sg_W} {M : MS} {k : Nat} {v : Int32} (h : MF Y ad σ0 M σ) : MF Y ad σ0 (uI M 7 k v) (sg_u σ (100 + 7) (ad 7) (.inl (Y 0, 6, .inl (upd (sI M 7) k v)))) := by
  refine h.of (j := 7) rfl (by simp [mw_c, sI_uI]) (fun i hij hi => ?_)
  rcases mw_cases hi with rfl | rfl | rfl | rfl | rfl | rfl | rfl | rfl | rfl | rfl | rfl | rfl | rfl | rfl | rfl | rfl | rfl <;> first | exact absurd rfl hij | rfl
theorem MF.a8 {Y : Nat → ClassId} {ad : Nat → Nat} {σ0 σ : sg_W} {M : MS} {k : Nat} {v : Int64} (h : MF Y ad σ0 M σ) : MF Y ad σ0 (uL M 8 k v) (sg_u σ (100 + 8) (ad 8) (.inl (Y 1, 6, .inr (.inl (vp_updL (sL M 8) k v))))) := by
  refine h.of (j := 8) rfl (by simp [mw_c, sL_uL]) (fun i hij hi => ?_)
  rcases mw_cases hi with rfl | rfl | rfl | rfl | rfl | rfl | rfl | rfl | rfl | rfl | rfl | rfl | rfl | rfl | rfl | rfl | rfl <;> first | exact absurd rfl hij | rfl
theorem MF.a9 {Y : Nat → ClassId} {ad : Nat → Nat} {σ0 σ : sg_W} {M : MS} {k : Nat} {v : Int64} (h : MF Y ad σ0 M σ) : MF Y ad σ0 (uL M 9 k v) (sg_u σ (100 + 9) (ad 9) (.inl (Y 1, 6, .inr (.inl (vp_updL (sL M 9) k v))))) := by
  refine h.of (j := 9) rfl (by simp [mw_c, sL_uL]) (fun i hij hi => ?_)
  rcases mw_cases hi with rfl | rfl | rfl | rfl | rfl | rfl | rfl | rfl | rfl | rfl | rfl | rfl | rfl | rfl | rfl | rfl | rfl <;> first | exact absurd rfl hij | rfl
theorem MF.a10 {Y : Nat → ClassId} {ad : Nat → Nat} {σ0 σ : sg_W} {M : MS} {k : Nat} {v : Int32} (h : MF Y ad σ0 M σ) : MF Y ad σ0 (uI M 10 k v) (sg_u σ (100 + 10) (ad 10) (.inl (Y 0, 6, .inl (upd (sI M 10) k v)))) := by
  refine h.of (j := 10) rfl (by simp [mw_c, sI_uI]) (fun i hij hi => ?_)
  rcases mw_cases hi with rfl | rfl | rfl | rfl | rfl | rfl | rfl | rfl | rfl | rfl | rfl | rfl | rfl | rfl | rfl | rfl | rfl <;> first | exact absurd rfl hij | rfl
theorem MF.a11 {Y : Nat → ClassId} {ad : Nat → Nat} {σ0 σ : sg_W} {M : MS} {k : Nat} {v : Int32} (h : MF Y ad σ0 M σ) : MF Y ad σ0 (uI M 11 k v) (sg_u σ (100 + 11) (ad 11) (.inl (Y 0, 6, .inl (upd (sI M 11) k v)))) := by
  refine h.of (j := 11) rfl (by simp [mw_c, sI_uI]) (fun i hij hi => ?_)
  rcases mw_cases hi with rfl | rfl | rfl | rfl | rfl | rfl | rfl | rfl | rfl | rfl | rfl | rfl | rfl | rfl | rfl | rfl | rfl <;> first | exact absurd rfl hij | rfl
theorem MF.a12 {Y : Nat → ClassId} {ad : Nat → Nat} {σ0 σ : sg_W} {M : MS} {k : Nat} {v : Int32} (h : MF Y ad σ0 M σ) : MF Y ad σ0 (uI M 12 k v) (sg_u σ (100 + 12) (ad 12) (.inl (Y 0, 6, .inl (upd (sI M 12) k v)))) := by
  refine h.of (j := 12) rfl (by simp [mw_c, sI_uI]) (fun i hij hi => ?_)
  rcases mw_cases hi with rfl | rfl | rfl | rfl | rfl | rfl | rfl | rfl | rfl | rfl | rfl | rfl | rfl | rfl | rfl | rfl | rfl <;> first | exact absurd rfl hij | rfl
theorem MF.a13 {Y : Nat → ClassId} {ad : Nat → Nat} {σ0 σ : sg_W} {M : MS} {k : Nat} {v : Int64} (h : MF Y ad σ0 M σ) : MF Y ad σ0 (uL M 13 k v) (sg_u σ (100 + 13) (ad 13) (.inl (Y 1, 6, .inr (.inl (vp_updL (sL M 13) k v))))) := by
  refine h.of (j := 13) rfl (by simp [mw_c, sL_uL]) (fun i hij hi => ?_)
  rcases mw_cases hi with rfl | rfl | rfl | rfl | rfl | rfl | rfl | rfl | rfl | rfl | rfl | rfl | rfl | rfl | rfl | rfl | rfl <;> first | exact absurd rfl hij | rfl
theorem MF.a14 {Y : Nat → ClassId} {ad : Nat → Nat} {σ0 σ : sg_W} {M : MS} {k : Nat} {v : Int64} (h : MF Y ad σ0 M σ) : MF Y ad σ0 (uL M 14 k v) (sg_u σ (100 + 14) (ad 14) (.inl (Y 1, 6, .inr (.inl (vp_updL (sL M 14) k v))))) := by
  refine h.of (j := 14) rfl (by simp [mw_c, sL_uL]) (fun i hij hi => ?_)
  rcases mw_cases hi with rfl | rfl | rfl | rfl | rfl | rfl | rfl | rfl | rfl | rfl | rfl | rfl | rfl | rfl | rfl | rfl | rfl <;> first | exact absurd rfl hij | rfl
theorem MF.a15 {Y : Nat → ClassId} {ad : Nat → Nat} {σ0 σ : sg_W} {M : MS} {k : Nat} {v : Int32} (h : MF Y ad σ0 M σ) : MF Y ad σ0 (uI M 15 k v) (sg_u σ (100 + 15) (ad 15) (.inl (Y 0, 60, .inl (upd (sI M 15) k v)))) := by
  refine h.of (j := 15) rfl (by simp [mw_c, sI_uI]) (fun i hij hi => ?_)
  rcases mw_cases hi with rfl | rfl | rfl | rfl | rfl | rfl | rfl | rfl | rfl | rfl | rfl | rfl | rfl | rfl | rfl | rfl | rfl <;> first | exact absurd rfl hij | rfl
theorem MF.a16 {Y : Nat → ClassId} {ad : Nat → Nat} {σ0 σ : sg_W} {M : MS} {k : Nat} {v : Int32} (h : MF Y ad σ0 M σ) : MF Y ad σ0 (uI M 16 k v) (sg_u σ (100 + 16) (ad 16) (.inl (Y 0, 60, .inl (upd (sI M 16) k v)))) := by
  refine h.of (j := 16) rfl (by simp [mw_c, sI_uI]) (fun i hij hi => ?_)
  rcases mw_cases hi with rfl | rfl | rfl | rfl | rfl | rfl | rfl | rfl | rfl | rfl | rfl | rfl | rfl | rfl | rfl | rfl | rfl <;> first | exact absurd rfl hij | rfl
theorem MF.a17 {Y : Nat → ClassId} {ad : Nat → Nat} {σ0 σ : sg_W} {M : MS} {k : Nat} {v : Int32} (h : MF Y ad σ0 M σ) : MF Y ad σ0 (uI M 17 k v) (sg_u σ (100 + 17) (ad 17) (.inl (Y 0, 60, .inl (upd (sI M 17) k v)))) := by
  refine h.of (j := 17) rfl (by simp [mw_c, sI_uI]) (fun i hij hi => ?_)
  rcases mw_cases hi with rfl | rfl | rfl | rfl | rfl | rfl | rfl | rfl | rfl | rfl | rfl | rfl | rfl | rfl | rfl | rfl | rfl <;> first | exact absurd rfl hij | rfl
theorem MF.a18 {Y : Nat → ClassId} {ad : Nat → Nat} {σ0 σ : sg_W} {M : MS} {k : Nat} {v : Int32} (h : MF Y ad σ0 M σ) : MF Y ad σ0 (uI M 18 k v) (sg_u σ (100 + 18) (ad 18) (.inl (Y 0, 60, .inl (upd (sI M 18) k v)))) := by
  refine h.of (j := 18) rfl (by simp [mw_c, sI_uI]) (fun i hij hi => ?_)
  rcases mw_cases hi with rfl | rfl | rfl | rfl | rfl | rfl | rfl | rfl | rfl | rfl | rfl | rfl | rfl | rfl | rfl | rfl | rfl <;> first | exact absurd rfl hij | rfl
theorem MF.s0 {Y : Nat → ClassId} {ad : Nat → Nat} {σ0 σ : sg_W} {M : MS} {v : Int32} (h : MF Y ad σ0 M σ) : MF Y ad σ0 (uS M 0 v) (sg_u σ (100 + 0) (ad 0) (.inr (3, (mw_f ad M).set 0 (.int v)))) := by
  refine h.of (j := 0) rfl (by simp [mw_c, mw_f, sS_uS]) (fun i hij hi => ?_)
  rcases mw_cases hi with rfl | rfl | rfl | rfl | rfl | rfl | rfl | rfl | rfl | rfl | rfl | rfl | rfl | rfl | rfl | rfl | rfl <;> first | exact absurd rfl hij | rfl
theorem MF.s2 {Y : Nat → ClassId} {ad : Nat → Nat} {σ0 σ : sg_W} {M : MS} {v : Int32} (h : MF Y ad σ0 M σ) : MF Y ad σ0 (uS M 2 v) (sg_u σ (100 + 0) (ad 0) (.inr (3, (mw_f ad M).set 2 (.int v)))) := by
  refine h.of (j := 0) rfl (by simp [mw_c, mw_f, sS_uS]) (fun i hij hi => ?_)
  rcases mw_cases hi with rfl | rfl | rfl | rfl | rfl | rfl | rfl | rfl | rfl | rfl | rfl | rfl | rfl | rfl | rfl | rfl | rfl <;> first | exact absurd rfl hij | rfl
theorem MF.s3 {Y : Nat → ClassId} {ad : Nat → Nat} {σ0 σ : sg_W} {M : MS} {v : Int32} (h : MF Y ad σ0 M σ) : MF Y ad σ0 (uS M 3 v) (sg_u σ (100 + 0) (ad 0) (.inr (3, (mw_f ad M).set 3 (.int v)))) := by
  refine h.of (j := 0) rfl (by simp [mw_c, mw_f, sS_uS]) (fun i hij hi => ?_)
  rcases mw_cases hi with rfl | rfl | rfl | rfl | rfl | rfl | rfl | rfl | rfl | rfl | rfl | rfl | rfl | rfl | rfl | rfl | rfl <;> first | exact absurd rfl hij | rfl
theorem MF.s19 {Y : Nat → ClassId} {ad : Nat → Nat} {σ0 σ : sg_W} {M : MS} {v : Int32} (h : MF Y ad σ0 M σ) : MF Y ad σ0 (uS M 19 v) (sg_u σ (100 + 0) (ad 0) (.inr (3, (mw_f ad M).set 19 (.int v)))) := by
  refine h.of (j := 0) rfl (by simp [mw_c, mw_f, sS_uS]) (fun i hij hi => ?_)
  rcases mw_cases hi with rfl | rfl | rfl | rfl | rfl | rfl | rfl | rfl | rfl | rfl | rfl | rfl | rfl | rfl | rfl | rfl | rfl <;> first | exact absurd rfl hij | rfl
section CUT
variable {p : Program} {l : Launch} {e : Env} {R : Room} {s : State} {m : MethodId} {args : Array Value} {below : List Frame} {meth : Method} {c : Code} {H : Heap} {locs : List Loc} {cells slots : Nat} {Q : State → Prop}
/-- two roads that meet: the value on top at the meeting point -/
theorem sg_cuti {j : Nat} {ls : Array Slot} {rest : List Value} {g : JFrame} (Pj : Int32 → Prop) (k : ∀ x : Int32, Pj x → W p l e R s m args below meth c H locs cells slots Q (F0 m j ls (.int x :: rest)))
    (b : (∀ x : Int32, Pj x → W p l e R s m args below meth c H locs cells slots Q (F0 m j ls (.int x :: rest))) → W p l e R s m args below meth c H locs cells slots Q g) : W p l e R s m args below meth c H locs cells slots Q g := b k
theorem sg_cutl {j : Nat} {ls : Array Slot} {rest : List Value} {g : JFrame} (Pj : Int64 → Prop) (k : ∀ x : Int64, Pj x → W p l e R s m args below meth c H locs cells slots Q (F0 m j ls (.long x :: rest)))
    (b : (∀ x : Int64, Pj x → W p l e R s m args below meth c H locs cells slots Q (F0 m j ls (.long x :: rest))) → W p l e R s m args below meth c H locs cells slots Q g) : W p l e R s m args below meth c H locs cells slots Q g := b k
/-- two roads that meet, with worlds of their own -/
theorem sg_cutw {D : va_G} {A : Nat → Prop} {H0 : Heap} (_ : va_S A H0 H locs) {j : Nat} {ls : Array Slot} {rest : List Value} {g : JFrame} (cells' slots' : Nat) (Pj : sg_W → Prop) (k : ∀ (σ : sg_W) (H1 : Heap) (locs1 : List Loc), Pj σ → sg_P D σ H1 → sg_D A σ → va_S A H0 H1 locs1 → W p l e R s m args below meth c H1 locs1 cells' slots' Q (F0 m j ls rest))
    (b : (∀ (σ : sg_W) (H1 : Heap) (locs1 : List Loc), Pj σ → sg_P D σ H1 → sg_D A σ → va_S A H0 H1 locs1 → W p l e R s m args below meth c H1 locs1 cells' slots' Q (F0 m j ls rest)) → W p l e R s m args below meth c H locs cells slots Q g) : W p l e R s m args below meth c H locs cells slots Q g := b k
theorem sg_cutwi {D : va_G} {A : Nat → Prop} {H0 : Heap} (_ : va_S A H0 H locs) {j : Nat} {ls : Array Slot} {rest : List Value} {g : JFrame} (cells' slots' : Nat) (Pj : Int32 → sg_W → Prop) (k : ∀ (x : Int32) (σ : sg_W) (H1 : Heap) (locs1 : List Loc), Pj x σ → sg_P D σ H1 → sg_D A σ → va_S A H0 H1 locs1 → W p l e R s m args below meth c H1 locs1 cells' slots' Q (F0 m j ls (.int x :: rest)))
    (b : (∀ (x : Int32) (σ : sg_W) (H1 : Heap) (locs1 : List Loc), Pj x σ → sg_P D σ H1 → sg_D A σ → va_S A H0 H1 locs1 → W p l e R s m args below meth c H1 locs1 cells' slots' Q (F0 m j ls (.int x :: rest))) → W p l e R s m args below meth c H locs cells slots Q g) : W p l e R s m args below meth c H locs cells slots Q g := b k
theorem sg_cutwl {D : va_G} {A : Nat → Prop} {H0 : Heap} (_ : va_S A H0 H locs) {j : Nat} {ls : Array Slot} {rest : List Value} {g : JFrame} (cells' slots' : Nat) (Pj : Int64 → sg_W → Prop) (k : ∀ (x : Int64) (σ : sg_W) (H1 : Heap) (locs1 : List Loc), Pj x σ → sg_P D σ H1 → sg_D A σ → va_S A H0 H1 locs1 → W p l e R s m args below meth c H1 locs1 cells' slots' Q (F0 m j ls (.long x :: rest)))
    (b : (∀ (x : Int64) (σ : sg_W) (H1 : Heap) (locs1 : List Loc), Pj x σ → sg_P D σ H1 → sg_D A σ → va_S A H0 H1 locs1 → W p l e R s m args below meth c H1 locs1 cells' slots' Q (F0 m j ls (.long x :: rest))) → W p l e R s m args below meth c H locs cells slots Q g) : W p l e R s m args below meth c H locs cells slots Q g := b k
/-- a loop: n falls -/
theorem sg_loop {D : va_G} {A : Nat → Prop} {H0 : Heap} {T : Type} (j nL : Nat) (Inv : Nat → T → sg_W → Nat → Nat → Prop) (lv : T → List (Nat × Value))
    (step : ∀ (n : Nat) (t : T) (σ : sg_W) (cells slots : Nat) (H : Heap) (locs : List Loc) (ls : Array Slot), (∀ (n' : Nat) (t' : T) (σ' : sg_W) (cells' slots' : Nat) (H' : Heap) (locs' : List Loc) (ls' : Array Slot), n' < n → Inv n' t' σ' cells' slots' → sg_P D σ' H' → sg_D A σ' → va_S A H0 H' locs' → lv_has ls' nL (lv t') → W p l e R s m args below meth c H' locs' cells' slots' Q (F0 m j ls' [])) →
      Inv n t σ cells slots → sg_P D σ H → sg_D A σ → va_S A H0 H locs → lv_has ls nL (lv t) → W p l e R s m args below meth c H locs cells slots Q (F0 m j ls [])) :
    ∀ (n : Nat) (t : T) (σ : sg_W) (cells slots : Nat) (H : Heap) (locs : List Loc) (ls : Array Slot), Inv n t σ cells slots → sg_P D σ H → sg_D A σ → va_S A H0 H locs → lv_has ls nL (lv t) → W p l e R s m args below meth c H locs cells slots Q (F0 m j ls []) := by
  intro n
  induction n using Nat.strongRecOn with
  | _ n ih => exact fun t σ cells slots H locs ls h1 h2 h3 h4 h5 => step n t σ cells slots H locs ls (fun n' t' σ' c' s' H' l' ls' hn => ih n' hn t' σ' c' s' H' l' ls') h1 h2 h3 h4 h5
end CUT
end
section
/-! PURE: what each call answers and does, after the reference's words -/
def bI (c : Prop) [Decidable c] : Int32 := if c then 1 else 0
theorem bI_t {c : Prop} [Decidable c] (h : c) : bI c = 1 := if_pos h
theorem bI_f {c : Prop} [Decidable c] (h : ¬ c) : bI c = 0 := if_neg h
theorem bI_0 {c : Prop} [Decidable c] : bI c = 0 ↔ ¬ c := by unfold bI; split <;> simp [*]
theorem bI_1 {c : Prop} [Decidable c] : bI c = 1 ↔ c := by unfold bI; split <;> simp [*]
theorem bI_01 {c : Prop} [Decidable c] : bI c = 0 ∨ bI c = 1 := by unfold bI; split <;> simp
def nar01 (x : Int32) : Prop := x = 0 ∨ x = 1
theorem nar_z {x : Int32} (h : x = 0 ∨ x = 1) : narrow FieldType.boolean (Value.int x) = .int x := by
  rcases h with rfl | rfl <;> rfl
abbrev tN (i : Int32) : Nat := i.toNatClampNeg
/-- irem -/
def rm (x y : Int32) : Int32 := x - x / y * y
/-- is a member -/
abbrev qM (M : MS) (i : Int32) : Prop := 0 ≤ i ∧ i ≤ sS M 3 - 1
abbrev qIn (v a b : Int32) : Prop := a ≤ v ∧ v ≤ b
/-- stays -/
abbrev qT (M : MS) (i : Int32) : Prop := qM M i ∧ sI M 5 (tN i) = 0
def t1 (a : Int32) : Int32 := if a = 0 then 1 else 0
def t2 (a b : Int32) : Int32 := if a = 0 then 1 else if b = 0 then 2 else 0
def t3 (a b c : Int32) : Int32 := if a = 0 then 1 else if b = 0 then 2 else if c = 0 then 3 else 0
def mem6 (M : MS) : Prop := ∃ n : Nat, n ≤ 6 ∧ sS M 3 = nI n
theorem qM_in {M : MS} {i : Int32} (h6 : mem6 M) (h : qM M i) : vp_in i 6 := by
  obtain ⟨n, hn, e⟩ := h6
  obtain ⟨h1, h2⟩ := h
  rw [e] at h2
  rw [vp_in_iff]
  rw [Int32.le_iff_toInt_le] at h1 h2
  have h3 : (nI n - 1).toInt ≤ 5 := by
    rcases (show n = 0 ∨ n = 1 ∨ n = 2 ∨ n = 3 ∨ n = 4 ∨ n = 5 ∨ n = 6 by omega) with rfl | rfl | rfl | rfl | rfl | rfl | rfl <;> decide
  have h0 : (0 : Int32).toInt = 0 := rfl
  omega
theorem qM_lt {M : MS} {i : Int32} {n : Nat} (e : sS M 3 = nI n) (hn : n ≤ 6) (h : qM M i) : tN i < n ∧ i = nI (tN i) := by
  obtain ⟨h1, h2⟩ := h
  rw [e] at h2
  have h4 : (nI n - 1).toInt = (n : Int) - 1 := by
    rcases (show n = 0 ∨ n = 1 ∨ n = 2 ∨ n = 3 ∨ n = 4 ∨ n = 5 ∨ n = 6 by omega) with rfl | rfl | rfl | rfl | rfl | rfl | rfl <;> rfl
  obtain ⟨j, hj, rfl⟩ := nI_of (x := i) (fun h => by
    rw [Int32.lt_iff_toInt_lt] at h
    rw [Int32.le_iff_toInt_le] at h1
    omega)
  rw [Int32.le_iff_toInt_le, h4, nI_toInt hj] at h2
  rw [tN, nI_clamp hj]
  exact ⟨by omega, rfl⟩
end
section
set_option maxHeartbeats 4000000 in
set_option maxRecDepth 100000 in
theorem c_X3_isIn (l : Launch) (D : va_G) (Y : Nat → ClassId) (σ : sg_W) (sz : Nat) (v a b : Int32) : Met l yX3_isIn wsX3_isIn ({ frames := 0, cells := 0, slots := 0, locals := 0 } : Room) (va_Pc [.int v, .int a, .int b] (sg_U D Y σ sz)) (va_Qi (fun r σ' => r = bI (qIn v a b) ∧ σ = σ') (sg_B D σ sz) (sg_A σ sz)) 0 0 (sg_A σ sz) := by
  refine sg_met (cc := cX3_isIn) (maxL := 3) (ret := (some .boolean)) (by decide) rfl (Nat.le_of_ble_eq_true rfl) ?_
  intro p e s m below meth c ls hx hb hml hr hown hts hlocks hnm hP hK hD hN hX hA hS hsz hl
  have hl : lv_has ls 3 [(0, .int v), (1, .int a), (2, .int b)] := hl
  refine lv_iload_n hx hb dX3_isIn_0 rfl (lv_at hl 0 rfl) ?_
  refine lv_iload_n hx hb dX3_isIn_1 rfl (lv_at hl 1 rfl) ?_
  refine lv_icmp_lt (tgt := 14) hx hb dX3_isIn_2 (by decide) (fun c2_0 => ?_) (fun c2_0 => ?_)
  · skip
    refine lv_iconst (v := 0) hx hb dX3_isIn_14 (by decide) ?_
    exact sg_iret hx hb hr rfl hlocks hP hD hS (Nat.le_of_ble_eq_true rfl) (Nat.le_of_ble_eq_true rfl) dX3_isIn_15 (⟨by unfold bI; simp only [qIn, Int32.lt_iff_toInt_lt, Int32.le_iff_toInt_le] at *; split <;> first | rfl | (exfalso; omega), rfl⟩)
  · skip
    refine lv_iload_n hx hb dX3_isIn_5 rfl (lv_at hl 0 rfl) ?_
    refine lv_iload_n hx hb dX3_isIn_6 rfl (lv_at hl 2 rfl) ?_
    refine lv_icmp_gt (tgt := 14) hx hb dX3_isIn_7 (by decide) (fun c7_1 => ?_) (fun c7_1 => ?_)
    · skip
      refine lv_iconst (v := 0) hx hb dX3_isIn_14 (by decide) ?_
      exact sg_iret hx hb hr rfl hlocks hP hD hS (Nat.le_of_ble_eq_true rfl) (Nat.le_of_ble_eq_true rfl) dX3_isIn_15 (⟨by unfold bI; simp only [qIn, Int32.lt_iff_toInt_lt, Int32.le_iff_toInt_le] at *; split <;> first | rfl | (exfalso; omega), rfl⟩)
    · skip
      refine lv_iconst (v := 1) hx hb dX3_isIn_10 (by decide) ?_
      refine lv_goto (tgt := 15) hx hb dX3_isIn_11 (by decide) ?_
      exact sg_iret hx hb hr rfl hlocks hP hD hS (Nat.le_of_ble_eq_true rfl) (Nat.le_of_ble_eq_true rfl) dX3_isIn_15 (⟨by unfold bI; simp only [qIn, Int32.lt_iff_toInt_lt, Int32.le_iff_toInt_le] at *; split <;> first | rfl | (exfalso; omega), rfl⟩)

theorem wi_X3_thrown : ∀ w ∈ wsX30, w ∈ wsX3_thrown := by decide +kernel
set_option maxHeartbeats 4000000 in
set_option maxRecDepth 100000 in
theorem c_X3_thrown (l : Launch) (D : va_G) (Y : Nat → ClassId) (σ : sg_W) (sz : Nat) (ad : Nat → Nat) (M : MS) (hM : MW Y ad M σ) : Met l yX3_thrown wsX3_thrown ({ frames := 0, cells := 0, slots := 0, locals := 0 } : Room) (va_Pc [.ref (ad 0)] (sg_U D Y σ sz)) (va_Qi (fun r σ' => r = sS M 19 ∧ σ = σ') (sg_B D σ sz) (sg_A σ sz)) 0 0 (sg_A σ sz) := by
  refine sg_met (cc := cX3_thrown) (maxL := 1) (ret := (some .int)) (by decide) rfl (Nat.le_of_ble_eq_true rfl) ?_
  intro p e s m below meth c ls hx hb hml hr hown hts hlocks hnm hP hK hD hN hX hA hS hsz hl
  have hl : lv_has ls 1 [(0, .ref (ad 0))] := hl
  refine lv_aload_n hx hb dX3_thrown_0 rfl (lv_at hl 0 rfl) ?_
  refine va_get (ref := RX3) (v := .int (sS M 19)) hx hb hts wi_X3_thrown hown hK (sg_one hP (hM.1 0 rfl)) 0 rfl rfl 19 (by decide) (hts (.fieldLink RX3 68 RX3 "thrown" "I") (by decide +kernel)) (fun _ h => h) rfl dX3_thrown_1 ?_
  exact sg_iret hx hb hr rfl hlocks hP hD hS (Nat.le_of_ble_eq_true rfl) (Nat.le_of_ble_eq_true rfl) dX3_thrown_4 (⟨rfl, rfl⟩)

theorem wi_X3_may : ∀ w ∈ wsX30, w ∈ wsX3_may := by decide +kernel
set_option maxHeartbeats 4000000 in
set_option maxRecDepth 100000 in
theorem c_X3_may (l : Launch) (D : va_G) (Y : Nat → ClassId) (σ : sg_W) (sz : Nat) (ad : Nat → Nat) (M : MS) (b : Int32) (hb0 : b = 0 ∨ b = 1) (hM : MW Y ad M σ) : Met l yX3_may wsX3_may ({ frames := 0, cells := 0, slots := 0, locals := 0 } : Room) (va_Pc [.ref (ad 0), .int b] (sg_U D Y σ sz)) (va_Qi (fun r σ' => r = b ∧ MF Y ad σ (uS M 19 (t1 b)) σ') (sg_B D σ sz) (sg_A σ sz)) 0 0 (sg_A σ sz) := by
  refine sg_met (cc := cX3_may) (maxL := 2) (ret := (some .boolean)) (by decide) rfl (Nat.le_of_ble_eq_true rfl) ?_
  intro p e s m below meth c ls hx hb hml hr hown hts hlocks hnm hP hK hD hN hX hA hS hsz hl
  have hl : lv_has ls 2 [(0, .ref (ad 0)), (1, .int b)] := hl
  refine lv_aload_n hx hb dX3_may_0 rfl (lv_at hl 0 rfl) ?_
  refine lv_iload_n hx hb dX3_may_1 rfl (lv_at hl 1 rfl) ?_
  refine lv_if_eq (tgt := 9) hx hb dX3_may_2 (by decide) (fun c2_0 => ?_) (fun c2_0 => ?_)
  · skip
    refine lv_iconst (v := 1) hx hb dX3_may_9 (by decide) ?_
    refine sg_put (ref := RX3) (ty := .int) (v := .int 1) hx hb hts wi_X3_may tyX3 tyX3_ok nmX3 hown hK hP hD hS (hM.1 0 rfl) rfl 19 (by decide) (hts (.fieldLink RX3 68 RX3 "thrown" "I") (by decide +kernel)) (fun _ h => h) rfl (by decide +kernel) rfl rfl (Nat.le_of_ble_eq_true rfl) dX3_may_10 (fun H locs hP hD hS => ?_)
    have hM := hM.s19 (v := 1)
    refine lv_iload_n hx hb dX3_may_13 rfl (lv_at hl 1 rfl) ?_
    exact sg_iret hx hb hr (nar_z hb0) hlocks hP hD hS (Nat.le_of_ble_eq_true rfl) (Nat.le_of_ble_eq_true rfl) dX3_may_14 (⟨rfl, by simpa [t1, *] using hM⟩)
  · skip
    refine lv_iconst (v := 0) hx hb dX3_may_5 (by decide) ?_
    refine lv_goto (tgt := 10) hx hb dX3_may_6 (by decide) ?_
    refine sg_put (ref := RX3) (ty := .int) (v := .int 0) hx hb hts wi_X3_may tyX3 tyX3_ok nmX3 hown hK hP hD hS (hM.1 0 rfl) rfl 19 (by decide) (hts (.fieldLink RX3 68 RX3 "thrown" "I") (by decide +kernel)) (fun _ h => h) rfl (by decide +kernel) rfl rfl (Nat.le_of_ble_eq_true rfl) dX3_may_10 (fun H locs hP hD hS => ?_)
    have hM := hM.s19 (v := 0)
    refine lv_iload_n hx hb dX3_may_13 rfl (lv_at hl 1 rfl) ?_
    exact sg_iret hx hb hr (nar_z hb0) hlocks hP hD hS (Nat.le_of_ble_eq_true rfl) (Nat.le_of_ble_eq_true rfl) dX3_may_14 (⟨rfl, by simpa [t1, *] using hM⟩)

theorem wi_X3_mayBoth : ∀ w ∈ wsX30, w ∈ wsX3_mayBoth := by decide +kernel
set_option maxHeartbeats 4000000 in
set_option maxRecDepth 100000 in
theorem c_X3_mayBoth (l : Launch) (D : va_G) (Y : Nat → ClassId) (σ : sg_W) (sz : Nat) (ad : Nat → Nat) (M : MS) (a b : Int32) (hM : MW Y ad M σ) : Met l yX3_mayBoth wsX3_mayBoth ({ frames := 0, cells := 0, slots := 0, locals := 0 } : Room) (va_Pc [.ref (ad 0), .int a, .int b] (sg_U D Y σ sz)) (va_Qi (fun r σ' => r = bI (t2 a b = 0) ∧ MF Y ad σ (uS M 19 (t2 a b)) σ') (sg_B D σ sz) (sg_A σ sz)) 0 0 (sg_A σ sz) := by
  refine sg_met (cc := cX3_mayBoth) (maxL := 3) (ret := (some .boolean)) (by decide) rfl (Nat.le_of_ble_eq_true rfl) ?_
  intro p e s m below meth c ls hx hb hml hr hown hts hlocks hnm hP hK hD hN hX hA hS hsz hl
  have hl : lv_has ls 3 [(0, .ref (ad 0)), (1, .int a), (2, .int b)] := hl
  refine lv_aload_n hx hb dX3_mayBoth_0 rfl (lv_at hl 0 rfl) ?_
  refine lv_iload_n hx hb dX3_mayBoth_1 rfl (lv_at hl 1 rfl) ?_
  refine lv_if_ne (tgt := 9) hx hb dX3_mayBoth_2 (by decide) (fun c2_0 => ?_) (fun c2_0 => ?_)
  · skip
    refine lv_iload_n hx hb dX3_mayBoth_9 rfl (lv_at hl 2 rfl) ?_
    refine lv_if_ne (tgt := 17) hx hb dX3_mayBoth_10 (by decide) (fun c10_1 => ?_) (fun c10_1 => ?_)
    · skip
      refine lv_iconst (v := 0) hx hb dX3_mayBoth_17 (by decide) ?_
      refine sg_put (ref := RX3) (ty := .int) (v := .int 0) hx hb hts wi_X3_mayBoth tyX3 tyX3_ok nmX3 hown hK hP hD hS (hM.1 0 rfl) rfl 19 (by decide) (hts (.fieldLink RX3 68 RX3 "thrown" "I") (by decide +kernel)) (fun _ h => h) rfl (by decide +kernel) rfl rfl (Nat.le_of_ble_eq_true rfl) dX3_mayBoth_18 (fun H locs hP hD hS => ?_)
      have hM := hM.s19 (v := 0)
      refine lv_aload_n hx hb dX3_mayBoth_21 rfl (lv_at hl 0 rfl) ?_
      refine va_get (ref := RX3) (v := .int (sS (uS M 19 0) 19)) hx hb hts wi_X3_mayBoth hown hK (sg_one hP (hM.1 0 rfl)) 0 rfl rfl 19 (by decide) (hts (.fieldLink RX3 68 RX3 "thrown" "I") (by decide +kernel)) (fun _ h => h) rfl dX3_mayBoth_22 ?_
      refine lv_if_ne (tgt := 32) hx hb dX3_mayBoth_25 (by decide) (fun c25_2 => ?_) (fun c25_2 => ?_)
      · skip
        refine lv_iconst (v := 0) hx hb dX3_mayBoth_32 (by decide) ?_
        exact sg_iret hx hb hr rfl hlocks hP hD hS (Nat.le_of_ble_eq_true rfl) (Nat.le_of_ble_eq_true rfl) dX3_mayBoth_33 (⟨by simp_all [t2, bI, sS_uS], by simpa [t2, *] using hM⟩)
      · skip
        refine lv_iconst (v := 1) hx hb dX3_mayBoth_28 (by decide) ?_
        refine lv_goto (tgt := 33) hx hb dX3_mayBoth_29 (by decide) ?_
        exact sg_iret hx hb hr rfl hlocks hP hD hS (Nat.le_of_ble_eq_true rfl) (Nat.le_of_ble_eq_true rfl) dX3_mayBoth_33 (⟨by simp_all [t2, bI, sS_uS], by simpa [t2, *] using hM⟩)
    · skip
      refine lv_iconst (v := 2) hx hb dX3_mayBoth_13 (by decide) ?_
      refine lv_goto (tgt := 18) hx hb dX3_mayBoth_14 (by decide) ?_
      refine sg_put (ref := RX3) (ty := .int) (v := .int 2) hx hb hts wi_X3_mayBoth tyX3 tyX3_ok nmX3 hown hK hP hD hS (hM.1 0 rfl) rfl 19 (by decide) (hts (.fieldLink RX3 68 RX3 "thrown" "I") (by decide +kernel)) (fun _ h => h) rfl (by decide +kernel) rfl rfl (Nat.le_of_ble_eq_true rfl) dX3_mayBoth_18 (fun H locs hP hD hS => ?_)
      have hM := hM.s19 (v := 2)
      refine lv_aload_n hx hb dX3_mayBoth_21 rfl (lv_at hl 0 rfl) ?_
      refine va_get (ref := RX3) (v := .int (sS (uS M 19 2) 19)) hx hb hts wi_X3_mayBoth hown hK (sg_one hP (hM.1 0 rfl)) 0 rfl rfl 19 (by decide) (hts (.fieldLink RX3 68 RX3 "thrown" "I") (by decide +kernel)) (fun _ h => h) rfl dX3_mayBoth_22 ?_
      refine lv_if_ne (tgt := 32) hx hb dX3_mayBoth_25 (by decide) (fun c25_3 => ?_) (fun c25_3 => ?_)
      · skip
        refine lv_iconst (v := 0) hx hb dX3_mayBoth_32 (by decide) ?_
        exact sg_iret hx hb hr rfl hlocks hP hD hS (Nat.le_of_ble_eq_true rfl) (Nat.le_of_ble_eq_true rfl) dX3_mayBoth_33 (⟨by simp_all [t2, bI, sS_uS], by simpa [t2, *] using hM⟩)
      · skip
        refine lv_iconst (v := 1) hx hb dX3_mayBoth_28 (by decide) ?_
        refine lv_goto (tgt := 33) hx hb dX3_mayBoth_29 (by decide) ?_
        exact sg_iret hx hb hr rfl hlocks hP hD hS (Nat.le_of_ble_eq_true rfl) (Nat.le_of_ble_eq_true rfl) dX3_mayBoth_33 (⟨by simp_all [t2, bI, sS_uS], by simpa [t2, *] using hM⟩)
  · skip
    refine lv_iconst (v := 1) hx hb dX3_mayBoth_5 (by decide) ?_
    refine lv_goto (tgt := 18) hx hb dX3_mayBoth_6 (by decide) ?_
    refine sg_put (ref := RX3) (ty := .int) (v := .int 1) hx hb hts wi_X3_mayBoth tyX3 tyX3_ok nmX3 hown hK hP hD hS (hM.1 0 rfl) rfl 19 (by decide) (hts (.fieldLink RX3 68 RX3 "thrown" "I") (by decide +kernel)) (fun _ h => h) rfl (by decide +kernel) rfl rfl (Nat.le_of_ble_eq_true rfl) dX3_mayBoth_18 (fun H locs hP hD hS => ?_)
    have hM := hM.s19 (v := 1)
    refine lv_aload_n hx hb dX3_mayBoth_21 rfl (lv_at hl 0 rfl) ?_
    refine va_get (ref := RX3) (v := .int (sS (uS M 19 1) 19)) hx hb hts wi_X3_mayBoth hown hK (sg_one hP (hM.1 0 rfl)) 0 rfl rfl 19 (by decide) (hts (.fieldLink RX3 68 RX3 "thrown" "I") (by decide +kernel)) (fun _ h => h) rfl dX3_mayBoth_22 ?_
    refine lv_if_ne (tgt := 32) hx hb dX3_mayBoth_25 (by decide) (fun c25_4 => ?_) (fun c25_4 => ?_)
    · skip
      refine lv_iconst (v := 0) hx hb dX3_mayBoth_32 (by decide) ?_
      exact sg_iret hx hb hr rfl hlocks hP hD hS (Nat.le_of_ble_eq_true rfl) (Nat.le_of_ble_eq_true rfl) dX3_mayBoth_33 (⟨by simp_all [t2, bI, sS_uS], by simpa [t2, *] using hM⟩)
    · skip
      refine lv_iconst (v := 1) hx hb dX3_mayBoth_28 (by decide) ?_
      refine lv_goto (tgt := 33) hx hb dX3_mayBoth_29 (by decide) ?_
      exact sg_iret hx hb hr rfl hlocks hP hD hS (Nat.le_of_ble_eq_true rfl) (Nat.le_of_ble_eq_true rfl) dX3_mayBoth_33 (⟨by simp_all [t2, bI, sS_uS], by simpa [t2, *] using hM⟩)

theorem wi_X3_mayAll : ∀ w ∈ wsX30, w ∈ wsX3_mayAll := by decide +kernel
set_option maxHeartbeats 4000000 in
set_option maxRecDepth 100000 in
theorem c_X3_mayAll (l : Launch) (D : va_G) (Y : Nat → ClassId) (σ : sg_W) (sz : Nat) (ad : Nat → Nat) (M : MS) (a b d : Int32) (hM : MW Y ad M σ) : Met l yX3_mayAll wsX3_mayAll ({ frames := 0, cells := 0, slots := 0, locals := 0 } : Room) (va_Pc [.ref (ad 0), .int a, .int b, .int d] (sg_U D Y σ sz)) (va_Qi (fun r σ' => r = bI (t3 a b d = 0) ∧ MF Y ad σ (uS M 19 (t3 a b d)) σ') (sg_B D σ sz) (sg_A σ sz)) 0 0 (sg_A σ sz) := by
  refine sg_met (cc := cX3_mayAll) (maxL := 4) (ret := (some .boolean)) (by decide) rfl (Nat.le_of_ble_eq_true rfl) ?_
  intro p e s m below meth c ls hx hb hml hr hown hts hlocks hnm hP hK hD hN hX hA hS hsz hl
  have hl : lv_has ls 4 [(0, .ref (ad 0)), (1, .int a), (2, .int b), (3, .int d)] := hl
  refine lv_aload_n hx hb dX3_mayAll_0 rfl (lv_at hl 0 rfl) ?_
  refine lv_iload_n hx hb dX3_mayAll_1 rfl (lv_at hl 1 rfl) ?_
  refine lv_if_ne (tgt := 9) hx hb dX3_mayAll_2 (by decide) (fun c2_0 => ?_) (fun c2_0 => ?_)
  · skip
    refine lv_iload_n hx hb dX3_mayAll_9 rfl (lv_at hl 2 rfl) ?_
    refine lv_if_ne (tgt := 17) hx hb dX3_mayAll_10 (by decide) (fun c10_1 => ?_) (fun c10_1 => ?_)
    · skip
      refine lv_iload_n hx hb dX3_mayAll_17 rfl (lv_at hl 3 rfl) ?_
      refine lv_if_ne (tgt := 25) hx hb dX3_mayAll_18 (by decide) (fun c18_2 => ?_) (fun c18_2 => ?_)
      · skip
        refine lv_iconst (v := 0) hx hb dX3_mayAll_25 (by decide) ?_
        refine sg_put (ref := RX3) (ty := .int) (v := .int 0) hx hb hts wi_X3_mayAll tyX3 tyX3_ok nmX3 hown hK hP hD hS (hM.1 0 rfl) rfl 19 (by decide) (hts (.fieldLink RX3 68 RX3 "thrown" "I") (by decide +kernel)) (fun _ h => h) rfl (by decide +kernel) rfl rfl (Nat.le_of_ble_eq_true rfl) dX3_mayAll_26 (fun H locs hP hD hS => ?_)
        have hM := hM.s19 (v := 0)
        refine lv_aload_n hx hb dX3_mayAll_29 rfl (lv_at hl 0 rfl) ?_
        refine va_get (ref := RX3) (v := .int (sS (uS M 19 0) 19)) hx hb hts wi_X3_mayAll hown hK (sg_one hP (hM.1 0 rfl)) 0 rfl rfl 19 (by decide) (hts (.fieldLink RX3 68 RX3 "thrown" "I") (by decide +kernel)) (fun _ h => h) rfl dX3_mayAll_30 ?_
        refine lv_if_ne (tgt := 40) hx hb dX3_mayAll_33 (by decide) (fun c33_3 => ?_) (fun c33_3 => ?_)
        · skip
          refine lv_iconst (v := 0) hx hb dX3_mayAll_40 (by decide) ?_
          exact sg_iret hx hb hr rfl hlocks hP hD hS (Nat.le_of_ble_eq_true rfl) (Nat.le_of_ble_eq_true rfl) dX3_mayAll_41 (⟨by simp_all [t3, bI, sS_uS], by simpa [t3, *] using hM⟩)
        · skip
          refine lv_iconst (v := 1) hx hb dX3_mayAll_36 (by decide) ?_
          refine lv_goto (tgt := 41) hx hb dX3_mayAll_37 (by decide) ?_
          exact sg_iret hx hb hr rfl hlocks hP hD hS (Nat.le_of_ble_eq_true rfl) (Nat.le_of_ble_eq_true rfl) dX3_mayAll_41 (⟨by simp_all [t3, bI, sS_uS], by simpa [t3, *] using hM⟩)
      · skip
        refine lv_iconst (v := 3) hx hb dX3_mayAll_21 (by decide) ?_
        refine lv_goto (tgt := 26) hx hb dX3_mayAll_22 (by decide) ?_
        refine sg_put (ref := RX3) (ty := .int) (v := .int 3) hx hb hts wi_X3_mayAll tyX3 tyX3_ok nmX3 hown hK hP hD hS (hM.1 0 rfl) rfl 19 (by decide) (hts (.fieldLink RX3 68 RX3 "thrown" "I") (by decide +kernel)) (fun _ h => h) rfl (by decide +kernel) rfl rfl (Nat.le_of_ble_eq_true rfl) dX3_mayAll_26 (fun H locs hP hD hS => ?_)
        have hM := hM.s19 (v := 3)
        refine lv_aload_n hx hb dX3_mayAll_29 rfl (lv_at hl 0 rfl) ?_
        refine va_get (ref := RX3) (v := .int (sS (uS M 19 3) 19)) hx hb hts wi_X3_mayAll hown hK (sg_one hP (hM.1 0 rfl)) 0 rfl rfl 19 (by decide) (hts (.fieldLink RX3 68 RX3 "thrown" "I") (by decide +kernel)) (fun _ h => h) rfl dX3_mayAll_30 ?_
        refine lv_if_ne (tgt := 40) hx hb dX3_mayAll_33 (by decide) (fun c33_4 => ?_) (fun c33_4 => ?_)
        · skip
          refine lv_iconst (v := 0) hx hb dX3_mayAll_40 (by decide) ?_
          exact sg_iret hx hb hr rfl hlocks hP hD hS (Nat.le_of_ble_eq_true rfl) (Nat.le_of_ble_eq_true rfl) dX3_mayAll_41 (⟨by simp_all [t3, bI, sS_uS], by simpa [t3, *] using hM⟩)
        · skip
          refine lv_iconst (v := 1) hx hb dX3_mayAll_36 (by decide) ?_
          refine lv_goto (tgt := 41) hx hb dX3_mayAll_37 (by decide) ?_
          exact sg_iret hx hb hr rfl hlocks hP hD hS (Nat.le_of_ble_eq_true rfl) (Nat.le_of_ble_eq_true rfl) dX3_mayAll_41 (⟨by simp_all [t3, bI, sS_uS], by simpa [t3, *] using hM⟩)
    · skip
      refine lv_iconst (v := 2) hx hb dX3_mayAll_13 (by decide) ?_
      refine lv_goto (tgt := 26) hx hb dX3_mayAll_14 (by decide) ?_
      refine sg_put (ref := RX3) (ty := .int) (v := .int 2) hx hb hts wi_X3_mayAll tyX3 tyX3_ok nmX3 hown hK hP hD hS (hM.1 0 rfl) rfl 19 (by decide) (hts (.fieldLink RX3 68 RX3 "thrown" "I") (by decide +kernel)) (fun _ h => h) rfl (by decide +kernel) rfl rfl (Nat.le_of_ble_eq_true rfl) dX3_mayAll_26 (fun H locs hP hD hS => ?_)
      have hM := hM.s19 (v := 2)
      refine lv_aload_n hx hb dX3_mayAll_29 rfl (lv_at hl 0 rfl) ?_
      refine va_get (ref := RX3) (v := .int (sS (uS M 19 2) 19)) hx hb hts wi_X3_mayAll hown hK (sg_one hP (hM.1 0 rfl)) 0 rfl rfl 19 (by decide) (hts (.fieldLink RX3 68 RX3 "thrown" "I") (by decide +kernel)) (fun _ h => h) rfl dX3_mayAll_30 ?_
      refine lv_if_ne (tgt := 40) hx hb dX3_mayAll_33 (by decide) (fun c33_5 => ?_) (fun c33_5 => ?_)
      · skip
        refine lv_iconst (v := 0) hx hb dX3_mayAll_40 (by decide) ?_
        exact sg_iret hx hb hr rfl hlocks hP hD hS (Nat.le_of_ble_eq_true rfl) (Nat.le_of_ble_eq_true rfl) dX3_mayAll_41 (⟨by simp_all [t3, bI, sS_uS], by simpa [t3, *] using hM⟩)
      · skip
        refine lv_iconst (v := 1) hx hb dX3_mayAll_36 (by decide) ?_
        refine lv_goto (tgt := 41) hx hb dX3_mayAll_37 (by decide) ?_
        exact sg_iret hx hb hr rfl hlocks hP hD hS (Nat.le_of_ble_eq_true rfl) (Nat.le_of_ble_eq_true rfl) dX3_mayAll_41 (⟨by simp_all [t3, bI, sS_uS], by simpa [t3, *] using hM⟩)
  · skip
    refine lv_iconst (v := 1) hx hb dX3_mayAll_5 (by decide) ?_
    refine lv_goto (tgt := 26) hx hb dX3_mayAll_6 (by decide) ?_
    refine sg_put (ref := RX3) (ty := .int) (v := .int 1) hx hb hts wi_X3_mayAll tyX3 tyX3_ok nmX3 hown hK hP hD hS (hM.1 0 rfl) rfl 19 (by decide) (hts (.fieldLink RX3 68 RX3 "thrown" "I") (by decide +kernel)) (fun _ h => h) rfl (by decide +kernel) rfl rfl (Nat.le_of_ble_eq_true rfl) dX3_mayAll_26 (fun H locs hP hD hS => ?_)
    have hM := hM.s19 (v := 1)
    refine lv_aload_n hx hb dX3_mayAll_29 rfl (lv_at hl 0 rfl) ?_
    refine va_get (ref := RX3) (v := .int (sS (uS M 19 1) 19)) hx hb hts wi_X3_mayAll hown hK (sg_one hP (hM.1 0 rfl)) 0 rfl rfl 19 (by decide) (hts (.fieldLink RX3 68 RX3 "thrown" "I") (by decide +kernel)) (fun _ h => h) rfl dX3_mayAll_30 ?_
    refine lv_if_ne (tgt := 40) hx hb dX3_mayAll_33 (by decide) (fun c33_6 => ?_) (fun c33_6 => ?_)
    · skip
      refine lv_iconst (v := 0) hx hb dX3_mayAll_40 (by decide) ?_
      exact sg_iret hx hb hr rfl hlocks hP hD hS (Nat.le_of_ble_eq_true rfl) (Nat.le_of_ble_eq_true rfl) dX3_mayAll_41 (⟨by simp_all [t3, bI, sS_uS], by simpa [t3, *] using hM⟩)
    · skip
      refine lv_iconst (v := 1) hx hb dX3_mayAll_36 (by decide) ?_
      refine lv_goto (tgt := 41) hx hb dX3_mayAll_37 (by decide) ?_
      exact sg_iret hx hb hr rfl hlocks hP hD hS (Nat.le_of_ble_eq_true rfl) (Nat.le_of_ble_eq_true rfl) dX3_mayAll_41 (⟨by simp_all [t3, bI, sS_uS], by simpa [t3, *] using hM⟩)

theorem wi_X3_isMember : ∀ w ∈ wsX30, w ∈ wsX3_isMember := by decide +kernel
set_option maxHeartbeats 4000000 in
set_option maxRecDepth 100000 in
theorem c_X3_isMember (l : Launch) (D : va_G) (Y : Nat → ClassId) (σ : sg_W) (sz : Nat) (ad : Nat → Nat) (M : MS) (i : Int32) (hM : MW Y ad M σ) : Met l yX3_isMember wsX3_isMember ({ frames := 1, cells := 0, slots := 0, locals := 22 } : Room) (va_Pc [.ref (ad 0), .int i] (sg_U D Y σ sz)) (va_Qi (fun r σ' => r = bI (qM M i) ∧ σ = σ') (sg_B D σ sz) (sg_A σ sz)) 0 0 (sg_A σ sz) := by
  refine sg_met (cc := cX3_isMember) (maxL := 2) (ret := (some .boolean)) (by decide) rfl (Nat.le_of_ble_eq_true rfl) ?_
  intro p e s m below meth c ls hx hb hml hr hown hts hlocks hnm hP hK hD hN hX hA hS hsz hl
  have hl : lv_has ls 2 [(0, .ref (ad 0)), (1, .int i)] := hl
  refine lv_iload_n hx hb dX3_isMember_0 rfl (lv_at hl 1 rfl) ?_
  refine lv_iconst (v := 0) hx hb dX3_isMember_1 (by decide) ?_
  refine lv_aload_n hx hb dX3_isMember_2 rfl (lv_at hl 0 rfl) ?_
  refine va_get (ref := RX3) (v := .int (sS M 3)) hx hb hts wi_X3_isMember hown hK (sg_one hP (hM.1 0 rfl)) 0 rfl rfl 3 (by decide) (hts (.fieldLink RX3 71 RX3 "members" "I") (by decide +kernel)) (fun _ h => h) rfl dX3_isMember_3 ?_
  refine lv_iconst (v := 1) hx hb dX3_isMember_6 (by decide) ?_
  refine lv_isub hx hb dX3_isMember_7 ?_
  refine sg_calli hD hS hA (va_runS (As := [.int i, .int 0, .int ((sS M 3) - 1)]) (rest := []) ⟨hx, hb, hml, hown, hts⟩ (c_X3_isIn l D Y _ _ i 0 (((sS M 3) - 1))) (va_cwS 3 hts gX3_isMember_X3_isIn rfl rfl rfl (by decide +kernel) ⟨Nat.le_of_ble_eq_true rfl, Nat.le_of_ble_eq_true rfl⟩) (sg_preS hK hP hD hN hX hS hA) rfl rfl hl.1 rfl (lv_room (Nat.le_of_ble_eq_true rfl)) dX3_isMember_8 ⟨Nat.le_of_ble_eq_true rfl, Nat.le_of_ble_eq_true rfl⟩) (fun r8_0 σ' H locs hw hP hD hS => ?_)
  obtain ⟨er8_0, rfl⟩ := hw
  exact sg_iret hx hb hr (nar_z (by rw [er8_0]; exact bI_01)) hlocks hP hD hS (Nat.le_of_ble_eq_true rfl) (Nat.le_of_ble_eq_true rfl) dX3_isMember_11 (⟨er8_0, rfl⟩)

theorem wi_X3_isStaying : ∀ w ∈ wsX30, w ∈ wsX3_isStaying := by decide +kernel
set_option maxHeartbeats 4000000 in
set_option maxRecDepth 100000 in
theorem c_X3_isStaying (l : Launch) (D : va_G) (Y : Nat → ClassId) (σ : sg_W) (sz : Nat) (ad : Nat → Nat) (M : MS) (i : Int32) (h6 : mem6 M) (hM : MW Y ad M σ) : Met l yX3_isStaying wsX3_isStaying ({ frames := 2, cells := 0, slots := 0, locals := 43 } : Room) (va_Pc [.ref (ad 0), .int i] (sg_U D Y σ sz)) (va_Qi (fun r σ' => r = bI (qT M i) ∧ σ = σ') (sg_B D σ sz) (sg_A σ sz)) 0 0 (sg_A σ sz) := by
  refine sg_met (cc := cX3_isStaying) (maxL := 2) (ret := (some .boolean)) (by decide) rfl (Nat.le_of_ble_eq_true rfl) ?_
  intro p e s m below meth c ls hx hb hml hr hown hts hlocks hnm hP hK hD hN hX hA hS hsz hl
  have hl : lv_has ls 2 [(0, .ref (ad 0)), (1, .int i)] := hl
  refine lv_aload_n hx hb dX3_isStaying_0 rfl (lv_at hl 0 rfl) ?_
  refine lv_iload_n hx hb dX3_isStaying_1 rfl (lv_at hl 1 rfl) ?_
  refine sg_calli hD hS hA (va_runV (As := [.int i]) (rest := []) ⟨hx, hb, hml, hown, hts⟩ (c_X3_isMember l D Y _ _ ad M i hM.self) (cwV 1 hts gX3_isStaying_X3_isMember rfl rfl rfl (by decide +kernel) ⟨Nat.le_of_ble_eq_true rfl, Nat.le_of_ble_eq_true rfl⟩) (sg_preV (q := (RX3, TX3, 20)) (hM.1 0 rfl) rfl hK hP hD hN hX hS hA) rfl rfl hl.1 rfl (lv_room (Nat.le_of_ble_eq_true rfl)) dX3_isStaying_2 ⟨Nat.le_of_ble_eq_true rfl, Nat.le_of_ble_eq_true rfl⟩) (fun r2_0 σ' H locs hw hP hD hS => ?_)
  obtain ⟨er2_0, rfl⟩ := hw
  refine lv_if_eq (tgt := 21) hx hb dX3_isStaying_5 (by decide) (fun c5_1 => ?_) (fun c5_1 => ?_)
  · skip
    refine lv_iconst (v := 0) hx hb dX3_isStaying_21 (by decide) ?_
    exact sg_iret hx hb hr rfl hlocks hP hD hS (Nat.le_of_ble_eq_true rfl) (Nat.le_of_ble_eq_true rfl) dX3_isStaying_22 (⟨by grind [bI], rfl⟩)
  · skip
    refine lv_aload_n hx hb dX3_isStaying_8 rfl (lv_at hl 0 rfl) ?_
    refine va_get (ref := RX3) (v := .ref (ad 5)) hx hb hts wi_X3_isStaying hown hK (sg_one hP (hM.1 0 rfl)) 0 rfl rfl 5 (by decide) (hts (.fieldLink RX3 24 RX3 "left" "[Z") (by decide +kernel)) (fun _ h => h) rfl dX3_isStaying_9 ?_
    refine lv_iload_n hx hb dX3_isStaying_12 rfl (lv_at hl 1 rfl) ?_
    refine va_zald hx hb hK (sg_one hP (hM.1 5 rfl)) 0 2 rfl rfl (qM_in h6 (by grind [bI])) dX3_isStaying_13 ?_
    refine lv_if_ne (tgt := 21) hx hb dX3_isStaying_14 (by decide) (fun c14_2 => ?_) (fun c14_2 => ?_)
    · skip
      refine lv_iconst (v := 0) hx hb dX3_isStaying_21 (by decide) ?_
      exact sg_iret hx hb hr rfl hlocks hP hD hS (Nat.le_of_ble_eq_true rfl) (Nat.le_of_ble_eq_true rfl) dX3_isStaying_22 (⟨by grind [bI], rfl⟩)
    · skip
      refine lv_iconst (v := 1) hx hb dX3_isStaying_17 (by decide) ?_
      refine lv_goto (tgt := 22) hx hb dX3_isStaying_18 (by decide) ?_
      exact sg_iret hx hb hr rfl hlocks hP hD hS (Nat.le_of_ble_eq_true rfl) (Nat.le_of_ble_eq_true rfl) dX3_isStaying_22 (⟨by grind [bI], rfl⟩)
end
section
/-! PURE, of lots and members by their numbers: q = 10 j + k is the lot of the k-th purchase month of the member j -/
def qE (M : MS) (q : Nat) : Prop := sS M 0 - sI M 18 q < 24 ∨ sS M 0 - nI (6 * (q % 10) + 5) < 12
noncomputable def qEd (M : MS) (q : Nat) : Decidable (qE M q) := by unfold qE; exact inferInstance
def eQ (M : MS) (q : Nat) : Int32 := bI (sS M 0 - sI M 18 q < 24 ∨ sS M 0 - nI (6 * (q % 10) + 5) < 12)
def pq (M : MS) (q : Nat) : Int32 := if eQ M q = 1 then sI M 1 (6 * (q % 10) + 5) - sI M 17 q else
  (if (if 15 * sI M 1 (tN (sI M 18 q)) / 100 < sI M 1 (tN (sS M 0)) - sI M 17 q then 15 * sI M 1 (tN (sI M 18 q)) / 100 else sI M 1 (tN (sS M 0)) - sI M 17 q) < 0 then 0 else
    (if 15 * sI M 1 (tN (sI M 18 q)) / 100 < sI M 1 (tN (sS M 0)) - sI M 17 q then 15 * sI M 1 (tN (sI M 18 q)) / 100 else sI M 1 (tN (sS M 0)) - sI M 17 q))
def gq (M : MS) (q : Nat) (s : Int32) : Int64 := s.toInt64 * (sI M 1 (tN (sS M 0)) - sI M 17 q - pq M q).toInt64
def tm (M : MS) (q : Nat) : Int64 := (sI M 15 q).toInt64 * (sI M 1 (tN (sI M 18 q))).toInt64
def cN (M : MS) (j y : Nat) : Int64 := 0 + tm M (10 * j + 2 * y) + tm M (10 * j + (2 * y + 1))
def sH (M : MS) (j : Nat) : Nat → Int32
  | 0 => 0
  | k + 1 => sH M j k + sI M 16 (10 * j + k)
def gN (M : MS) (j : Nat) : Nat → Int64
  | 0 => 0
  | k + 1 => gN M j k + (if 0 < sI M 16 (10 * j + k) then gq M (10 * j + k) (sI M 16 (10 * j + k)) else 0)
abbrev mSell : Type := MS × Int32 × Int32
def soldN (M : MS) (q : Nat) (op : Int32) : Int32 := if op < sI M 16 q then op else sI M 16 q
def sellS (j k : Nat) (x : mSell) : mSell :=
  if 0 < soldN x.1 (10 * j + k) x.2.1 then
    (uI (uL (uL x.1 13 j (sL x.1 13 j + (soldN x.1 (10 * j + k) x.2.1).toInt64 * (pq x.1 (10 * j + k)).toInt64)) 14 j (sL x.1 14 j + gq x.1 (10 * j + k) (soldN x.1 (10 * j + k) x.2.1))) 16 (10 * j + k) (sI x.1 16 (10 * j + k) - soldN x.1 (10 * j + k) x.2.1),
      x.2.1 - soldN x.1 (10 * j + k) x.2.1, x.2.2 + (if eQ x.1 (10 * j + k) = 0 then 0 else soldN x.1 (10 * j + k) x.2.1))
  else x
def sellN (j : Nat) : Nat → mSell → mSell
  | 0, x => x
  | k + 1, x => sellS j k (sellN j k x)
/-- a purchase of the member j at the end of the month t -/
def bEach (M : MS) (j : Nat) : Int32 := (85 * (if sI M 1 (tN (sI M 10 j)) < sI M 1 (tN (sS M 0)) then sI M 1 (tN (sI M 10 j)) else sI M 1 (tN (sS M 0))) + 99) / 100
def bRoom (M : MS) (j : Nat) : Int64 := ((sS M 2).toInt64 - cN M j (tN (sS M 0) / 12)) / (sI M 1 (tN (sI M 10 j))).toInt64
def bCan (M : MS) (j : Nat) : Int32 := sI M 6 j / bEach M j
def bN (M : MS) (j : Nat) : Int32 := if bRoom M j < 0 then 0 else if bRoom M j < (bCan M j).toInt64 then (bRoom M j).toInt32 else bCan M j
def buy1 (M : MS) (j : Nat) : MS := if 0 < bN M j then
    uL (uI (uI (uI (uI (uI M 15 (10 * j + tN (sS M 0) / 6) (bN M j)) 16 (10 * j + tN (sS M 0) / 6) (bN M j)) 17 (10 * j + tN (sS M 0) / 6) (bEach M j)) 18 (10 * j + tN (sS M 0) / 6) (sI M 10 j)) 6 j (sI M 6 j - bN M j * bEach M j)) 8 j (sL M 8 j + (bN M j * bEach M j).toInt64)
  else M
def buy2 (M : MS) (j : Nat) : MS := uI (buy1 M j) 11 j (sI M 11 j + 1)
def buyM (M : MS) (j : Nat) : MS := if sI M 1 (tN (sS M 0)) < sI M 1 (tN (sI M 10 j)) ∨ sI M 11 j + 1 = 4 then
    uI (uI (uI (buy2 M j) 12 j (sI M 12 j + (if sI M 1 (tN (sS M 0)) < sI M 1 (tN (sI M 10 j)) then 1 else 0))) 10 j (sS M 0)) 11 j 0
  else buy2 M j
def bAll (M : MS) : Nat → MS
  | 0 => M
  | k + 1 => if sI (bAll M k) 5 k = 0 then buyM (bAll M k) k else bAll M k
/-! the calls: what is thrown (0: nothing), the answer, the state behind -/
abbrev irem (x y : Int32) : Int32 := x - x / y * y
def tNext (M : MS) (p : Int32) : Int32 := t2 (bI (qIn p 1 100000)) (bI (sS M 0 < 59))
def nNext (M : MS) (p : Int32) : MS := uI (uS (if irem (sS M 0) 6 = 5 then bAll M (tN (sS M 3)) else M) 0 (sS M 0 + 1)) 1 (tN (sS M 0 + 1)) p
def tCeil (c : Int32) : Int32 := t1 (bI (qIn c 0 10000000))
def tJoin (M : MS) (r : Int32) : Int32 := t2 (bI (qIn r 1 15)) (bI (0 ≤ sS M 0 ∧ sS M 3 < 6))
def nJoin (M : MS) (r : Int32) : MS := uS (uI (uI M 4 (tN (sS M 3)) r) 10 (tN (sS M 3)) (sS M 0)) 3 (sS M 3 + 1)
def tRate (M : MS) (i r : Int32) : Int32 := t3 (bI (qM M i)) (bI (qIn r 1 15)) (bI (qT M i))
def nRate (M : MS) (i r : Int32) : MS := uI M 4 (tN i) r
def tSlip (M : MS) (i g : Int32) : Int32 := t3 (bI (qM M i)) (bI (qIn g 0 5000000)) (bI (qT M i))
def rSlip (M : MS) (i g : Int32) : Int32 := g * sI M 4 (tN i) / 100
def nSlip (M : MS) (i g : Int32) : MS := uL (uI M 6 (tN i) (sI M 6 (tN i) + rSlip M i g)) 9 (tN i) (sL M 9 (tN i) + (rSlip M i g).toInt64)
def tLeave (M : MS) (i : Int32) : Int32 := t2 (bI (qM M i)) (bI (qT M i))
def nLeave (M : MS) (i : Int32) : MS := uI (uI (uI M 5 (tN i) 1) 7 (tN i) (sI M 6 (tN i))) 6 (tN i) 0
def tMem (M : MS) (i : Int32) : Int32 := t1 (bI (qM M i))
def tMonth (M : MS) (i d : Int32) : Int32 := t1 (bI (qM M i ∧ qIn d 0 59))
def rBought (M : MS) (i d : Int32) : Int32 := if irem d 6 = 5 then sI M 15 (tN (10 * i + d / 6)) else 0
def rPaid (M : MS) (i d : Int32) : Int32 := if irem d 6 = 5 ∧ 0 < sI M 15 (tN (10 * i + d / 6)) then sI M 17 (tN (10 * i + d / 6)) else -1
def tYear (M : MS) (i y : Int32) : Int32 := t1 (bI (qM M i ∧ qIn y 0 4))
def tSell (M : MS) (i s : Int32) : Int32 := t3 (bI (qM M i)) (bI (qIn s 1 1000000)) (bI (qM M i ∧ s ≤ sH M (tN i) 10))
def xSell (M : MS) (i s : Int32) : mSell := sellN (tN i) 10 (M, s, 0)
/-- what the reference's indexes need -/
def wfI (M : MS) : Prop := mem6 M ∧ (∀ k, k < 6 → vp_in (sI M 10 k) 60) ∧ ∀ k, k < 60 → vp_in (sI M 18 k) 60
theorem vp_r {x : Int32} {N a : Nat} (e : x = nI a) (h : a < N) (hN : N < 2 ^ 31) : vp_in x N := by rw [e]; exact vp_in_nI h hN
theorem vp_lt {x : Int32} {N : Nat} (h : vp_in x N) : tN x < N := Nat.not_le.mp fun q => h (Or.inr q)
theorem vp_eq {x : Int32} {N : Nat} (h : vp_in x N) (hN : N < 2 ^ 31) : x = nI (tN x) := by
  obtain ⟨j, hj, rfl⟩ := vp_in_of h hN
  rw [tN, nI_clamp (by omega)]
theorem nI_10 (j k : Nat) : 10 * nI j + nI k = nI (10 * j + k) := by rw [show (10 : Int32) = nI 10 from rfl, pk_mul, nI_add]
theorem nI_rem {q d : Nat} (hq : q < 2 ^ 31) (h0 : 0 < d) (hd : d < 2 ^ 31) : nI q - nI q / nI d * nI d = nI (q % d) := pk_rem hq h0 hd
theorem nI_day {q : Nat} (hq : q < 60) : 6 * (nI q - nI q / 10 * 10) + 5 = nI (6 * (q % 10) + 5) := by
  rw [show (10 : Int32) = nI 10 from rfl, nI_rem (by omega) (by omega) (by omega), show (6 : Int32) = nI 6 from rfl, show (5 : Int32) = nI 5 from rfl, pk_mul, nI_add]
theorem eQ_01 {M : MS} {q : Nat} : eQ M q = 0 ∨ eQ M q = 1 := bI_01
end
section
theorem wi_X3_isEarly : ∀ w ∈ wsX30, w ∈ wsX3_isEarly := by decide +kernel
set_option maxHeartbeats 4000000 in
set_option maxRecDepth 100000 in
theorem c_X3_isEarly (l : Launch) (D : va_G) (Y : Nat → ClassId) (σ : sg_W) (sz : Nat) (ad : Nat → Nat) (M : MS) (q : Nat) (hq : q < 60) (hM : MW Y ad M σ) : Met l yX3_isEarly wsX3_isEarly ({ frames := 0, cells := 0, slots := 0, locals := 0 } : Room) (va_Pc [.ref (ad 0), .int (nI q)] (sg_U D Y σ sz)) (va_Qi (fun r σ' => r = eQ M q ∧ σ = σ') (sg_B D σ sz) (sg_A σ sz)) 0 0 (sg_A σ sz) := by
  refine sg_met (cc := cX3_isEarly) (maxL := 2) (ret := (some .boolean)) (by decide) rfl (Nat.le_of_ble_eq_true rfl) ?_
  intro p e s m below meth c ls hx hb hml hr hown hts hlocks hnm hP hK hD hN hX hA hS hsz hl
  have hl : lv_has ls 2 [(0, .ref (ad 0)), (1, .int (nI q))] := hl
  have hcq : (nI q).toNatClampNeg = q := nI_clamp (by omega)
  have hdq := nI_day hq
  have hdc : (nI (6 * (q % 10) + 5)).toNatClampNeg = 6 * (q % 10) + 5 := nI_clamp (by omega)
  refine lv_aload_n hx hb dX3_isEarly_0 rfl (lv_at hl 0 rfl) ?_
  refine va_get (ref := RX3) (v := .int (sS M 0)) hx hb hts wi_X3_isEarly hown hK (sg_one hP (hM.1 0 rfl)) 0 rfl rfl 0 (by decide) (hts (.fieldLink RX3 9 RX3 "month" "I") (by decide +kernel)) (fun _ h => h) rfl dX3_isEarly_1 ?_
  refine lv_aload_n hx hb dX3_isEarly_4 rfl (lv_at hl 0 rfl) ?_
  refine va_get (ref := RX3) (v := .ref (ad 18)) hx hb hts wi_X3_isEarly hown hK (sg_one hP (hM.1 0 rfl)) 0 rfl rfl 18 (by decide) (hts (.fieldLink RX3 65 RX3 "offer" "[I") (by decide +kernel)) (fun _ h => h) rfl dX3_isEarly_5 ?_
  refine lv_iload_n hx hb dX3_isEarly_8 rfl (lv_at hl 1 rfl) ?_
  refine va_iald hx hb hK (sg_one hP (hM.1 18 rfl)) 0 0 rfl rfl (vp_in_nI hq (by decide)) dX3_isEarly_9 ?_
  refine lv_isub hx hb dX3_isEarly_10 ?_
  refine lv_bipush (v := 24) hx hb dX3_isEarly_11 (by decide) ?_
  refine lv_icmp_lt (tgt := 35) hx hb dX3_isEarly_13 (by decide) (fun c13 => ?_) (fun c13 => ?_)
  · skip
    refine lv_iconst (v := 1) hx hb dX3_isEarly_35 (by decide) ?_
    refine lv_goto (tgt := 40) hx hb dX3_isEarly_36 (by decide) ?_
    exact sg_iret hx hb hr rfl hlocks hP hD hS (Nat.le_of_ble_eq_true rfl) (Nat.le_of_ble_eq_true rfl) dX3_isEarly_40 (⟨by grind [eQ, bI], rfl⟩)
  · skip
    refine lv_aload_n hx hb dX3_isEarly_16 rfl (lv_at hl 0 rfl) ?_
    refine va_get (ref := RX3) (v := .int (sS M 0)) hx hb hts wi_X3_isEarly hown hK (sg_one hP (hM.1 0 rfl)) 0 rfl rfl 0 (by decide) (hts (.fieldLink RX3 9 RX3 "month" "I") (by decide +kernel)) (fun _ h => h) rfl dX3_isEarly_17 ?_
    refine lv_bipush (v := 6) hx hb dX3_isEarly_20 (by decide) ?_
    refine lv_iload_n hx hb dX3_isEarly_22 rfl (lv_at hl 1 rfl) ?_
    refine lv_bipush (v := 10) hx hb dX3_isEarly_23 (by decide) ?_
    refine lv_irem hx hb dX3_isEarly_25 (by decide) ?_
    refine lv_imul hx hb dX3_isEarly_26 ?_
    refine lv_iconst (v := 5) hx hb dX3_isEarly_27 (by decide) ?_
    refine lv_iadd hx hb dX3_isEarly_28 ?_
    refine lv_isub hx hb dX3_isEarly_29 ?_
    refine lv_bipush (v := 12) hx hb dX3_isEarly_30 (by decide) ?_
    refine lv_icmp_ge (tgt := 39) hx hb dX3_isEarly_32 (by decide) (fun c32 => ?_) (fun c32 => ?_)
    · skip
      refine lv_iconst (v := 0) hx hb dX3_isEarly_39 (by decide) ?_
      exact sg_iret hx hb hr rfl hlocks hP hD hS (Nat.le_of_ble_eq_true rfl) (Nat.le_of_ble_eq_true rfl) dX3_isEarly_40 (⟨by grind [eQ, bI], rfl⟩)
    · skip
      refine lv_iconst (v := 1) hx hb dX3_isEarly_35 (by decide) ?_
      refine lv_goto (tgt := 40) hx hb dX3_isEarly_36 (by decide) ?_
      exact sg_iret hx hb hr rfl hlocks hP hD hS (Nat.le_of_ble_eq_true rfl) (Nat.le_of_ble_eq_true rfl) dX3_isEarly_40 (⟨by grind [eQ, bI], rfl⟩)

theorem wi_X3_payOf : ∀ w ∈ wsX30, w ∈ wsX3_payOf := by decide +kernel
set_option maxHeartbeats 4000000 in
set_option maxRecDepth 100000 in
theorem c_X3_payOf (l : Launch) (D : va_G) (Y : Nat → ClassId) (σ : sg_W) (sz : Nat) (ad : Nat → Nat) (M : MS) (q : Nat) (hq : q < 60) (ho : vp_in (sI M 18 q) 60) (hm : vp_in (sS M 0) 60) (hM : MW Y ad M σ) : Met l yX3_payOf wsX3_payOf ({ frames := 1, cells := 0, slots := 0, locals := 21 } : Room) (va_Pc [.ref (ad 0), .int (nI q)] (sg_U D Y σ sz)) (va_Qi (fun r σ' => r = pq M q ∧ σ = σ') (sg_B D σ sz) (sg_A σ sz)) 0 0 (sg_A σ sz) := by
  refine sg_met (cc := cX3_payOf) (maxL := 5) (ret := (some .int)) (by decide) rfl (Nat.le_of_ble_eq_true rfl) ?_
  intro p e s m below meth c ls hx hb hml hr hown hts hlocks hnm hP hK hD hN hX hA hS hsz hl
  have hl : lv_has ls 5 [(0, .ref (ad 0)), (1, .int (nI q))] := hl
  have hcq : (nI q).toNatClampNeg = q := nI_clamp (by omega)
  have hdq := nI_day hq
  have hdc : (nI (6 * (q % 10) + 5)).toNatClampNeg = 6 * (q % 10) + 5 := nI_clamp (by omega)
  refine lv_aload_n hx hb dX3_payOf_0 rfl (lv_at hl 0 rfl) ?_
  refine lv_iload_n hx hb dX3_payOf_1 rfl (lv_at hl 1 rfl) ?_
  refine sg_calli hD hS hA (va_runV (As := [.int (nI q)]) (rest := []) ⟨hx, hb, hml, hown, hts⟩ (c_X3_isEarly l D Y _ _ ad M q hq hM.self) (cwV 1 hts gX3_payOf_X3_isEarly rfl rfl rfl (by decide +kernel) ⟨Nat.le_of_ble_eq_true rfl, Nat.le_of_ble_eq_true rfl⟩) (sg_preV (q := (RX3, TX3, 20)) (hM.1 0 rfl) rfl hK hP hD hN hX hS hA) rfl rfl hl.1 rfl (lv_room (Nat.le_of_ble_eq_true rfl)) dX3_payOf_2 ⟨Nat.le_of_ble_eq_true rfl, Nat.le_of_ble_eq_true rfl⟩) (fun r2 σ' H locs hw hP hD hS => ?_)
  obtain ⟨er2, rfl⟩ := hw
  refine lv_if_eq (tgt := 30) hx hb dX3_payOf_5 (by decide) (fun c5 => ?_) (fun c5 => ?_)
  · skip
    refine lv_aload_n hx hb dX3_payOf_30 rfl (lv_at hl 0 rfl) ?_
    refine va_get (ref := RX3) (v := .ref (ad 1)) hx hb hts wi_X3_payOf hown hK (sg_one hP (hM.1 0 rfl)) 0 rfl rfl 1 (by decide) (hts (.fieldLink RX3 13 RX3 "price" "[I") (by decide +kernel)) (fun _ h => h) rfl dX3_payOf_31 ?_
    refine lv_aload_n hx hb dX3_payOf_34 rfl (lv_at hl 0 rfl) ?_
    refine va_get (ref := RX3) (v := .int (sS M 0)) hx hb hts wi_X3_payOf hown hK (sg_one hP (hM.1 0 rfl)) 0 rfl rfl 0 (by decide) (hts (.fieldLink RX3 9 RX3 "month" "I") (by decide +kernel)) (fun _ h => h) rfl dX3_payOf_35 ?_
    refine va_iald hx hb hK (sg_one hP (hM.1 1 rfl)) 0 0 rfl rfl (hm) dX3_payOf_38 ?_
    refine lv_aload_n hx hb dX3_payOf_39 rfl (lv_at hl 0 rfl) ?_
    refine va_get (ref := RX3) (v := .ref (ad 17)) hx hb hts wi_X3_payOf hown hK (sg_one hP (hM.1 0 rfl)) 0 rfl rfl 17 (by decide) (hts (.fieldLink RX3 62 RX3 "paid" "[I") (by decide +kernel)) (fun _ h => h) rfl dX3_payOf_40 ?_
    refine lv_iload_n hx hb dX3_payOf_43 rfl (lv_at hl 1 rfl) ?_
    refine va_iald hx hb hK (sg_one hP (hM.1 17 rfl)) 0 0 rfl rfl (vp_in_nI hq (by decide)) dX3_payOf_44 ?_
    refine lv_isub hx hb dX3_payOf_45 ?_
    refine lv_topi (fun v46 ev46 => ?_)
    refine lv_istore_n (lv' := [(2, .int v46), (0, .ref (ad 0)), (1, .int (nI q))]) hx hb dX3_payOf_46 rfl hl (by decide) rfl (fun ls hl => ?_)
    refine lv_bipush (v := 15) hx hb dX3_payOf_47 (by decide) ?_
    refine lv_aload_n hx hb dX3_payOf_49 rfl (lv_at hl 1 rfl) ?_
    refine va_get (ref := RX3) (v := .ref (ad 1)) hx hb hts wi_X3_payOf hown hK (sg_one hP (hM.1 0 rfl)) 0 rfl rfl 1 (by decide) (hts (.fieldLink RX3 13 RX3 "price" "[I") (by decide +kernel)) (fun _ h => h) rfl dX3_payOf_50 ?_
    refine lv_aload_n hx hb dX3_payOf_53 rfl (lv_at hl 1 rfl) ?_
    refine va_get (ref := RX3) (v := .ref (ad 18)) hx hb hts wi_X3_payOf hown hK (sg_one hP (hM.1 0 rfl)) 0 rfl rfl 18 (by decide) (hts (.fieldLink RX3 65 RX3 "offer" "[I") (by decide +kernel)) (fun _ h => h) rfl dX3_payOf_54 ?_
    refine lv_iload_n hx hb dX3_payOf_57 rfl (lv_at hl 2 rfl) ?_
    refine va_iald hx hb hK (sg_one hP (hM.1 18 rfl)) 0 0 rfl rfl (vp_in_nI hq (by decide)) dX3_payOf_58 ?_
    refine va_iald hx hb hK (sg_one hP (hM.1 1 rfl)) 0 0 rfl rfl (by rw [nI_clamp (by omega)]; exact ho) dX3_payOf_59 ?_
    refine lv_imul hx hb dX3_payOf_60 ?_
    refine lv_bipush (v := 100) hx hb dX3_payOf_61 (by decide) ?_
    refine lv_idiv hx hb dX3_payOf_63 (by decide) ?_
    refine lv_topi (fun v64 ev64 => ?_)
    refine lv_istore_n (lv' := [(3, .int v64), (2, .int v46), (0, .ref (ad 0)), (1, .int (nI q))]) hx hb dX3_payOf_64 rfl hl (by decide) rfl (fun ls hl => ?_)
    refine lv_iload_n hx hb dX3_payOf_65 rfl (lv_at hl 0 rfl) ?_
    refine lv_iload_n hx hb dX3_payOf_66 rfl (lv_at hl 1 rfl) ?_
    refine lv_icmp_ge (tgt := 74) hx hb dX3_payOf_67 (by decide) (fun c67 => ?_) (fun c67 => ?_)
    · skip
      refine lv_iload_n hx hb dX3_payOf_74 rfl (lv_at hl 1 rfl) ?_
      refine lv_istore (lv' := [(4, .int v46), (3, .int v64), (2, .int v46), (0, .ref (ad 0)), (1, .int (nI q))]) hx hb dX3_payOf_75 hl (by decide) rfl (fun ls hl => ?_)
      refine lv_iload hx hb dX3_payOf_77 (lv_at hl 0 rfl) ?_
      refine lv_if_ge (tgt := 86) hx hb dX3_payOf_79 (by decide) (fun c79 => ?_) (fun c79 => ?_)
      · skip
        refine lv_iload hx hb dX3_payOf_86 (lv_at hl 0 rfl) ?_
        exact sg_iret hx hb hr rfl hlocks hP hD hS (Nat.le_of_ble_eq_true rfl) (Nat.le_of_ble_eq_true rfl) dX3_payOf_88 (⟨by grind [pq, eQ_01, Int32.not_le, Int32.not_lt], rfl⟩)
      · skip
        refine lv_iconst (v := 0) hx hb dX3_payOf_82 (by decide) ?_
        refine lv_goto (tgt := 88) hx hb dX3_payOf_83 (by decide) ?_
        exact sg_iret hx hb hr rfl hlocks hP hD hS (Nat.le_of_ble_eq_true rfl) (Nat.le_of_ble_eq_true rfl) dX3_payOf_88 (⟨by grind [pq, eQ_01, Int32.not_le, Int32.not_lt], rfl⟩)
    · skip
      refine lv_iload_n hx hb dX3_payOf_70 rfl (lv_at hl 0 rfl) ?_
      refine lv_goto (tgt := 75) hx hb dX3_payOf_71 (by decide) ?_
      refine lv_istore (lv' := [(4, .int v64), (3, .int v64), (2, .int v46), (0, .ref (ad 0)), (1, .int (nI q))]) hx hb dX3_payOf_75 hl (by decide) rfl (fun ls hl => ?_)
      refine lv_iload hx hb dX3_payOf_77 (lv_at hl 0 rfl) ?_
      refine lv_if_ge (tgt := 86) hx hb dX3_payOf_79 (by decide) (fun c79 => ?_) (fun c79 => ?_)
      · skip
        refine lv_iload hx hb dX3_payOf_86 (lv_at hl 0 rfl) ?_
        exact sg_iret hx hb hr rfl hlocks hP hD hS (Nat.le_of_ble_eq_true rfl) (Nat.le_of_ble_eq_true rfl) dX3_payOf_88 (⟨by grind [pq, eQ_01, Int32.not_le, Int32.not_lt], rfl⟩)
      · skip
        refine lv_iconst (v := 0) hx hb dX3_payOf_82 (by decide) ?_
        refine lv_goto (tgt := 88) hx hb dX3_payOf_83 (by decide) ?_
        exact sg_iret hx hb hr rfl hlocks hP hD hS (Nat.le_of_ble_eq_true rfl) (Nat.le_of_ble_eq_true rfl) dX3_payOf_88 (⟨by grind [pq, eQ_01, Int32.not_le, Int32.not_lt], rfl⟩)
  · skip
    refine lv_aload_n hx hb dX3_payOf_8 rfl (lv_at hl 0 rfl) ?_
    refine va_get (ref := RX3) (v := .ref (ad 1)) hx hb hts wi_X3_payOf hown hK (sg_one hP (hM.1 0 rfl)) 0 rfl rfl 1 (by decide) (hts (.fieldLink RX3 13 RX3 "price" "[I") (by decide +kernel)) (fun _ h => h) rfl dX3_payOf_9 ?_
    refine lv_bipush (v := 6) hx hb dX3_payOf_12 (by decide) ?_
    refine lv_iload_n hx hb dX3_payOf_14 rfl (lv_at hl 1 rfl) ?_
    refine lv_bipush (v := 10) hx hb dX3_payOf_15 (by decide) ?_
    refine lv_irem hx hb dX3_payOf_17 (by decide) ?_
    refine lv_imul hx hb dX3_payOf_18 ?_
    refine lv_iconst (v := 5) hx hb dX3_payOf_19 (by decide) ?_
    refine lv_iadd hx hb dX3_payOf_20 ?_
    refine va_iald hx hb hK (sg_one hP (hM.1 1 rfl)) 0 0 rfl rfl (by rw [nI_day hq]; exact vp_in_nI (by omega) (by decide)) dX3_payOf_21 ?_
    refine lv_aload_n hx hb dX3_payOf_22 rfl (lv_at hl 0 rfl) ?_
    refine va_get (ref := RX3) (v := .ref (ad 17)) hx hb hts wi_X3_payOf hown hK (sg_one hP (hM.1 0 rfl)) 0 rfl rfl 17 (by decide) (hts (.fieldLink RX3 62 RX3 "paid" "[I") (by decide +kernel)) (fun _ h => h) rfl dX3_payOf_23 ?_
    refine lv_iload_n hx hb dX3_payOf_26 rfl (lv_at hl 1 rfl) ?_
    refine va_iald hx hb hK (sg_one hP (hM.1 17 rfl)) 0 0 rfl rfl (vp_in_nI hq (by decide)) dX3_payOf_27 ?_
    refine lv_isub hx hb dX3_payOf_28 ?_
    exact sg_iret hx hb hr rfl hlocks hP hD hS (Nat.le_of_ble_eq_true rfl) (Nat.le_of_ble_eq_true rfl) dX3_payOf_29 (⟨by grind [pq, eQ_01, Int32.not_le, Int32.not_lt], rfl⟩)

theorem wi_X3_gainOf : ∀ w ∈ wsX30, w ∈ wsX3_gainOf := by decide +kernel
set_option maxHeartbeats 4000000 in
set_option maxRecDepth 100000 in
theorem c_X3_gainOf (l : Launch) (D : va_G) (Y : Nat → ClassId) (σ : sg_W) (sz : Nat) (ad : Nat → Nat) (M : MS) (q : Nat) (x : Int32) (hq : q < 60) (ho : vp_in (sI M 18 q) 60) (hm : vp_in (sS M 0) 60) (hM : MW Y ad M σ) : Met l yX3_gainOf wsX3_gainOf ({ frames := 2, cells := 0, slots := 0, locals := 45 } : Room) (va_Pc [.ref (ad 0), .int (nI q), .int x] (sg_U D Y σ sz)) (va_Ql (fun r σ' => r = gq M q x ∧ σ = σ') (sg_B D σ sz) (sg_A σ sz)) 0 0 (sg_A σ sz) := by
  refine sg_met (cc := cX3_gainOf) (maxL := 3) (ret := (some .long)) (by decide) rfl (Nat.le_of_ble_eq_true rfl) ?_
  intro p e s m below meth c ls hx hb hml hr hown hts hlocks hnm hP hK hD hN hX hA hS hsz hl
  have hl : lv_has ls 3 [(0, .ref (ad 0)), (1, .int (nI q)), (2, .int x)] := hl
  have hcq : (nI q).toNatClampNeg = q := nI_clamp (by omega)
  have hdq := nI_day hq
  have hdc : (nI (6 * (q % 10) + 5)).toNatClampNeg = 6 * (q % 10) + 5 := nI_clamp (by omega)
  refine lv_iload_n hx hb dX3_gainOf_0 rfl (lv_at hl 2 rfl) ?_
  refine lv_i2l hx hb dX3_gainOf_1 rfl ?_
  refine lv_aload_n hx hb dX3_gainOf_2 rfl (lv_at hl 0 rfl) ?_
  refine va_get (ref := RX3) (v := .ref (ad 1)) hx hb hts wi_X3_gainOf hown hK (sg_one hP (hM.1 0 rfl)) 0 rfl rfl 1 (by decide) (hts (.fieldLink RX3 13 RX3 "price" "[I") (by decide +kernel)) (fun _ h => h) rfl dX3_gainOf_3 ?_
  refine lv_aload_n hx hb dX3_gainOf_6 rfl (lv_at hl 0 rfl) ?_
  refine va_get (ref := RX3) (v := .int (sS M 0)) hx hb hts wi_X3_gainOf hown hK (sg_one hP (hM.1 0 rfl)) 0 rfl rfl 0 (by decide) (hts (.fieldLink RX3 9 RX3 "month" "I") (by decide +kernel)) (fun _ h => h) rfl dX3_gainOf_7 ?_
  refine va_iald hx hb hK (sg_one hP (hM.1 1 rfl)) 0 0 rfl rfl (hm) dX3_gainOf_10 ?_
  refine lv_aload_n hx hb dX3_gainOf_11 rfl (lv_at hl 0 rfl) ?_
  refine va_get (ref := RX3) (v := .ref (ad 17)) hx hb hts wi_X3_gainOf hown hK (sg_one hP (hM.1 0 rfl)) 0 rfl rfl 17 (by decide) (hts (.fieldLink RX3 62 RX3 "paid" "[I") (by decide +kernel)) (fun _ h => h) rfl dX3_gainOf_12 ?_
  refine lv_iload_n hx hb dX3_gainOf_15 rfl (lv_at hl 1 rfl) ?_
  refine va_iald hx hb hK (sg_one hP (hM.1 17 rfl)) 0 0 rfl rfl (vp_in_nI hq (by decide)) dX3_gainOf_16 ?_
  refine lv_isub hx hb dX3_gainOf_17 ?_
  refine lv_aload_n hx hb dX3_gainOf_18 rfl (lv_at hl 0 rfl) ?_
  refine lv_iload_n hx hb dX3_gainOf_19 rfl (lv_at hl 1 rfl) ?_
  refine sg_calli hD hS hA (va_runV (As := [.int (nI q)]) (rest := [.int ((sI M 1 ((sS M 0)).toNatClampNeg) - (sI M 17 ((nI q)).toNatClampNeg)), .long x.toInt64]) ⟨hx, hb, hml, hown, hts⟩ (c_X3_payOf l D Y _ _ ad M q hq ho hm hM.self) (cwV 1 hts gX3_gainOf_X3_payOf rfl rfl rfl (by decide +kernel) ⟨Nat.le_of_ble_eq_true rfl, Nat.le_of_ble_eq_true rfl⟩) (sg_preV (q := (RX3, TX3, 20)) (hM.1 0 rfl) rfl hK hP hD hN hX hS hA) rfl rfl hl.1 rfl (lv_room (Nat.le_of_ble_eq_true rfl)) dX3_gainOf_20 ⟨Nat.le_of_ble_eq_true rfl, Nat.le_of_ble_eq_true rfl⟩) (fun r20 σ' H locs hw hP hD hS => ?_)
  obtain ⟨er20, rfl⟩ := hw
  refine lv_isub hx hb dX3_gainOf_23 ?_
  refine lv_i2l hx hb dX3_gainOf_24 rfl ?_
  refine lv_lmul hx hb dX3_gainOf_25 ?_
  exact sg_lret hx hb hr hlocks hP hD hS (Nat.le_of_ble_eq_true rfl) (Nat.le_of_ble_eq_true rfl) dX3_gainOf_26 (⟨by grind [gq], rfl⟩)

theorem wi_X3_countedIn : ∀ w ∈ wsX30, w ∈ wsX3_countedIn := by decide +kernel
set_option maxHeartbeats 4000000 in
set_option maxRecDepth 100000 in
theorem c_X3_countedIn (l : Launch) (D : va_G) (Y : Nat → ClassId) (σ : sg_W) (sz : Nat) (ad : Nat → Nat) (M : MS) (j y : Nat) (hj : j < 6) (hy : y < 5) (ho : ∀ k, k < 60 → vp_in (sI M 18 k) 60) (hM : MW Y ad M σ) : Met l yX3_countedIn wsX3_countedIn ({ frames := 0, cells := 0, slots := 0, locals := 0 } : Room) (va_Pc [.ref (ad 0), .int (nI j), .int (nI y)] (sg_U D Y σ sz)) (va_Ql (fun r σ' => r = cN M j y ∧ σ = σ') (sg_B D σ sz) (sg_A σ sz)) 0 0 (sg_A σ sz) := by
  refine sg_met (cc := cX3_countedIn) (maxL := 6) (ret := (some .long)) (by decide) rfl (Nat.le_of_ble_eq_true rfl) ?_
  intro p e s m below meth c ls hx hb hml hr hown hts hlocks hnm hP hK hD hN hX hA hS hsz hl
  have hl : lv_has ls 6 [(0, .ref (ad 0)), (1, .int (nI j)), (2, .int (nI y))] := hl
  have h10 : 10 * nI j = nI (10 * j) := pk_mul 10 j
  have h1010 : nI (10 * j) + 10 = nI (10 * j + 10) := nI_add _ 10
  have h2 : 2 * nI y = nI (2 * y) := pk_mul 2 y
  have h22 : nI (2 * y) + 2 = nI (2 * y + 2) := nI_add _ 2
  have g1 : (nI (10 * j + 2 * y)).toNatClampNeg = 10 * j + 2 * y := nI_clamp (by omega)
  have g2 : (nI (10 * j + (2 * y + 1))).toNatClampNeg = 10 * j + (2 * y + 1) := nI_clamp (by omega)
  have g3 : nI (10 * j) + nI (2 * y) = nI (10 * j + 2 * y) := nI_add _ _
  have g4 : nI (10 * j) + nI (2 * y + 1) = nI (10 * j + (2 * y + 1)) := nI_add _ _
  refine lv_lconst (v := 0) hx hb dX3_countedIn_0 (by decide) ?_
  refine lv_lstore_n (lv' := [(3, .long 0), (0, .ref (ad 0)), (1, .int (nI j)), (2, .int (nI y))]) hx hb dX3_countedIn_1 rfl hl (by decide) rfl (fun ls hl => ?_)
  refine lv_iconst (v := 2) hx hb dX3_countedIn_2 (by decide) ?_
  refine lv_iload_n hx hb dX3_countedIn_3 rfl (lv_at hl 3 rfl) ?_
  refine lv_imul hx hb dX3_countedIn_4 ?_
  refine lv_topi (fun v5 ev5 => ?_)
  obtain rfl : v5 = nI (2 * y) := by rw [ev5, h2]
  refine lv_istore (lv' := [(5, .int (nI (2 * y))), (3, .long 0), (0, .ref (ad 0)), (1, .int (nI j)), (2, .int (nI y))]) hx hb dX3_countedIn_5 hl (by decide) rfl (fun ls hl => ?_)
  refine lv_iload hx hb dX3_countedIn_7 (lv_at hl 0 rfl) ?_
  refine lv_iconst (v := 2) hx hb dX3_countedIn_9 (by decide) ?_
  refine lv_iload_n hx hb dX3_countedIn_10 rfl (lv_at hl 4 rfl) ?_
  refine lv_imul hx hb dX3_countedIn_11 ?_
  refine lv_iconst (v := 2) hx hb dX3_countedIn_12 (by decide) ?_
  refine lv_iadd hx hb dX3_countedIn_13 ?_
  refine lv_icmp_ge (tgt := 58) hx hb dX3_countedIn_14 (by decide) (fun c14 => ?_) (fun c14 => ?_)
  · exact absurd c14 (by rw [h2, h22]; exact nI_ge (by omega) (by omega))
  · skip
    refine lv_lload_n hx hb dX3_countedIn_17 rfl (lv_at hl 1 rfl) ?_
    refine lv_aload_n hx hb dX3_countedIn_18 rfl (lv_at hl 2 rfl) ?_
    refine va_get (ref := RX3) (v := .ref (ad 15)) hx hb hts wi_X3_countedIn hown hK (sg_one hP (hM.1 0 rfl)) 0 rfl rfl 15 (by decide) (hts (.fieldLink RX3 56 RX3 "bought" "[I") (by decide +kernel)) (fun _ h => h) rfl dX3_countedIn_19 ?_
    refine lv_bipush (v := 10) hx hb dX3_countedIn_22 (by decide) ?_
    refine lv_iload_n hx hb dX3_countedIn_24 rfl (lv_at hl 3 rfl) ?_
    refine lv_imul hx hb dX3_countedIn_25 ?_
    refine lv_iload hx hb dX3_countedIn_26 (lv_at hl 0 rfl) ?_
    refine lv_iadd hx hb dX3_countedIn_28 ?_
    refine va_iald hx hb hK (sg_one hP (hM.1 15 rfl)) 0 0 rfl rfl (by rw [h10, nI_add]; exact vp_in_nI (by omega) (by decide)) dX3_countedIn_29 ?_
    refine lv_i2l hx hb dX3_countedIn_30 rfl ?_
    refine lv_aload_n hx hb dX3_countedIn_31 rfl (lv_at hl 2 rfl) ?_
    refine va_get (ref := RX3) (v := .ref (ad 1)) hx hb hts wi_X3_countedIn hown hK (sg_one hP (hM.1 0 rfl)) 0 rfl rfl 1 (by decide) (hts (.fieldLink RX3 13 RX3 "price" "[I") (by decide +kernel)) (fun _ h => h) rfl dX3_countedIn_32 ?_
    refine lv_aload_n hx hb dX3_countedIn_35 rfl (lv_at hl 2 rfl) ?_
    refine va_get (ref := RX3) (v := .ref (ad 18)) hx hb hts wi_X3_countedIn hown hK (sg_one hP (hM.1 0 rfl)) 0 rfl rfl 18 (by decide) (hts (.fieldLink RX3 65 RX3 "offer" "[I") (by decide +kernel)) (fun _ h => h) rfl dX3_countedIn_36 ?_
    refine lv_bipush (v := 10) hx hb dX3_countedIn_39 (by decide) ?_
    refine lv_iload_n hx hb dX3_countedIn_41 rfl (lv_at hl 3 rfl) ?_
    refine lv_imul hx hb dX3_countedIn_42 ?_
    refine lv_iload hx hb dX3_countedIn_43 (lv_at hl 0 rfl) ?_
    refine lv_iadd hx hb dX3_countedIn_45 ?_
    refine va_iald hx hb hK (sg_one hP (hM.1 18 rfl)) 0 0 rfl rfl (by rw [h10, nI_add]; exact vp_in_nI (by omega) (by decide)) dX3_countedIn_46 ?_
    refine va_iald hx hb hK (sg_one hP (hM.1 1 rfl)) 0 0 rfl rfl (by rw [h10, nI_add, nI_clamp (by omega)]; exact ho _ (by omega)) dX3_countedIn_47 ?_
    refine lv_i2l hx hb dX3_countedIn_48 rfl ?_
    refine lv_lmul hx hb dX3_countedIn_49 ?_
    refine lv_ladd hx hb dX3_countedIn_50 ?_
    refine lv_topl (fun v51 ev51 => ?_)
    refine lv_lstore_n (lv' := [(3, .long v51), (5, .int (nI (2 * y))), (0, .ref (ad 0)), (1, .int (nI j)), (2, .int (nI y))]) hx hb dX3_countedIn_51 rfl hl (by decide) rfl (fun ls hl => ?_)
    obtain ⟨v52, ev52⟩ : ∃ zz9 : Int32, zz9 = (nI (2 * y)) + 1 := ⟨_, rfl⟩
    obtain rfl : v52 = nI (2 * y + 1) := by rw [ev52]; exact nI_1 _
    refine lv_iinc (v := (nI (2 * y + 1))) (lv' := [(5, .int (nI (2 * y + 1))), (3, .long v51), (0, .ref (ad 0)), (1, .int (nI j)), (2, .int (nI y))]) hx hb dX3_countedIn_52 hl (k := 1) rfl (nI_1 _) (by decide) rfl (fun ls hl => ?_)
    refine lv_goto (tgt := 7) hx hb dX3_countedIn_55 (by decide) ?_
    refine lv_iload hx hb dX3_countedIn_7 (lv_at hl 0 rfl) ?_
    refine lv_iconst (v := 2) hx hb dX3_countedIn_9 (by decide) ?_
    refine lv_iload_n hx hb dX3_countedIn_10 rfl (lv_at hl 4 rfl) ?_
    refine lv_imul hx hb dX3_countedIn_11 ?_
    refine lv_iconst (v := 2) hx hb dX3_countedIn_12 (by decide) ?_
    refine lv_iadd hx hb dX3_countedIn_13 ?_
    refine lv_icmp_ge (tgt := 58) hx hb dX3_countedIn_14 (by decide) (fun c14 => ?_) (fun c14 => ?_)
    · exact absurd c14 (by rw [h2, h22]; exact nI_ge (by omega) (by omega))
    · skip
      refine lv_lload_n hx hb dX3_countedIn_17 rfl (lv_at hl 1 rfl) ?_
      refine lv_aload_n hx hb dX3_countedIn_18 rfl (lv_at hl 2 rfl) ?_
      refine va_get (ref := RX3) (v := .ref (ad 15)) hx hb hts wi_X3_countedIn hown hK (sg_one hP (hM.1 0 rfl)) 0 rfl rfl 15 (by decide) (hts (.fieldLink RX3 56 RX3 "bought" "[I") (by decide +kernel)) (fun _ h => h) rfl dX3_countedIn_19 ?_
      refine lv_bipush (v := 10) hx hb dX3_countedIn_22 (by decide) ?_
      refine lv_iload_n hx hb dX3_countedIn_24 rfl (lv_at hl 3 rfl) ?_
      refine lv_imul hx hb dX3_countedIn_25 ?_
      refine lv_iload hx hb dX3_countedIn_26 (lv_at hl 0 rfl) ?_
      refine lv_iadd hx hb dX3_countedIn_28 ?_
      refine va_iald hx hb hK (sg_one hP (hM.1 15 rfl)) 0 0 rfl rfl (by rw [h10, nI_add]; exact vp_in_nI (by omega) (by decide)) dX3_countedIn_29 ?_
      refine lv_i2l hx hb dX3_countedIn_30 rfl ?_
      refine lv_aload_n hx hb dX3_countedIn_31 rfl (lv_at hl 2 rfl) ?_
      refine va_get (ref := RX3) (v := .ref (ad 1)) hx hb hts wi_X3_countedIn hown hK (sg_one hP (hM.1 0 rfl)) 0 rfl rfl 1 (by decide) (hts (.fieldLink RX3 13 RX3 "price" "[I") (by decide +kernel)) (fun _ h => h) rfl dX3_countedIn_32 ?_
      refine lv_aload_n hx hb dX3_countedIn_35 rfl (lv_at hl 2 rfl) ?_
      refine va_get (ref := RX3) (v := .ref (ad 18)) hx hb hts wi_X3_countedIn hown hK (sg_one hP (hM.1 0 rfl)) 0 rfl rfl 18 (by decide) (hts (.fieldLink RX3 65 RX3 "offer" "[I") (by decide +kernel)) (fun _ h => h) rfl dX3_countedIn_36 ?_
      refine lv_bipush (v := 10) hx hb dX3_countedIn_39 (by decide) ?_
      refine lv_iload_n hx hb dX3_countedIn_41 rfl (lv_at hl 3 rfl) ?_
      refine lv_imul hx hb dX3_countedIn_42 ?_
      refine lv_iload hx hb dX3_countedIn_43 (lv_at hl 0 rfl) ?_
      refine lv_iadd hx hb dX3_countedIn_45 ?_
      refine va_iald hx hb hK (sg_one hP (hM.1 18 rfl)) 0 0 rfl rfl (by rw [h10, nI_add]; exact vp_in_nI (by omega) (by decide)) dX3_countedIn_46 ?_
      refine va_iald hx hb hK (sg_one hP (hM.1 1 rfl)) 0 0 rfl rfl (by rw [h10, nI_add, nI_clamp (by omega)]; exact ho _ (by omega)) dX3_countedIn_47 ?_
      refine lv_i2l hx hb dX3_countedIn_48 rfl ?_
      refine lv_lmul hx hb dX3_countedIn_49 ?_
      refine lv_ladd hx hb dX3_countedIn_50 ?_
      refine lv_topl (fun v51 ev51 => ?_)
      refine lv_lstore_n (lv' := [(3, .long v51), (5, .int (nI (2 * y + 1))), (0, .ref (ad 0)), (1, .int (nI j)), (2, .int (nI y))]) hx hb dX3_countedIn_51 rfl hl (by decide) rfl (fun ls hl => ?_)
      obtain ⟨v52, ev52⟩ : ∃ zz9 : Int32, zz9 = (nI (2 * y + 1)) + 1 := ⟨_, rfl⟩
      obtain rfl : v52 = nI (2 * y + 2) := by rw [ev52]; exact nI_1 _
      refine lv_iinc (v := (nI (2 * y + 2))) (lv' := [(5, .int (nI (2 * y + 2))), (3, .long v51), (0, .ref (ad 0)), (1, .int (nI j)), (2, .int (nI y))]) hx hb dX3_countedIn_52 hl (k := 1) rfl (nI_1 _) (by decide) rfl (fun ls hl => ?_)
      refine lv_goto (tgt := 7) hx hb dX3_countedIn_55 (by decide) ?_
      refine lv_iload hx hb dX3_countedIn_7 (lv_at hl 0 rfl) ?_
      refine lv_iconst (v := 2) hx hb dX3_countedIn_9 (by decide) ?_
      refine lv_iload_n hx hb dX3_countedIn_10 rfl (lv_at hl 4 rfl) ?_
      refine lv_imul hx hb dX3_countedIn_11 ?_
      refine lv_iconst (v := 2) hx hb dX3_countedIn_12 (by decide) ?_
      refine lv_iadd hx hb dX3_countedIn_13 ?_
      refine lv_icmp_ge (tgt := 58) hx hb dX3_countedIn_14 (by decide) (fun c14 => ?_) (fun c14 => ?_)
      · skip
        refine lv_lload_n hx hb dX3_countedIn_58 rfl (lv_at hl 1 rfl) ?_
        exact sg_lret hx hb hr hlocks hP hD hS (Nat.le_of_ble_eq_true rfl) (Nat.le_of_ble_eq_true rfl) dX3_countedIn_59 (⟨by grind -ring [cN, tm], rfl⟩)
      · exact absurd (by rw [h2, h22]; exact nI_le (by omega) (by omega)) c14

theorem wi_X3_sharesOf : ∀ w ∈ wsX30, w ∈ wsX3_sharesOf := by decide +kernel
set_option maxHeartbeats 4000000 in
set_option maxRecDepth 100000 in
theorem c_X3_sharesOf (l : Launch) (D : va_G) (Y : Nat → ClassId) (σ : sg_W) (sz : Nat) (ad : Nat → Nat) (M : MS) (j : Nat) (hj : j < 6) (hM : MW Y ad M σ) : Met l yX3_sharesOf wsX3_sharesOf ({ frames := 0, cells := 0, slots := 0, locals := 0 } : Room) (va_Pc [.ref (ad 0), .int (nI j)] (sg_U D Y σ sz)) (va_Qi (fun r σ' => r = sH M j 10 ∧ σ = σ') (sg_B D σ sz) (sg_A σ sz)) 0 0 (sg_A σ sz) := by
  refine sg_met (cc := cX3_sharesOf) (maxL := 4) (ret := (some .int)) (by decide) rfl (Nat.le_of_ble_eq_true rfl) ?_
  intro p e s m below meth c ls hx hb hml hr hown hts hlocks hnm hP hK hD hN hX hA hS hsz hl
  have hl : lv_has ls 4 [(0, .ref (ad 0)), (1, .int (nI j))] := hl
  have h10 : 10 * nI j = nI (10 * j) := pk_mul 10 j
  have h1010 : nI (10 * j) + 10 = nI (10 * j + 10) := nI_add _ 10
  refine lv_iconst (v := 0) hx hb dX3_sharesOf_0 (by decide) ?_
  refine lv_istore_n (lv' := [(2, .int 0), (0, .ref (ad 0)), (1, .int (nI j))]) hx hb dX3_sharesOf_1 rfl hl (by decide) rfl (fun ls hl => ?_)
  refine lv_bipush (v := 10) hx hb dX3_sharesOf_2 (by decide) ?_
  refine lv_iload_n hx hb dX3_sharesOf_4 rfl (lv_at hl 2 rfl) ?_
  refine lv_imul hx hb dX3_sharesOf_5 ?_
  refine lv_topi (fun v6 ev6 => ?_)
  obtain rfl : v6 = nI (10 * j + 0) := by rw [ev6, h10]; rfl
  refine lv_istore_n (lv' := [(3, .int (nI (10 * j + 0))), (2, .int 0), (0, .ref (ad 0)), (1, .int (nI j))]) hx hb dX3_sharesOf_6 rfl hl (by decide) rfl (fun ls hl => ?_)
  refine sg_loop (D := D) (H0 := s.heap) (T := Nat) 7 4 (fun n t σ' c' s' => n + t = 10 ∧ σ = σ' ∧ c' = 0 ∧ s' = 0) (fun t => [(3, .int (nI (10 * j + t))), (2, .int (sH M j t)), (0, .ref (ad 0)), (1, .int (nI j))]) ?_ (10) (0) _ _ _ _ _ _ ?_ hP hD hS (lv_sub hl [0, 1, 2, 3] rfl)
  · intro n t σ' cells slots H locs ls ih hI hP hD hS hl
    obtain ⟨q, rfl⟩ : ∃ q, q = t := ⟨_, rfl⟩
    obtain ⟨hn, rfl, rfl, rfl⟩ := hI
    have hl : lv_has ls 4 [(3, .int (nI (10 * j + q))), (2, .int (sH M j q)), (0, .ref (ad 0)), (1, .int (nI j))] := hl
    refine lv_iload_n hx hb dX3_sharesOf_7 rfl (lv_at hl 0 rfl) ?_
    refine lv_bipush (v := 10) hx hb dX3_sharesOf_8 (by decide) ?_
    refine lv_iload_n hx hb dX3_sharesOf_10 rfl (lv_at hl 3 rfl) ?_
    refine lv_imul hx hb dX3_sharesOf_11 ?_
    refine lv_bipush (v := 10) hx hb dX3_sharesOf_12 (by decide) ?_
    refine lv_iadd hx hb dX3_sharesOf_14 ?_
    refine lv_icmp_ge (tgt := 33) hx hb dX3_sharesOf_15 (by decide) (fun c15 => ?_) (fun c15 => ?_)
    · skip
      rw [h10, h1010, nI_leI (by omega) (by omega)] at c15
      obtain rfl : q = 10 := by omega
      refine lv_iload_n hx hb dX3_sharesOf_33 rfl (lv_at hl 1 rfl) ?_
      exact sg_iret hx hb hr rfl hlocks hP hD hS (Nat.le_of_ble_eq_true rfl) (Nat.le_of_ble_eq_true rfl) dX3_sharesOf_34 (⟨rfl, rfl⟩)
    · skip
      rw [h10, h1010, nI_leI (by omega) (by omega)] at c15
      refine lv_iload_n hx hb dX3_sharesOf_18 rfl (lv_at hl 1 rfl) ?_
      refine lv_aload_n hx hb dX3_sharesOf_19 rfl (lv_at hl 2 rfl) ?_
      refine va_get (ref := RX3) (v := .ref (ad 16)) hx hb hts wi_X3_sharesOf hown hK (sg_one hP (hM.1 0 rfl)) 0 rfl rfl 16 (by decide) (hts (.fieldLink RX3 59 RX3 "had" "[I") (by decide +kernel)) (fun _ h => h) rfl dX3_sharesOf_20 ?_
      refine lv_iload_n hx hb dX3_sharesOf_23 rfl (lv_at hl 0 rfl) ?_
      refine va_iald hx hb hK (sg_one hP (hM.1 16 rfl)) 0 0 rfl rfl (vp_in_nI (by omega) (by decide)) dX3_sharesOf_24 ?_
      refine lv_iadd hx hb dX3_sharesOf_25 ?_
      refine lv_topi (fun v26 ev26 => ?_)
      obtain rfl : v26 = sH M j (q + 1) := by rw [ev26, nI_clamp (by omega)]; rfl
      refine lv_istore_n (lv' := [(2, .int (sH M j (q + 1))), (3, .int (nI (10 * j + q))), (0, .ref (ad 0)), (1, .int (nI j))]) hx hb dX3_sharesOf_26 rfl hl (by decide) rfl (fun ls hl => ?_)
      obtain ⟨v27, ev27⟩ : ∃ zz9 : Int32, zz9 = (nI (10 * j + q)) + 1 := ⟨_, rfl⟩
      obtain rfl : v27 = nI (10 * j + (q + 1)) := by rw [ev27]; exact nI_1 _
      refine lv_iinc (v := (nI (10 * j + (q + 1)))) (lv' := [(3, .int (nI (10 * j + (q + 1)))), (2, .int (sH M j (q + 1))), (0, .ref (ad 0)), (1, .int (nI j))]) hx hb dX3_sharesOf_27 hl (k := 1) rfl (nI_1 _) (by decide) rfl (fun ls hl => ?_)
      refine lv_goto (tgt := 7) hx hb dX3_sharesOf_30 (by decide) ?_
      exact ih (n - 1) (q + 1) _ _ _ _ _ _ (by omega) ⟨by omega, rfl, rfl, rfl⟩ hP hD hS (lv_sub hl [0, 1, 2, 3] rfl)
  · exact ⟨rfl, rfl, rfl, rfl⟩
end
section
theorem xI_uS {M : MS} {j i x : Nat} {v : Int32} : sI (uS M j v) i x = sI M i x := rfl
theorem xL_uS {M : MS} {j i x : Nat} {v : Int32} : sL (uS M j v) i x = sL M i x := rfl
theorem xL_uI {M : MS} {j k i x : Nat} {v : Int32} : sL (uI M j k v) i x = sL M i x := rfl
theorem xI_uL {M : MS} {j k i x : Nat} {v : Int64} : sI (uL M j k v) i x = sI M i x := rfl
theorem xI_uI {M : MS} {j k i x : Nat} {v : Int32} : sI (uI M j k v) i x = if i = j ∧ x = k then v else sI M i x := by
  by_cases h : i = j
  · subst h; simp [sI_uI, upd_at]
  · simp [sI_uI, h]
theorem xL_uL {M : MS} {j k i x : Nat} {v : Int64} : sL (uL M j k v) i x = if i = j ∧ x = k then v else sL M i x := by
  by_cases h : i = j
  · subst h; simp [sL_uL, updL_at]
  · simp [sL_uL, h]
theorem sH_uS {M : MS} {j n k : Nat} {v : Int32} : sH (uS M n v) j k = sH M j k := by
  induction k with
  | zero => rfl
  | succ k ih => simp only [sH, ih, sI_uS]
theorem wi_X3_money : ∀ w ∈ wsX30, w ∈ wsX3_money := by decide +kernel
set_option maxHeartbeats 4000000 in
set_option maxRecDepth 100000 in
theorem c_X3_money (l : Launch) (D : va_G) (Y : Nat → ClassId) (σ : sg_W) (sz : Nat) (ad : Nat → Nat) (M : MS) (i : Int32) (h6 : mem6 M) (hM : MW Y ad M σ) : Met l yX3_money wsX3_money ({ frames := 2, cells := 0, slots := 0, locals := 43 } : Room) (va_Pc [.ref (ad 0), .int i] (sg_U D Y σ sz)) (va_Qi (fun r σ' => (tMem M i = 0 → r = sI M 6 (tN i)) ∧ MF Y ad σ (uS M 19 (tMem M i)) σ') (sg_B D σ sz) (sg_A σ sz)) 0 0 (sg_A σ sz) := by
  refine sg_met (cc := cX3_money) (maxL := 2) (ret := (some .int)) (by decide) rfl (Nat.le_of_ble_eq_true rfl) ?_
  intro p e s m below meth c ls hx hb hml hr hown hts hlocks hnm hP hK hD hN hX hA hS hsz hl
  have hl : lv_has ls 2 [(0, .ref (ad 0)), (1, .int i)] := hl
  refine lv_aload_n hx hb dX3_money_0 rfl (lv_at hl 0 rfl) ?_
  refine lv_aload_n hx hb dX3_money_1 rfl (lv_at hl 0 rfl) ?_
  refine lv_iload_n hx hb dX3_money_2 rfl (lv_at hl 1 rfl) ?_
  refine sg_calli hD hS hA (va_runV (As := [.int i]) (rest := [.ref (ad 0)]) ⟨hx, hb, hml, hown, hts⟩ (c_X3_isMember l D Y _ _ ad M i hM.self) (cwV 1 hts gX3_money_X3_isMember rfl rfl rfl (by decide +kernel) ⟨Nat.le_of_ble_eq_true rfl, Nat.le_of_ble_eq_true rfl⟩) (sg_preV (q := (RX3, TX3, 20)) (hM.1 0 rfl) rfl hK hP hD hN hX hS hA) rfl rfl hl.1 rfl (lv_room (Nat.le_of_ble_eq_true rfl)) dX3_money_3 ⟨Nat.le_of_ble_eq_true rfl, Nat.le_of_ble_eq_true rfl⟩) (fun r3 σ' H locs hw hP hD hS => ?_)
  obtain ⟨rfl, rfl⟩ := hw
  refine sg_calli hD hS hA (va_runV (As := [.int (bI (qM M i))]) (rest := []) ⟨hx, hb, hml, hown, hts⟩ (c_X3_may l D Y _ _ ad M ((bI (qM M i))) (bI_01) hM.self) (cwV 1 hts gX3_money_X3_may rfl rfl rfl (by decide +kernel) ⟨Nat.le_of_ble_eq_true rfl, Nat.le_of_ble_eq_true rfl⟩) (sg_preV (q := (RX3, TX3, 20)) (hM.1 0 rfl) rfl hK hP hD hN hX hS hA) rfl rfl hl.1 rfl (lv_room (Nat.le_of_ble_eq_true rfl)) dX3_money_6 ⟨Nat.le_of_ble_eq_true rfl, Nat.le_of_ble_eq_true rfl⟩) (fun r6 σ' H locs hw hP hD hS => ?_)
  obtain ⟨rfl, hw⟩ := hw
  have hM := hM.trans hw
  refine lv_if_eq (tgt := 21) hx hb dX3_money_9 (by decide) (fun c9 => ?_) (fun c9 => ?_)
  · skip
    refine lv_iconst (v := 0) hx hb dX3_money_21 (by decide) ?_
    exact sg_iret hx hb hr rfl hlocks hP hD hS (Nat.le_of_ble_eq_true rfl) (Nat.le_of_ble_eq_true rfl) dX3_money_22 (⟨by grind [tMem, t1, bI, xI_uS, xL_uS], hM⟩)
  · skip
    refine lv_aload_n hx hb dX3_money_12 rfl (lv_at hl 0 rfl) ?_
    refine va_get (ref := RX3) (v := .ref (ad 6)) hx hb hts wi_X3_money hown hK (sg_one hP (hM.1 0 rfl)) 0 rfl rfl 6 (by decide) (hts (.fieldLink RX3 28 RX3 "money" "[I") (by decide +kernel)) (fun _ h => h) rfl dX3_money_13 ?_
    refine lv_iload_n hx hb dX3_money_16 rfl (lv_at hl 1 rfl) ?_
    refine va_iald hx hb hK (sg_one hP (hM.1 6 rfl)) 0 0 rfl rfl (qM_in h6 (by grind [bI])) dX3_money_17 ?_
    refine lv_goto (tgt := 22) hx hb dX3_money_18 (by decide) ?_
    exact sg_iret hx hb hr rfl hlocks hP hD hS (Nat.le_of_ble_eq_true rfl) (Nat.le_of_ble_eq_true rfl) dX3_money_22 (⟨by grind [tMem, t1, bI, xI_uS, xL_uS], hM⟩)

theorem wi_X3_offerMonth : ∀ w ∈ wsX30, w ∈ wsX3_offerMonth := by decide +kernel
set_option maxHeartbeats 4000000 in
set_option maxRecDepth 100000 in
theorem c_X3_offerMonth (l : Launch) (D : va_G) (Y : Nat → ClassId) (σ : sg_W) (sz : Nat) (ad : Nat → Nat) (M : MS) (i : Int32) (h6 : mem6 M) (hM : MW Y ad M σ) : Met l yX3_offerMonth wsX3_offerMonth ({ frames := 2, cells := 0, slots := 0, locals := 43 } : Room) (va_Pc [.ref (ad 0), .int i] (sg_U D Y σ sz)) (va_Qi (fun r σ' => (tMem M i = 0 → r = sI M 10 (tN i)) ∧ MF Y ad σ (uS M 19 (tMem M i)) σ') (sg_B D σ sz) (sg_A σ sz)) 0 0 (sg_A σ sz) := by
  refine sg_met (cc := cX3_offerMonth) (maxL := 2) (ret := (some .int)) (by decide) rfl (Nat.le_of_ble_eq_true rfl) ?_
  intro p e s m below meth c ls hx hb hml hr hown hts hlocks hnm hP hK hD hN hX hA hS hsz hl
  have hl : lv_has ls 2 [(0, .ref (ad 0)), (1, .int i)] := hl
  refine lv_aload_n hx hb dX3_offerMonth_0 rfl (lv_at hl 0 rfl) ?_
  refine lv_aload_n hx hb dX3_offerMonth_1 rfl (lv_at hl 0 rfl) ?_
  refine lv_iload_n hx hb dX3_offerMonth_2 rfl (lv_at hl 1 rfl) ?_
  refine sg_calli hD hS hA (va_runV (As := [.int i]) (rest := [.ref (ad 0)]) ⟨hx, hb, hml, hown, hts⟩ (c_X3_isMember l D Y _ _ ad M i hM.self) (cwV 1 hts gX3_offerMonth_X3_isMember rfl rfl rfl (by decide +kernel) ⟨Nat.le_of_ble_eq_true rfl, Nat.le_of_ble_eq_true rfl⟩) (sg_preV (q := (RX3, TX3, 20)) (hM.1 0 rfl) rfl hK hP hD hN hX hS hA) rfl rfl hl.1 rfl (lv_room (Nat.le_of_ble_eq_true rfl)) dX3_offerMonth_3 ⟨Nat.le_of_ble_eq_true rfl, Nat.le_of_ble_eq_true rfl⟩) (fun r3 σ' H locs hw hP hD hS => ?_)
  obtain ⟨rfl, rfl⟩ := hw
  refine sg_calli hD hS hA (va_runV (As := [.int (bI (qM M i))]) (rest := []) ⟨hx, hb, hml, hown, hts⟩ (c_X3_may l D Y _ _ ad M ((bI (qM M i))) (bI_01) hM.self) (cwV 1 hts gX3_offerMonth_X3_may rfl rfl rfl (by decide +kernel) ⟨Nat.le_of_ble_eq_true rfl, Nat.le_of_ble_eq_true rfl⟩) (sg_preV (q := (RX3, TX3, 20)) (hM.1 0 rfl) rfl hK hP hD hN hX hS hA) rfl rfl hl.1 rfl (lv_room (Nat.le_of_ble_eq_true rfl)) dX3_offerMonth_6 ⟨Nat.le_of_ble_eq_true rfl, Nat.le_of_ble_eq_true rfl⟩) (fun r6 σ' H locs hw hP hD hS => ?_)
  obtain ⟨rfl, hw⟩ := hw
  have hM := hM.trans hw
  refine lv_if_eq (tgt := 21) hx hb dX3_offerMonth_9 (by decide) (fun c9 => ?_) (fun c9 => ?_)
  · skip
    refine lv_iconst (v := 0) hx hb dX3_offerMonth_21 (by decide) ?_
    exact sg_iret hx hb hr rfl hlocks hP hD hS (Nat.le_of_ble_eq_true rfl) (Nat.le_of_ble_eq_true rfl) dX3_offerMonth_22 (⟨by grind [tMem, t1, bI, xI_uS, xL_uS], hM⟩)
  · skip
    refine lv_aload_n hx hb dX3_offerMonth_12 rfl (lv_at hl 0 rfl) ?_
    refine va_get (ref := RX3) (v := .ref (ad 10)) hx hb hts wi_X3_offerMonth hown hK (sg_one hP (hM.1 0 rfl)) 0 rfl rfl 10 (by decide) (hts (.fieldLink RX3 41 RX3 "first" "[I") (by decide +kernel)) (fun _ h => h) rfl dX3_offerMonth_13 ?_
    refine lv_iload_n hx hb dX3_offerMonth_16 rfl (lv_at hl 1 rfl) ?_
    refine va_iald hx hb hK (sg_one hP (hM.1 10 rfl)) 0 0 rfl rfl (qM_in h6 (by grind [bI])) dX3_offerMonth_17 ?_
    refine lv_goto (tgt := 22) hx hb dX3_offerMonth_18 (by decide) ?_
    exact sg_iret hx hb hr rfl hlocks hP hD hS (Nat.le_of_ble_eq_true rfl) (Nat.le_of_ble_eq_true rfl) dX3_offerMonth_22 (⟨by grind [tMem, t1, bI, xI_uS, xL_uS], hM⟩)

theorem wi_X3_resets : ∀ w ∈ wsX30, w ∈ wsX3_resets := by decide +kernel
set_option maxHeartbeats 4000000 in
set_option maxRecDepth 100000 in
theorem c_X3_resets (l : Launch) (D : va_G) (Y : Nat → ClassId) (σ : sg_W) (sz : Nat) (ad : Nat → Nat) (M : MS) (i : Int32) (h6 : mem6 M) (hM : MW Y ad M σ) : Met l yX3_resets wsX3_resets ({ frames := 2, cells := 0, slots := 0, locals := 43 } : Room) (va_Pc [.ref (ad 0), .int i] (sg_U D Y σ sz)) (va_Qi (fun r σ' => (tMem M i = 0 → r = sI M 12 (tN i)) ∧ MF Y ad σ (uS M 19 (tMem M i)) σ') (sg_B D σ sz) (sg_A σ sz)) 0 0 (sg_A σ sz) := by
  refine sg_met (cc := cX3_resets) (maxL := 2) (ret := (some .int)) (by decide) rfl (Nat.le_of_ble_eq_true rfl) ?_
  intro p e s m below meth c ls hx hb hml hr hown hts hlocks hnm hP hK hD hN hX hA hS hsz hl
  have hl : lv_has ls 2 [(0, .ref (ad 0)), (1, .int i)] := hl
  refine lv_aload_n hx hb dX3_resets_0 rfl (lv_at hl 0 rfl) ?_
  refine lv_aload_n hx hb dX3_resets_1 rfl (lv_at hl 0 rfl) ?_
  refine lv_iload_n hx hb dX3_resets_2 rfl (lv_at hl 1 rfl) ?_
  refine sg_calli hD hS hA (va_runV (As := [.int i]) (rest := [.ref (ad 0)]) ⟨hx, hb, hml, hown, hts⟩ (c_X3_isMember l D Y _ _ ad M i hM.self) (cwV 1 hts gX3_resets_X3_isMember rfl rfl rfl (by decide +kernel) ⟨Nat.le_of_ble_eq_true rfl, Nat.le_of_ble_eq_true rfl⟩) (sg_preV (q := (RX3, TX3, 20)) (hM.1 0 rfl) rfl hK hP hD hN hX hS hA) rfl rfl hl.1 rfl (lv_room (Nat.le_of_ble_eq_true rfl)) dX3_resets_3 ⟨Nat.le_of_ble_eq_true rfl, Nat.le_of_ble_eq_true rfl⟩) (fun r3 σ' H locs hw hP hD hS => ?_)
  obtain ⟨rfl, rfl⟩ := hw
  refine sg_calli hD hS hA (va_runV (As := [.int (bI (qM M i))]) (rest := []) ⟨hx, hb, hml, hown, hts⟩ (c_X3_may l D Y _ _ ad M ((bI (qM M i))) (bI_01) hM.self) (cwV 1 hts gX3_resets_X3_may rfl rfl rfl (by decide +kernel) ⟨Nat.le_of_ble_eq_true rfl, Nat.le_of_ble_eq_true rfl⟩) (sg_preV (q := (RX3, TX3, 20)) (hM.1 0 rfl) rfl hK hP hD hN hX hS hA) rfl rfl hl.1 rfl (lv_room (Nat.le_of_ble_eq_true rfl)) dX3_resets_6 ⟨Nat.le_of_ble_eq_true rfl, Nat.le_of_ble_eq_true rfl⟩) (fun r6 σ' H locs hw hP hD hS => ?_)
  obtain ⟨rfl, hw⟩ := hw
  have hM := hM.trans hw
  refine lv_if_eq (tgt := 21) hx hb dX3_resets_9 (by decide) (fun c9 => ?_) (fun c9 => ?_)
  · skip
    refine lv_iconst (v := 0) hx hb dX3_resets_21 (by decide) ?_
    exact sg_iret hx hb hr rfl hlocks hP hD hS (Nat.le_of_ble_eq_true rfl) (Nat.le_of_ble_eq_true rfl) dX3_resets_22 (⟨by grind [tMem, t1, bI, xI_uS, xL_uS], hM⟩)
  · skip
    refine lv_aload_n hx hb dX3_resets_12 rfl (lv_at hl 0 rfl) ?_
    refine va_get (ref := RX3) (v := .ref (ad 12)) hx hb hts wi_X3_resets hown hK (sg_one hP (hM.1 0 rfl)) 0 rfl rfl 12 (by decide) (hts (.fieldLink RX3 47 RX3 "resets" "[I") (by decide +kernel)) (fun _ h => h) rfl dX3_resets_13 ?_
    refine lv_iload_n hx hb dX3_resets_16 rfl (lv_at hl 1 rfl) ?_
    refine va_iald hx hb hK (sg_one hP (hM.1 12 rfl)) 0 0 rfl rfl (qM_in h6 (by grind [bI])) dX3_resets_17 ?_
    refine lv_goto (tgt := 22) hx hb dX3_resets_18 (by decide) ?_
    exact sg_iret hx hb hr rfl hlocks hP hD hS (Nat.le_of_ble_eq_true rfl) (Nat.le_of_ble_eq_true rfl) dX3_resets_22 (⟨by grind [tMem, t1, bI, xI_uS, xL_uS], hM⟩)

theorem wi_X3_kept : ∀ w ∈ wsX30, w ∈ wsX3_kept := by decide +kernel
set_option maxHeartbeats 4000000 in
set_option maxRecDepth 100000 in
theorem c_X3_kept (l : Launch) (D : va_G) (Y : Nat → ClassId) (σ : sg_W) (sz : Nat) (ad : Nat → Nat) (M : MS) (i : Int32) (h6 : mem6 M) (hM : MW Y ad M σ) : Met l yX3_kept wsX3_kept ({ frames := 2, cells := 0, slots := 0, locals := 43 } : Room) (va_Pc [.ref (ad 0), .int i] (sg_U D Y σ sz)) (va_Ql (fun r σ' => (tMem M i = 0 → r = sL M 9 (tN i)) ∧ MF Y ad σ (uS M 19 (tMem M i)) σ') (sg_B D σ sz) (sg_A σ sz)) 0 0 (sg_A σ sz) := by
  refine sg_met (cc := cX3_kept) (maxL := 2) (ret := (some .long)) (by decide) rfl (Nat.le_of_ble_eq_true rfl) ?_
  intro p e s m below meth c ls hx hb hml hr hown hts hlocks hnm hP hK hD hN hX hA hS hsz hl
  have hl : lv_has ls 2 [(0, .ref (ad 0)), (1, .int i)] := hl
  refine lv_aload_n hx hb dX3_kept_0 rfl (lv_at hl 0 rfl) ?_
  refine lv_aload_n hx hb dX3_kept_1 rfl (lv_at hl 0 rfl) ?_
  refine lv_iload_n hx hb dX3_kept_2 rfl (lv_at hl 1 rfl) ?_
  refine sg_calli hD hS hA (va_runV (As := [.int i]) (rest := [.ref (ad 0)]) ⟨hx, hb, hml, hown, hts⟩ (c_X3_isMember l D Y _ _ ad M i hM.self) (cwV 1 hts gX3_kept_X3_isMember rfl rfl rfl (by decide +kernel) ⟨Nat.le_of_ble_eq_true rfl, Nat.le_of_ble_eq_true rfl⟩) (sg_preV (q := (RX3, TX3, 20)) (hM.1 0 rfl) rfl hK hP hD hN hX hS hA) rfl rfl hl.1 rfl (lv_room (Nat.le_of_ble_eq_true rfl)) dX3_kept_3 ⟨Nat.le_of_ble_eq_true rfl, Nat.le_of_ble_eq_true rfl⟩) (fun r3 σ' H locs hw hP hD hS => ?_)
  obtain ⟨rfl, rfl⟩ := hw
  refine sg_calli hD hS hA (va_runV (As := [.int (bI (qM M i))]) (rest := []) ⟨hx, hb, hml, hown, hts⟩ (c_X3_may l D Y _ _ ad M ((bI (qM M i))) (bI_01) hM.self) (cwV 1 hts gX3_kept_X3_may rfl rfl rfl (by decide +kernel) ⟨Nat.le_of_ble_eq_true rfl, Nat.le_of_ble_eq_true rfl⟩) (sg_preV (q := (RX3, TX3, 20)) (hM.1 0 rfl) rfl hK hP hD hN hX hS hA) rfl rfl hl.1 rfl (lv_room (Nat.le_of_ble_eq_true rfl)) dX3_kept_6 ⟨Nat.le_of_ble_eq_true rfl, Nat.le_of_ble_eq_true rfl⟩) (fun r6 σ' H locs hw hP hD hS => ?_)
  obtain ⟨rfl, hw⟩ := hw
  have hM := hM.trans hw
  refine lv_if_eq (tgt := 21) hx hb dX3_kept_9 (by decide) (fun c9 => ?_) (fun c9 => ?_)
  · skip
    refine lv_lconst (v := 0) hx hb dX3_kept_21 (by decide) ?_
    exact sg_lret hx hb hr hlocks hP hD hS (Nat.le_of_ble_eq_true rfl) (Nat.le_of_ble_eq_true rfl) dX3_kept_22 (⟨by grind [tMem, t1, bI, xI_uS, xL_uS], hM⟩)
  · skip
    refine lv_aload_n hx hb dX3_kept_12 rfl (lv_at hl 0 rfl) ?_
    refine va_get (ref := RX3) (v := .ref (ad 9)) hx hb hts wi_X3_kept hown hK (sg_one hP (hM.1 0 rfl)) 0 rfl rfl 9 (by decide) (hts (.fieldLink RX3 38 RX3 "kept" "[J") (by decide +kernel)) (fun _ h => h) rfl dX3_kept_13 ?_
    refine lv_iload_n hx hb dX3_kept_16 rfl (lv_at hl 1 rfl) ?_
    refine va_lald hx hb hK (sg_one hP (hM.1 9 rfl)) 0 1 rfl rfl (qM_in h6 (by grind [bI])) dX3_kept_17 ?_
    refine lv_goto (tgt := 22) hx hb dX3_kept_18 (by decide) ?_
    exact sg_lret hx hb hr hlocks hP hD hS (Nat.le_of_ble_eq_true rfl) (Nat.le_of_ble_eq_true rfl) dX3_kept_22 (⟨by grind [tMem, t1, bI, xI_uS, xL_uS], hM⟩)

theorem wi_X3_pay : ∀ w ∈ wsX30, w ∈ wsX3_pay := by decide +kernel
set_option maxHeartbeats 4000000 in
set_option maxRecDepth 100000 in
theorem c_X3_pay (l : Launch) (D : va_G) (Y : Nat → ClassId) (σ : sg_W) (sz : Nat) (ad : Nat → Nat) (M : MS) (i : Int32) (h6 : mem6 M) (hM : MW Y ad M σ) : Met l yX3_pay wsX3_pay ({ frames := 2, cells := 0, slots := 0, locals := 43 } : Room) (va_Pc [.ref (ad 0), .int i] (sg_U D Y σ sz)) (va_Ql (fun r σ' => (tMem M i = 0 → r = sL M 13 (tN i)) ∧ MF Y ad σ (uS M 19 (tMem M i)) σ') (sg_B D σ sz) (sg_A σ sz)) 0 0 (sg_A σ sz) := by
  refine sg_met (cc := cX3_pay) (maxL := 2) (ret := (some .long)) (by decide) rfl (Nat.le_of_ble_eq_true rfl) ?_
  intro p e s m below meth c ls hx hb hml hr hown hts hlocks hnm hP hK hD hN hX hA hS hsz hl
  have hl : lv_has ls 2 [(0, .ref (ad 0)), (1, .int i)] := hl
  refine lv_aload_n hx hb dX3_pay_0 rfl (lv_at hl 0 rfl) ?_
  refine lv_aload_n hx hb dX3_pay_1 rfl (lv_at hl 0 rfl) ?_
  refine lv_iload_n hx hb dX3_pay_2 rfl (lv_at hl 1 rfl) ?_
  refine sg_calli hD hS hA (va_runV (As := [.int i]) (rest := [.ref (ad 0)]) ⟨hx, hb, hml, hown, hts⟩ (c_X3_isMember l D Y _ _ ad M i hM.self) (cwV 1 hts gX3_pay_X3_isMember rfl rfl rfl (by decide +kernel) ⟨Nat.le_of_ble_eq_true rfl, Nat.le_of_ble_eq_true rfl⟩) (sg_preV (q := (RX3, TX3, 20)) (hM.1 0 rfl) rfl hK hP hD hN hX hS hA) rfl rfl hl.1 rfl (lv_room (Nat.le_of_ble_eq_true rfl)) dX3_pay_3 ⟨Nat.le_of_ble_eq_true rfl, Nat.le_of_ble_eq_true rfl⟩) (fun r3 σ' H locs hw hP hD hS => ?_)
  obtain ⟨rfl, rfl⟩ := hw
  refine sg_calli hD hS hA (va_runV (As := [.int (bI (qM M i))]) (rest := []) ⟨hx, hb, hml, hown, hts⟩ (c_X3_may l D Y _ _ ad M ((bI (qM M i))) (bI_01) hM.self) (cwV 1 hts gX3_pay_X3_may rfl rfl rfl (by decide +kernel) ⟨Nat.le_of_ble_eq_true rfl, Nat.le_of_ble_eq_true rfl⟩) (sg_preV (q := (RX3, TX3, 20)) (hM.1 0 rfl) rfl hK hP hD hN hX hS hA) rfl rfl hl.1 rfl (lv_room (Nat.le_of_ble_eq_true rfl)) dX3_pay_6 ⟨Nat.le_of_ble_eq_true rfl, Nat.le_of_ble_eq_true rfl⟩) (fun r6 σ' H locs hw hP hD hS => ?_)
  obtain ⟨rfl, hw⟩ := hw
  have hM := hM.trans hw
  refine lv_if_eq (tgt := 21) hx hb dX3_pay_9 (by decide) (fun c9 => ?_) (fun c9 => ?_)
  · skip
    refine lv_lconst (v := 0) hx hb dX3_pay_21 (by decide) ?_
    exact sg_lret hx hb hr hlocks hP hD hS (Nat.le_of_ble_eq_true rfl) (Nat.le_of_ble_eq_true rfl) dX3_pay_22 (⟨by grind [tMem, t1, bI, xI_uS, xL_uS], hM⟩)
  · skip
    refine lv_aload_n hx hb dX3_pay_12 rfl (lv_at hl 0 rfl) ?_
    refine va_get (ref := RX3) (v := .ref (ad 13)) hx hb hts wi_X3_pay hown hK (sg_one hP (hM.1 0 rfl)) 0 rfl rfl 13 (by decide) (hts (.fieldLink RX3 50 RX3 "pay" "[J") (by decide +kernel)) (fun _ h => h) rfl dX3_pay_13 ?_
    refine lv_iload_n hx hb dX3_pay_16 rfl (lv_at hl 1 rfl) ?_
    refine va_lald hx hb hK (sg_one hP (hM.1 13 rfl)) 0 1 rfl rfl (qM_in h6 (by grind [bI])) dX3_pay_17 ?_
    refine lv_goto (tgt := 22) hx hb dX3_pay_18 (by decide) ?_
    exact sg_lret hx hb hr hlocks hP hD hS (Nat.le_of_ble_eq_true rfl) (Nat.le_of_ble_eq_true rfl) dX3_pay_22 (⟨by grind [tMem, t1, bI, xI_uS, xL_uS], hM⟩)

theorem wi_X3_gain : ∀ w ∈ wsX30, w ∈ wsX3_gain := by decide +kernel
set_option maxHeartbeats 4000000 in
set_option maxRecDepth 100000 in
theorem c_X3_gain (l : Launch) (D : va_G) (Y : Nat → ClassId) (σ : sg_W) (sz : Nat) (ad : Nat → Nat) (M : MS) (i : Int32) (h6 : mem6 M) (hM : MW Y ad M σ) : Met l yX3_gain wsX3_gain ({ frames := 2, cells := 0, slots := 0, locals := 43 } : Room) (va_Pc [.ref (ad 0), .int i] (sg_U D Y σ sz)) (va_Ql (fun r σ' => (tMem M i = 0 → r = sL M 14 (tN i)) ∧ MF Y ad σ (uS M 19 (tMem M i)) σ') (sg_B D σ sz) (sg_A σ sz)) 0 0 (sg_A σ sz) := by
  refine sg_met (cc := cX3_gain) (maxL := 2) (ret := (some .long)) (by decide) rfl (Nat.le_of_ble_eq_true rfl) ?_
  intro p e s m below meth c ls hx hb hml hr hown hts hlocks hnm hP hK hD hN hX hA hS hsz hl
  have hl : lv_has ls 2 [(0, .ref (ad 0)), (1, .int i)] := hl
  refine lv_aload_n hx hb dX3_gain_0 rfl (lv_at hl 0 rfl) ?_
  refine lv_aload_n hx hb dX3_gain_1 rfl (lv_at hl 0 rfl) ?_
  refine lv_iload_n hx hb dX3_gain_2 rfl (lv_at hl 1 rfl) ?_
  refine sg_calli hD hS hA (va_runV (As := [.int i]) (rest := [.ref (ad 0)]) ⟨hx, hb, hml, hown, hts⟩ (c_X3_isMember l D Y _ _ ad M i hM.self) (cwV 1 hts gX3_gain_X3_isMember rfl rfl rfl (by decide +kernel) ⟨Nat.le_of_ble_eq_true rfl, Nat.le_of_ble_eq_true rfl⟩) (sg_preV (q := (RX3, TX3, 20)) (hM.1 0 rfl) rfl hK hP hD hN hX hS hA) rfl rfl hl.1 rfl (lv_room (Nat.le_of_ble_eq_true rfl)) dX3_gain_3 ⟨Nat.le_of_ble_eq_true rfl, Nat.le_of_ble_eq_true rfl⟩) (fun r3 σ' H locs hw hP hD hS => ?_)
  obtain ⟨rfl, rfl⟩ := hw
  refine sg_calli hD hS hA (va_runV (As := [.int (bI (qM M i))]) (rest := []) ⟨hx, hb, hml, hown, hts⟩ (c_X3_may l D Y _ _ ad M ((bI (qM M i))) (bI_01) hM.self) (cwV 1 hts gX3_gain_X3_may rfl rfl rfl (by decide +kernel) ⟨Nat.le_of_ble_eq_true rfl, Nat.le_of_ble_eq_true rfl⟩) (sg_preV (q := (RX3, TX3, 20)) (hM.1 0 rfl) rfl hK hP hD hN hX hS hA) rfl rfl hl.1 rfl (lv_room (Nat.le_of_ble_eq_true rfl)) dX3_gain_6 ⟨Nat.le_of_ble_eq_true rfl, Nat.le_of_ble_eq_true rfl⟩) (fun r6 σ' H locs hw hP hD hS => ?_)
  obtain ⟨rfl, hw⟩ := hw
  have hM := hM.trans hw
  refine lv_if_eq (tgt := 21) hx hb dX3_gain_9 (by decide) (fun c9 => ?_) (fun c9 => ?_)
  · skip
    refine lv_lconst (v := 0) hx hb dX3_gain_21 (by decide) ?_
    exact sg_lret hx hb hr hlocks hP hD hS (Nat.le_of_ble_eq_true rfl) (Nat.le_of_ble_eq_true rfl) dX3_gain_22 (⟨by grind [tMem, t1, bI, xI_uS, xL_uS], hM⟩)
  · skip
    refine lv_aload_n hx hb dX3_gain_12 rfl (lv_at hl 0 rfl) ?_
    refine va_get (ref := RX3) (v := .ref (ad 14)) hx hb hts wi_X3_gain hown hK (sg_one hP (hM.1 0 rfl)) 0 rfl rfl 14 (by decide) (hts (.fieldLink RX3 53 RX3 "gain" "[J") (by decide +kernel)) (fun _ h => h) rfl dX3_gain_13 ?_
    refine lv_iload_n hx hb dX3_gain_16 rfl (lv_at hl 1 rfl) ?_
    refine va_lald hx hb hK (sg_one hP (hM.1 14 rfl)) 0 1 rfl rfl (qM_in h6 (by grind [bI])) dX3_gain_17 ?_
    refine lv_goto (tgt := 22) hx hb dX3_gain_18 (by decide) ?_
    exact sg_lret hx hb hr hlocks hP hD hS (Nat.le_of_ble_eq_true rfl) (Nat.le_of_ble_eq_true rfl) dX3_gain_22 (⟨by grind [tMem, t1, bI, xI_uS, xL_uS], hM⟩)

theorem wi_X3_offerPrice : ∀ w ∈ wsX30, w ∈ wsX3_offerPrice := by decide +kernel
set_option maxHeartbeats 4000000 in
set_option maxRecDepth 100000 in
theorem c_X3_offerPrice (l : Launch) (D : va_G) (Y : Nat → ClassId) (σ : sg_W) (sz : Nat) (ad : Nat → Nat) (M : MS) (i : Int32) (h6 : mem6 M) (hf : ∀ k, k < 6 → vp_in (sI M 10 k) 60) (hM : MW Y ad M σ) : Met l yX3_offerPrice wsX3_offerPrice ({ frames := 2, cells := 0, slots := 0, locals := 43 } : Room) (va_Pc [.ref (ad 0), .int i] (sg_U D Y σ sz)) (va_Qi (fun r σ' => (tMem M i = 0 → r = sI M 1 (tN (sI M 10 (tN i)))) ∧ MF Y ad σ (uS M 19 (tMem M i)) σ') (sg_B D σ sz) (sg_A σ sz)) 0 0 (sg_A σ sz) := by
  refine sg_met (cc := cX3_offerPrice) (maxL := 2) (ret := (some .int)) (by decide) rfl (Nat.le_of_ble_eq_true rfl) ?_
  intro p e s m below meth c ls hx hb hml hr hown hts hlocks hnm hP hK hD hN hX hA hS hsz hl
  have hl : lv_has ls 2 [(0, .ref (ad 0)), (1, .int i)] := hl
  refine lv_aload_n hx hb dX3_offerPrice_0 rfl (lv_at hl 0 rfl) ?_
  refine lv_aload_n hx hb dX3_offerPrice_1 rfl (lv_at hl 0 rfl) ?_
  refine lv_iload_n hx hb dX3_offerPrice_2 rfl (lv_at hl 1 rfl) ?_
  refine sg_calli hD hS hA (va_runV (As := [.int i]) (rest := [.ref (ad 0)]) ⟨hx, hb, hml, hown, hts⟩ (c_X3_isMember l D Y _ _ ad M i hM.self) (cwV 1 hts gX3_offerPrice_X3_isMember rfl rfl rfl (by decide +kernel) ⟨Nat.le_of_ble_eq_true rfl, Nat.le_of_ble_eq_true rfl⟩) (sg_preV (q := (RX3, TX3, 20)) (hM.1 0 rfl) rfl hK hP hD hN hX hS hA) rfl rfl hl.1 rfl (lv_room (Nat.le_of_ble_eq_true rfl)) dX3_offerPrice_3 ⟨Nat.le_of_ble_eq_true rfl, Nat.le_of_ble_eq_true rfl⟩) (fun r3 σ' H locs hw hP hD hS => ?_)
  obtain ⟨rfl, rfl⟩ := hw
  refine sg_calli hD hS hA (va_runV (As := [.int (bI (qM M i))]) (rest := []) ⟨hx, hb, hml, hown, hts⟩ (c_X3_may l D Y _ _ ad M ((bI (qM M i))) (bI_01) hM.self) (cwV 1 hts gX3_offerPrice_X3_may rfl rfl rfl (by decide +kernel) ⟨Nat.le_of_ble_eq_true rfl, Nat.le_of_ble_eq_true rfl⟩) (sg_preV (q := (RX3, TX3, 20)) (hM.1 0 rfl) rfl hK hP hD hN hX hS hA) rfl rfl hl.1 rfl (lv_room (Nat.le_of_ble_eq_true rfl)) dX3_offerPrice_6 ⟨Nat.le_of_ble_eq_true rfl, Nat.le_of_ble_eq_true rfl⟩) (fun r6 σ' H locs hw hP hD hS => ?_)
  obtain ⟨rfl, hw⟩ := hw
  have hM := hM.trans hw
  refine lv_if_eq (tgt := 26) hx hb dX3_offerPrice_9 (by decide) (fun c9 => ?_) (fun c9 => ?_)
  · skip
    refine lv_iconst (v := 0) hx hb dX3_offerPrice_26 (by decide) ?_
    exact sg_iret hx hb hr rfl hlocks hP hD hS (Nat.le_of_ble_eq_true rfl) (Nat.le_of_ble_eq_true rfl) dX3_offerPrice_27 (⟨by grind [tMem, t1, bI, xI_uS], hM⟩)
  · skip
    refine lv_aload_n hx hb dX3_offerPrice_12 rfl (lv_at hl 0 rfl) ?_
    refine va_get (ref := RX3) (v := .ref (ad 1)) hx hb hts wi_X3_offerPrice hown hK (sg_one hP (hM.1 0 rfl)) 0 rfl rfl 1 (by decide) (hts (.fieldLink RX3 13 RX3 "price" "[I") (by decide +kernel)) (fun _ h => h) rfl dX3_offerPrice_13 ?_
    refine lv_aload_n hx hb dX3_offerPrice_16 rfl (lv_at hl 0 rfl) ?_
    refine va_get (ref := RX3) (v := .ref (ad 10)) hx hb hts wi_X3_offerPrice hown hK (sg_one hP (hM.1 0 rfl)) 0 rfl rfl 10 (by decide) (hts (.fieldLink RX3 41 RX3 "first" "[I") (by decide +kernel)) (fun _ h => h) rfl dX3_offerPrice_17 ?_
    refine lv_iload_n hx hb dX3_offerPrice_20 rfl (lv_at hl 1 rfl) ?_
    refine va_iald hx hb hK (sg_one hP (hM.1 10 rfl)) 0 0 rfl rfl (qM_in h6 (by grind [bI])) dX3_offerPrice_21 ?_
    refine va_iald hx hb hK (sg_one hP (hM.1 1 rfl)) 0 0 rfl rfl (hf _ (vp_lt (qM_in h6 (by grind [bI])))) dX3_offerPrice_22 ?_
    refine lv_goto (tgt := 27) hx hb dX3_offerPrice_23 (by decide) ?_
    exact sg_iret hx hb hr rfl hlocks hP hD hS (Nat.le_of_ble_eq_true rfl) (Nat.le_of_ble_eq_true rfl) dX3_offerPrice_27 (⟨by grind [tMem, t1, bI, xI_uS], hM⟩)

theorem wi_X3_traced : ∀ w ∈ wsX30, w ∈ wsX3_traced := by decide +kernel
set_option maxHeartbeats 4000000 in
set_option maxRecDepth 100000 in
theorem c_X3_traced (l : Launch) (D : va_G) (Y : Nat → ClassId) (σ : sg_W) (sz : Nat) (ad : Nat → Nat) (M : MS) (i : Int32) (h6 : mem6 M) (hM : MW Y ad M σ) : Met l yX3_traced wsX3_traced ({ frames := 2, cells := 0, slots := 0, locals := 43 } : Room) (va_Pc [.ref (ad 0), .int i] (sg_U D Y σ sz)) (va_Ql (fun r σ' => (tMem M i = 0 → r = sL M 8 (tN i) + (sI M 6 (tN i)).toInt64 + (sI M 7 (tN i)).toInt64) ∧ MF Y ad σ (uS M 19 (tMem M i)) σ') (sg_B D σ sz) (sg_A σ sz)) 0 0 (sg_A σ sz) := by
  refine sg_met (cc := cX3_traced) (maxL := 2) (ret := (some .long)) (by decide) rfl (Nat.le_of_ble_eq_true rfl) ?_
  intro p e s m below meth c ls hx hb hml hr hown hts hlocks hnm hP hK hD hN hX hA hS hsz hl
  have hl : lv_has ls 2 [(0, .ref (ad 0)), (1, .int i)] := hl
  refine lv_aload_n hx hb dX3_traced_0 rfl (lv_at hl 0 rfl) ?_
  refine lv_aload_n hx hb dX3_traced_1 rfl (lv_at hl 0 rfl) ?_
  refine lv_iload_n hx hb dX3_traced_2 rfl (lv_at hl 1 rfl) ?_
  refine sg_calli hD hS hA (va_runV (As := [.int i]) (rest := [.ref (ad 0)]) ⟨hx, hb, hml, hown, hts⟩ (c_X3_isMember l D Y _ _ ad M i hM.self) (cwV 1 hts gX3_traced_X3_isMember rfl rfl rfl (by decide +kernel) ⟨Nat.le_of_ble_eq_true rfl, Nat.le_of_ble_eq_true rfl⟩) (sg_preV (q := (RX3, TX3, 20)) (hM.1 0 rfl) rfl hK hP hD hN hX hS hA) rfl rfl hl.1 rfl (lv_room (Nat.le_of_ble_eq_true rfl)) dX3_traced_3 ⟨Nat.le_of_ble_eq_true rfl, Nat.le_of_ble_eq_true rfl⟩) (fun r3 σ' H locs hw hP hD hS => ?_)
  obtain ⟨rfl, rfl⟩ := hw
  refine sg_calli hD hS hA (va_runV (As := [.int (bI (qM M i))]) (rest := []) ⟨hx, hb, hml, hown, hts⟩ (c_X3_may l D Y _ _ ad M ((bI (qM M i))) (bI_01) hM.self) (cwV 1 hts gX3_traced_X3_may rfl rfl rfl (by decide +kernel) ⟨Nat.le_of_ble_eq_true rfl, Nat.le_of_ble_eq_true rfl⟩) (sg_preV (q := (RX3, TX3, 20)) (hM.1 0 rfl) rfl hK hP hD hN hX hS hA) rfl rfl hl.1 rfl (lv_room (Nat.le_of_ble_eq_true rfl)) dX3_traced_6 ⟨Nat.le_of_ble_eq_true rfl, Nat.le_of_ble_eq_true rfl⟩) (fun r6 σ' H locs hw hP hD hS => ?_)
  obtain ⟨rfl, hw⟩ := hw
  have hM := hM.trans hw
  refine lv_if_eq (tgt := 37) hx hb dX3_traced_9 (by decide) (fun c9 => ?_) (fun c9 => ?_)
  · skip
    refine lv_lconst (v := 0) hx hb dX3_traced_37 (by decide) ?_
    exact sg_lret hx hb hr hlocks hP hD hS (Nat.le_of_ble_eq_true rfl) (Nat.le_of_ble_eq_true rfl) dX3_traced_38 (⟨by grind -ring [tMem, t1, bI, xI_uS, xL_uS], hM⟩)
  · skip
    refine lv_aload_n hx hb dX3_traced_12 rfl (lv_at hl 0 rfl) ?_
    refine va_get (ref := RX3) (v := .ref (ad 8)) hx hb hts wi_X3_traced hown hK (sg_one hP (hM.1 0 rfl)) 0 rfl rfl 8 (by decide) (hts (.fieldLink RX3 34 RX3 "spent" "[J") (by decide +kernel)) (fun _ h => h) rfl dX3_traced_13 ?_
    refine lv_iload_n hx hb dX3_traced_16 rfl (lv_at hl 1 rfl) ?_
    refine va_lald hx hb hK (sg_one hP (hM.1 8 rfl)) 0 1 rfl rfl (qM_in h6 (by grind [bI])) dX3_traced_17 ?_
    refine lv_aload_n hx hb dX3_traced_18 rfl (lv_at hl 0 rfl) ?_
    refine va_get (ref := RX3) (v := .ref (ad 6)) hx hb hts wi_X3_traced hown hK (sg_one hP (hM.1 0 rfl)) 0 rfl rfl 6 (by decide) (hts (.fieldLink RX3 28 RX3 "money" "[I") (by decide +kernel)) (fun _ h => h) rfl dX3_traced_19 ?_
    refine lv_iload_n hx hb dX3_traced_22 rfl (lv_at hl 1 rfl) ?_
    refine va_iald hx hb hK (sg_one hP (hM.1 6 rfl)) 0 0 rfl rfl (qM_in h6 (by grind [bI])) dX3_traced_23 ?_
    refine lv_i2l hx hb dX3_traced_24 rfl ?_
    refine lv_ladd hx hb dX3_traced_25 ?_
    refine lv_aload_n hx hb dX3_traced_26 rfl (lv_at hl 0 rfl) ?_
    refine va_get (ref := RX3) (v := .ref (ad 7)) hx hb hts wi_X3_traced hown hK (sg_one hP (hM.1 0 rfl)) 0 rfl rfl 7 (by decide) (hts (.fieldLink RX3 31 RX3 "back" "[I") (by decide +kernel)) (fun _ h => h) rfl dX3_traced_27 ?_
    refine lv_iload_n hx hb dX3_traced_30 rfl (lv_at hl 1 rfl) ?_
    refine va_iald hx hb hK (sg_one hP (hM.1 7 rfl)) 0 0 rfl rfl (qM_in h6 (by grind [bI])) dX3_traced_31 ?_
    refine lv_i2l hx hb dX3_traced_32 rfl ?_
    refine lv_ladd hx hb dX3_traced_33 ?_
    refine lv_goto (tgt := 38) hx hb dX3_traced_34 (by decide) ?_
    exact sg_lret hx hb hr hlocks hP hD hS (Nat.le_of_ble_eq_true rfl) (Nat.le_of_ble_eq_true rfl) dX3_traced_38 (⟨by grind -ring [tMem, t1, bI, xI_uS, xL_uS], hM⟩)

set_option maxHeartbeats 4000000 in
set_option maxRecDepth 100000 in
theorem c_X3_shares (l : Launch) (D : va_G) (Y : Nat → ClassId) (σ : sg_W) (sz : Nat) (ad : Nat → Nat) (M : MS) (i : Int32) (h6 : mem6 M) (hM : MW Y ad M σ) : Met l yX3_shares wsX3_shares ({ frames := 2, cells := 0, slots := 0, locals := 43 } : Room) (va_Pc [.ref (ad 0), .int i] (sg_U D Y σ sz)) (va_Qi (fun r σ' => (tMem M i = 0 → r = sH M (tN i) 10) ∧ MF Y ad σ (uS M 19 (tMem M i)) σ') (sg_B D σ sz) (sg_A σ sz)) 0 0 (sg_A σ sz) := by
  refine sg_met (cc := cX3_shares) (maxL := 2) (ret := (some .int)) (by decide) rfl (Nat.le_of_ble_eq_true rfl) ?_
  intro p e s m below meth c ls hx hb hml hr hown hts hlocks hnm hP hK hD hN hX hA hS hsz hl
  have hl : lv_has ls 2 [(0, .ref (ad 0)), (1, .int i)] := hl
  refine lv_aload_n hx hb dX3_shares_0 rfl (lv_at hl 0 rfl) ?_
  refine lv_aload_n hx hb dX3_shares_1 rfl (lv_at hl 0 rfl) ?_
  refine lv_iload_n hx hb dX3_shares_2 rfl (lv_at hl 1 rfl) ?_
  refine sg_calli hD hS hA (va_runV (As := [.int i]) (rest := [.ref (ad 0)]) ⟨hx, hb, hml, hown, hts⟩ (c_X3_isMember l D Y _ _ ad M i hM.self) (cwV 1 hts gX3_shares_X3_isMember rfl rfl rfl (by decide +kernel) ⟨Nat.le_of_ble_eq_true rfl, Nat.le_of_ble_eq_true rfl⟩) (sg_preV (q := (RX3, TX3, 20)) (hM.1 0 rfl) rfl hK hP hD hN hX hS hA) rfl rfl hl.1 rfl (lv_room (Nat.le_of_ble_eq_true rfl)) dX3_shares_3 ⟨Nat.le_of_ble_eq_true rfl, Nat.le_of_ble_eq_true rfl⟩) (fun r3 σ' H locs hw hP hD hS => ?_)
  obtain ⟨rfl, rfl⟩ := hw
  refine sg_calli hD hS hA (va_runV (As := [.int (bI (qM M i))]) (rest := []) ⟨hx, hb, hml, hown, hts⟩ (c_X3_may l D Y _ _ ad M ((bI (qM M i))) (bI_01) hM.self) (cwV 1 hts gX3_shares_X3_may rfl rfl rfl (by decide +kernel) ⟨Nat.le_of_ble_eq_true rfl, Nat.le_of_ble_eq_true rfl⟩) (sg_preV (q := (RX3, TX3, 20)) (hM.1 0 rfl) rfl hK hP hD hN hX hS hA) rfl rfl hl.1 rfl (lv_room (Nat.le_of_ble_eq_true rfl)) dX3_shares_6 ⟨Nat.le_of_ble_eq_true rfl, Nat.le_of_ble_eq_true rfl⟩) (fun r6 σ' H locs hw hP hD hS => ?_)
  obtain ⟨rfl, hw⟩ := hw
  have hM := hM.trans hw
  refine lv_if_eq (tgt := 20) hx hb dX3_shares_9 (by decide) (fun c9 => ?_) (fun c9 => ?_)
  · skip
    refine lv_iconst (v := 0) hx hb dX3_shares_20 (by decide) ?_
    exact sg_iret hx hb hr rfl hlocks hP hD hS (Nat.le_of_ble_eq_true rfl) (Nat.le_of_ble_eq_true rfl) dX3_shares_21 (⟨by grind [tMem, t1, bI, sH_uS], hM⟩)
  · skip
    have hi6 : vp_in i 6 := qM_in h6 (by grind [bI])
    have ei := vp_eq hi6 (by decide)
    rw [ei] at hl
    refine lv_aload_n hx hb dX3_shares_12 rfl (lv_at hl 0 rfl) ?_
    refine lv_iload_n hx hb dX3_shares_13 rfl (lv_at hl 1 rfl) ?_
    refine sg_calli hD hS hA (va_runV (As := [.int (nI (tN i))]) (rest := []) ⟨hx, hb, hml, hown, hts⟩ (c_X3_sharesOf l D Y _ _ ad (uS M 19 (t1 ((bI (qM M i))))) (tN i) (vp_lt hi6) hM.self) (cwV 1 hts gX3_shares_X3_sharesOf rfl rfl rfl (by decide +kernel) ⟨Nat.le_of_ble_eq_true rfl, Nat.le_of_ble_eq_true rfl⟩) (sg_preV (q := (RX3, TX3, 20)) (hM.1 0 rfl) rfl hK hP hD hN hX hS hA) rfl rfl hl.1 rfl (lv_room (Nat.le_of_ble_eq_true rfl)) dX3_shares_14 ⟨Nat.le_of_ble_eq_true rfl, Nat.le_of_ble_eq_true rfl⟩) (fun r14 σ' H locs hw hP hD hS => ?_)
    obtain ⟨er14, rfl⟩ := hw
    refine lv_goto (tgt := 21) hx hb dX3_shares_17 (by decide) ?_
    exact sg_iret hx hb hr rfl hlocks hP hD hS (Nat.le_of_ble_eq_true rfl) (Nat.le_of_ble_eq_true rfl) dX3_shares_21 (⟨by grind [tMem, t1, bI, sH_uS], hM⟩)

theorem wi_X3_month : ∀ w ∈ wsX30, w ∈ wsX3_month := by decide +kernel
set_option maxHeartbeats 4000000 in
set_option maxRecDepth 100000 in
theorem c_X3_month (l : Launch) (D : va_G) (Y : Nat → ClassId) (σ : sg_W) (sz : Nat) (ad : Nat → Nat) (M : MS) (hM : MW Y ad M σ) : Met l yX3_month wsX3_month ({ frames := 0, cells := 0, slots := 0, locals := 0 } : Room) (va_Pc [.ref (ad 0)] (sg_U D Y σ sz)) (va_Qi (fun r σ' => r = sS M 0 ∧ MF Y ad σ (uS M 19 0) σ') (sg_B D σ sz) (sg_A σ sz)) 0 0 (sg_A σ sz) := by
  refine sg_met (cc := cX3_month) (maxL := 1) (ret := (some .int)) (by decide) rfl (Nat.le_of_ble_eq_true rfl) ?_
  intro p e s m below meth c ls hx hb hml hr hown hts hlocks hnm hP hK hD hN hX hA hS hsz hl
  have hl : lv_has ls 1 [(0, .ref (ad 0))] := hl
  refine lv_aload_n hx hb dX3_month_0 rfl (lv_at hl 0 rfl) ?_
  refine lv_iconst (v := 0) hx hb dX3_month_1 (by decide) ?_
  refine sg_put (ref := RX3) (ty := .int) (v := .int 0) hx hb hts wi_X3_month tyX3 tyX3_ok nmX3 hown hK hP hD hS (hM.1 0 rfl) rfl 19 (by decide) (hts (.fieldLink RX3 68 RX3 "thrown" "I") (by decide +kernel)) (fun _ h => h) rfl (by decide +kernel) rfl rfl (Nat.le_of_ble_eq_true rfl) dX3_month_2 (fun H locs hP hD hS => ?_)
  have hM := hM.s19 (v := 0)
  refine lv_aload_n hx hb dX3_month_5 rfl (lv_at hl 0 rfl) ?_
  refine va_get (ref := RX3) (v := .int (sS (uS M 19 0) 0)) hx hb hts wi_X3_month hown hK (sg_one hP (hM.1 0 rfl)) 0 rfl rfl 0 (by decide) (hts (.fieldLink RX3 9 RX3 "month" "I") (by decide +kernel)) (fun _ h => h) rfl dX3_month_6 ?_
  exact sg_iret hx hb hr rfl hlocks hP hD hS (Nat.le_of_ble_eq_true rfl) (Nat.le_of_ble_eq_true rfl) dX3_month_9 (⟨rfl, hM⟩)

theorem wi_X3_ceiling : ∀ w ∈ wsX30, w ∈ wsX3_ceiling := by decide +kernel
set_option maxHeartbeats 4000000 in
set_option maxRecDepth 100000 in
theorem c_X3_ceiling (l : Launch) (D : va_G) (Y : Nat → ClassId) (σ : sg_W) (sz : Nat) (ad : Nat → Nat) (M : MS) (x : Int32) (hM : MW Y ad M σ) : Met l yX3_ceiling wsX3_ceiling ({ frames := 1, cells := 0, slots := 0, locals := 22 } : Room) (va_Pc [.ref (ad 0), .int x] (sg_U D Y σ sz)) (va_Qi (fun r σ' => (tCeil x = 0 → r = sS M 2) ∧ MF Y ad σ (if tCeil x = 0 then uS (uS M 19 0) 2 x else uS M 19 (tCeil x)) σ') (sg_B D σ sz) (sg_A σ sz)) 0 0 (sg_A σ sz) := by
  refine sg_met (cc := cX3_ceiling) (maxL := 3) (ret := (some .int)) (by decide) rfl (Nat.le_of_ble_eq_true rfl) ?_
  intro p e s m below meth c ls hx hb hml hr hown hts hlocks hnm hP hK hD hN hX hA hS hsz hl
  have hl : lv_has ls 3 [(0, .ref (ad 0)), (1, .int x)] := hl
  refine lv_aload_n hx hb dX3_ceiling_0 rfl (lv_at hl 0 rfl) ?_
  refine lv_iload_n hx hb dX3_ceiling_1 rfl (lv_at hl 1 rfl) ?_
  refine lv_iconst (v := 0) hx hb dX3_ceiling_2 (by decide) ?_
  refine lv_ldc (v := 10000000) hx hb hown (hts (.constant RX3 91 10000000) (by decide +kernel)) dX3_ceiling_3 ?_
  refine sg_calli hD hS hA (va_runS (As := [.int x, .int 0, .int 10000000]) (rest := [.ref (ad 0)]) ⟨hx, hb, hml, hown, hts⟩ (c_X3_isIn l D Y _ _ x 0 10000000) (va_cwS 3 hts gX3_ceiling_X3_isIn rfl rfl rfl (by decide +kernel) ⟨Nat.le_of_ble_eq_true rfl, Nat.le_of_ble_eq_true rfl⟩) (sg_preS hK hP hD hN hX hS hA) rfl rfl hl.1 rfl (lv_room (Nat.le_of_ble_eq_true rfl)) dX3_ceiling_5 ⟨Nat.le_of_ble_eq_true rfl, Nat.le_of_ble_eq_true rfl⟩) (fun r5 σ' H locs hw hP hD hS => ?_)
  obtain ⟨rfl, rfl⟩ := hw
  refine sg_calli hD hS hA (va_runV (As := [.int (bI (qIn x 0 10000000))]) (rest := []) ⟨hx, hb, hml, hown, hts⟩ (c_X3_may l D Y _ _ ad M ((bI (qIn x 0 10000000))) (bI_01) hM.self) (cwV 1 hts gX3_ceiling_X3_may rfl rfl rfl (by decide +kernel) ⟨Nat.le_of_ble_eq_true rfl, Nat.le_of_ble_eq_true rfl⟩) (sg_preV (q := (RX3, TX3, 20)) (hM.1 0 rfl) rfl hK hP hD hN hX hS hA) rfl rfl hl.1 rfl (lv_room (Nat.le_of_ble_eq_true rfl)) dX3_ceiling_8 ⟨Nat.le_of_ble_eq_true rfl, Nat.le_of_ble_eq_true rfl⟩) (fun r8 σ' H locs hw hP hD hS => ?_)
  obtain ⟨rfl, hw⟩ := hw
  have hM := hM.trans hw
  refine lv_if_ne (tgt := 16) hx hb dX3_ceiling_11 (by decide) (fun c11 => ?_) (fun c11 => ?_)
  · skip
    have h0 : t1 (bI (qIn x 0 10000000)) = 0 := by rw [t1, if_neg c11]
    rw [h0] at hM
    refine lv_aload_n hx hb dX3_ceiling_16 rfl (lv_at hl 0 rfl) ?_
    refine va_get (ref := RX3) (v := .int (sS (uS M 19 0) 2)) hx hb hts wi_X3_ceiling hown hK (sg_one hP (hM.1 0 rfl)) 0 rfl rfl 2 (by decide) (hts (.fieldLink RX3 18 RX3 "ceiling" "I") (by decide +kernel)) (fun _ h => h) rfl dX3_ceiling_17 ?_
    refine lv_topi (fun v20 ev20 => ?_)
    refine lv_istore_n (lv' := [(2, .int v20), (0, .ref (ad 0)), (1, .int x)]) hx hb dX3_ceiling_20 rfl hl (by decide) rfl (fun ls hl => ?_)
    refine lv_aload_n hx hb dX3_ceiling_21 rfl (lv_at hl 1 rfl) ?_
    refine lv_iload_n hx hb dX3_ceiling_22 rfl (lv_at hl 2 rfl) ?_
    refine sg_put (ref := RX3) (ty := .int) (v := .int x) hx hb hts wi_X3_ceiling tyX3 tyX3_ok nmX3 hown hK hP hD hS (hM.1 0 rfl) rfl 2 (by decide) (hts (.fieldLink RX3 18 RX3 "ceiling" "I") (by decide +kernel)) (fun _ h => h) rfl (by decide +kernel) rfl rfl (Nat.le_of_ble_eq_true rfl) dX3_ceiling_23 (fun H locs hP hD hS => ?_)
    have hM := hM.s2 (v := x)
    refine lv_iload_n hx hb dX3_ceiling_26 rfl (lv_at hl 0 rfl) ?_
    exact sg_iret hx hb hr rfl hlocks hP hD hS (Nat.le_of_ble_eq_true rfl) (Nat.le_of_ble_eq_true rfl) dX3_ceiling_27 (⟨fun _ => by rw [ev20]; rfl, by rw [if_pos (show tCeil x = 0 from h0)]; exact hM⟩)
  · skip
    have h0 : ¬ tCeil x = 0 := by show ¬ t1 _ = 0; rw [t1, if_pos c11]; decide
    refine lv_iconst (v := 0) hx hb dX3_ceiling_14 (by decide) ?_
    exact sg_iret hx hb hr rfl hlocks hP hD hS (Nat.le_of_ble_eq_true rfl) (Nat.le_of_ble_eq_true rfl) dX3_ceiling_15 (⟨fun h => absurd h h0, by rw [if_neg h0]; exact hM⟩)

theorem wi_X3_rate : ∀ w ∈ wsX30, w ∈ wsX3_rate := by decide +kernel
set_option maxHeartbeats 4000000 in
set_option maxRecDepth 100000 in
theorem c_X3_rate (l : Launch) (D : va_G) (Y : Nat → ClassId) (σ : sg_W) (sz : Nat) (ad : Nat → Nat) (M : MS) (i x : Int32) (h6 : mem6 M) (hM : MW Y ad M σ) : Met l yX3_rate wsX3_rate ({ frames := 3, cells := 0, slots := 0, locals := 64 } : Room) (va_Pc [.ref (ad 0), .int i, .int x] (sg_U D Y σ sz)) (va_Qi (fun r σ' => (tRate M i x = 0 → r = sI M 4 (tN i)) ∧ MF Y ad σ (if tRate M i x = 0 then nRate (uS M 19 0) i x else uS M 19 (tRate M i x)) σ') (sg_B D σ sz) (sg_A σ sz)) 0 0 (sg_A σ sz) := by
  refine sg_met (cc := cX3_rate) (maxL := 4) (ret := (some .int)) (by decide) rfl (Nat.le_of_ble_eq_true rfl) ?_
  intro p e s m below meth c ls hx hb hml hr hown hts hlocks hnm hP hK hD hN hX hA hS hsz hl
  have hl : lv_has ls 4 [(0, .ref (ad 0)), (1, .int i), (2, .int x)] := hl
  refine lv_aload_n hx hb dX3_rate_0 rfl (lv_at hl 0 rfl) ?_
  refine lv_aload_n hx hb dX3_rate_1 rfl (lv_at hl 0 rfl) ?_
  refine lv_iload_n hx hb dX3_rate_2 rfl (lv_at hl 1 rfl) ?_
  refine sg_calli hD hS hA (va_runV (As := [.int i]) (rest := [.ref (ad 0)]) ⟨hx, hb, hml, hown, hts⟩ (c_X3_isMember l D Y _ _ ad M i hM.self) (cwV 1 hts gX3_rate_X3_isMember rfl rfl rfl (by decide +kernel) ⟨Nat.le_of_ble_eq_true rfl, Nat.le_of_ble_eq_true rfl⟩) (sg_preV (q := (RX3, TX3, 20)) (hM.1 0 rfl) rfl hK hP hD hN hX hS hA) rfl rfl hl.1 rfl (lv_room (Nat.le_of_ble_eq_true rfl)) dX3_rate_3 ⟨Nat.le_of_ble_eq_true rfl, Nat.le_of_ble_eq_true rfl⟩) (fun r3 σ' H locs hw hP hD hS => ?_)
  obtain ⟨rfl, rfl⟩ := hw
  refine lv_iload_n hx hb dX3_rate_6 rfl (lv_at hl 2 rfl) ?_
  refine lv_iconst (v := 1) hx hb dX3_rate_7 (by decide) ?_
  refine lv_bipush (v := 15) hx hb dX3_rate_8 (by decide) ?_
  refine sg_calli hD hS hA (va_runS (As := [.int x, .int 1, .int 15]) (rest := [.int (bI (qM M i)), .ref (ad 0)]) ⟨hx, hb, hml, hown, hts⟩ (c_X3_isIn l D Y _ _ x 1 15) (va_cwS 3 hts gX3_rate_X3_isIn rfl rfl rfl (by decide +kernel) ⟨Nat.le_of_ble_eq_true rfl, Nat.le_of_ble_eq_true rfl⟩) (sg_preS hK hP hD hN hX hS hA) rfl rfl hl.1 rfl (lv_room (Nat.le_of_ble_eq_true rfl)) dX3_rate_10 ⟨Nat.le_of_ble_eq_true rfl, Nat.le_of_ble_eq_true rfl⟩) (fun r10 σ' H locs hw hP hD hS => ?_)
  obtain ⟨rfl, rfl⟩ := hw
  refine lv_aload_n hx hb dX3_rate_13 rfl (lv_at hl 0 rfl) ?_
  refine lv_iload_n hx hb dX3_rate_14 rfl (lv_at hl 1 rfl) ?_
  refine sg_calli hD hS hA (va_runV (As := [.int i]) (rest := [.int (bI (qIn x 1 15)), .int (bI (qM M i)), .ref (ad 0)]) ⟨hx, hb, hml, hown, hts⟩ (c_X3_isStaying l D Y _ _ ad M i h6 hM.self) (cwV 1 hts gX3_rate_X3_isStaying rfl rfl rfl (by decide +kernel) ⟨Nat.le_of_ble_eq_true rfl, Nat.le_of_ble_eq_true rfl⟩) (sg_preV (q := (RX3, TX3, 20)) (hM.1 0 rfl) rfl hK hP hD hN hX hS hA) rfl rfl hl.1 rfl (lv_room (Nat.le_of_ble_eq_true rfl)) dX3_rate_15 ⟨Nat.le_of_ble_eq_true rfl, Nat.le_of_ble_eq_true rfl⟩) (fun r15 σ' H locs hw hP hD hS => ?_)
  obtain ⟨rfl, rfl⟩ := hw
  refine sg_calli hD hS hA (va_runV (As := [.int (bI (qM M i)), .int (bI (qIn x 1 15)), .int (bI (qT M i))]) (rest := []) ⟨hx, hb, hml, hown, hts⟩ (c_X3_mayAll l D Y _ _ ad M ((bI (qM M i))) ((bI (qIn x 1 15))) ((bI (qT M i))) hM.self) (cwV 3 hts gX3_rate_X3_mayAll rfl rfl rfl (by decide +kernel) ⟨Nat.le_of_ble_eq_true rfl, Nat.le_of_ble_eq_true rfl⟩) (sg_preV (q := (RX3, TX3, 20)) (hM.1 0 rfl) rfl hK hP hD hN hX hS hA) rfl rfl hl.1 rfl (lv_room (Nat.le_of_ble_eq_true rfl)) dX3_rate_18 ⟨Nat.le_of_ble_eq_true rfl, Nat.le_of_ble_eq_true rfl⟩) (fun r18 σ' H locs hw hP hD hS => ?_)
  obtain ⟨rfl, hw⟩ := hw
  have hM := hM.trans hw
  refine lv_if_ne (tgt := 26) hx hb dX3_rate_21 (by decide) (fun c21 => ?_) (fun c21 => ?_)
  · skip
    have h0 : t3 (bI (qM M i)) (bI (qIn x 1 15)) (bI (qT M i)) = 0 := by rw [bI_0] at c21; exact Classical.not_not.mp c21
    rw [h0] at hM
    refine lv_aload_n hx hb dX3_rate_26 rfl (lv_at hl 0 rfl) ?_
    have hi : vp_in i 6 := qM_in h6 (by grind [bI, t3])
    refine va_get (ref := RX3) (v := .ref (ad 4)) hx hb hts wi_X3_rate hown hK (sg_one hP (hM.1 0 rfl)) 0 rfl rfl 4 (by decide) (hts (.fieldLink RX3 21 RX3 "rate" "[I") (by decide +kernel)) (fun _ h => h) rfl dX3_rate_27 ?_
    refine lv_iload_n hx hb dX3_rate_30 rfl (lv_at hl 1 rfl) ?_
    refine va_iald hx hb hK (sg_one hP (hM.1 4 rfl)) 0 0 rfl rfl (hi) dX3_rate_31 ?_
    refine lv_topi (fun v32 ev32 => ?_)
    refine lv_istore_n (lv' := [(3, .int v32), (0, .ref (ad 0)), (1, .int i), (2, .int x)]) hx hb dX3_rate_32 rfl hl (by decide) rfl (fun ls hl => ?_)
    refine lv_aload_n hx hb dX3_rate_33 rfl (lv_at hl 1 rfl) ?_
    refine va_get (ref := RX3) (v := .ref (ad 4)) hx hb hts wi_X3_rate hown hK (sg_one hP (hM.1 0 rfl)) 0 rfl rfl 4 (by decide) (hts (.fieldLink RX3 21 RX3 "rate" "[I") (by decide +kernel)) (fun _ h => h) rfl dX3_rate_34 ?_
    refine lv_iload_n hx hb dX3_rate_37 rfl (lv_at hl 2 rfl) ?_
    refine lv_iload_n hx hb dX3_rate_38 rfl (lv_at hl 3 rfl) ?_
    refine sg_iast hx hb hK hP hD hS (hM.1 4 rfl) (hi) dX3_rate_39 (fun H locs hP hD hS => ?_)
    have hM := hM.a4 (k := (i).toNatClampNeg) (v := x)
    refine lv_iload_n hx hb dX3_rate_40 rfl (lv_at hl 0 rfl) ?_
    exact sg_iret hx hb hr rfl hlocks hP hD hS (Nat.le_of_ble_eq_true rfl) (Nat.le_of_ble_eq_true rfl) dX3_rate_41 (⟨fun _ => by rw [ev32]; rfl, by rw [if_pos (show tRate M i x = 0 from h0)]; exact hM⟩)
  · skip
    have h0 : ¬ tRate M i x = 0 := bI_0.mp c21
    refine lv_iconst (v := 0) hx hb dX3_rate_24 (by decide) ?_
    exact sg_iret hx hb hr rfl hlocks hP hD hS (Nat.le_of_ble_eq_true rfl) (Nat.le_of_ble_eq_true rfl) dX3_rate_25 (⟨fun h => absurd h h0, by rw [if_neg h0]; exact hM⟩)

theorem wi_X3_slip : ∀ w ∈ wsX30, w ∈ wsX3_slip := by decide +kernel
set_option maxHeartbeats 4000000 in
set_option maxRecDepth 100000 in
theorem c_X3_slip (l : Launch) (D : va_G) (Y : Nat → ClassId) (σ : sg_W) (sz : Nat) (ad : Nat → Nat) (M : MS) (i x : Int32) (h6 : mem6 M) (hM : MW Y ad M σ) : Met l yX3_slip wsX3_slip ({ frames := 3, cells := 0, slots := 0, locals := 64 } : Room) (va_Pc [.ref (ad 0), .int i, .int x] (sg_U D Y σ sz)) (va_Qi (fun r σ' => (tSlip M i x = 0 → r = rSlip M i x) ∧ MF Y ad σ (if tSlip M i x = 0 then nSlip (uS M 19 0) i x else uS M 19 (tSlip M i x)) σ') (sg_B D σ sz) (sg_A σ sz)) 0 0 (sg_A σ sz) := by
  refine sg_met (cc := cX3_slip) (maxL := 4) (ret := (some .int)) (by decide) rfl (Nat.le_of_ble_eq_true rfl) ?_
  intro p e s m below meth c ls hx hb hml hr hown hts hlocks hnm hP hK hD hN hX hA hS hsz hl
  have hl : lv_has ls 4 [(0, .ref (ad 0)), (1, .int i), (2, .int x)] := hl
  refine lv_aload_n hx hb dX3_slip_0 rfl (lv_at hl 0 rfl) ?_
  refine lv_aload_n hx hb dX3_slip_1 rfl (lv_at hl 0 rfl) ?_
  refine lv_iload_n hx hb dX3_slip_2 rfl (lv_at hl 1 rfl) ?_
  refine sg_calli hD hS hA (va_runV (As := [.int i]) (rest := [.ref (ad 0)]) ⟨hx, hb, hml, hown, hts⟩ (c_X3_isMember l D Y _ _ ad M i hM.self) (cwV 1 hts gX3_slip_X3_isMember rfl rfl rfl (by decide +kernel) ⟨Nat.le_of_ble_eq_true rfl, Nat.le_of_ble_eq_true rfl⟩) (sg_preV (q := (RX3, TX3, 20)) (hM.1 0 rfl) rfl hK hP hD hN hX hS hA) rfl rfl hl.1 rfl (lv_room (Nat.le_of_ble_eq_true rfl)) dX3_slip_3 ⟨Nat.le_of_ble_eq_true rfl, Nat.le_of_ble_eq_true rfl⟩) (fun r3 σ' H locs hw hP hD hS => ?_)
  obtain ⟨rfl, rfl⟩ := hw
  refine lv_iload_n hx hb dX3_slip_6 rfl (lv_at hl 2 rfl) ?_
  refine lv_iconst (v := 0) hx hb dX3_slip_7 (by decide) ?_
  refine lv_ldc (v := 5000000) hx hb hown (hts (.constant RX3 107 5000000) (by decide +kernel)) dX3_slip_8 ?_
  refine sg_calli hD hS hA (va_runS (As := [.int x, .int 0, .int 5000000]) (rest := [.int (bI (qM M i)), .ref (ad 0)]) ⟨hx, hb, hml, hown, hts⟩ (c_X3_isIn l D Y _ _ x 0 5000000) (va_cwS 3 hts gX3_slip_X3_isIn rfl rfl rfl (by decide +kernel) ⟨Nat.le_of_ble_eq_true rfl, Nat.le_of_ble_eq_true rfl⟩) (sg_preS hK hP hD hN hX hS hA) rfl rfl hl.1 rfl (lv_room (Nat.le_of_ble_eq_true rfl)) dX3_slip_10 ⟨Nat.le_of_ble_eq_true rfl, Nat.le_of_ble_eq_true rfl⟩) (fun r10 σ' H locs hw hP hD hS => ?_)
  obtain ⟨rfl, rfl⟩ := hw
  refine lv_aload_n hx hb dX3_slip_13 rfl (lv_at hl 0 rfl) ?_
  refine lv_iload_n hx hb dX3_slip_14 rfl (lv_at hl 1 rfl) ?_
  refine sg_calli hD hS hA (va_runV (As := [.int i]) (rest := [.int (bI (qIn x 0 5000000)), .int (bI (qM M i)), .ref (ad 0)]) ⟨hx, hb, hml, hown, hts⟩ (c_X3_isStaying l D Y _ _ ad M i h6 hM.self) (cwV 1 hts gX3_slip_X3_isStaying rfl rfl rfl (by decide +kernel) ⟨Nat.le_of_ble_eq_true rfl, Nat.le_of_ble_eq_true rfl⟩) (sg_preV (q := (RX3, TX3, 20)) (hM.1 0 rfl) rfl hK hP hD hN hX hS hA) rfl rfl hl.1 rfl (lv_room (Nat.le_of_ble_eq_true rfl)) dX3_slip_15 ⟨Nat.le_of_ble_eq_true rfl, Nat.le_of_ble_eq_true rfl⟩) (fun r15 σ' H locs hw hP hD hS => ?_)
  obtain ⟨rfl, rfl⟩ := hw
  refine sg_calli hD hS hA (va_runV (As := [.int (bI (qM M i)), .int (bI (qIn x 0 5000000)), .int (bI (qT M i))]) (rest := []) ⟨hx, hb, hml, hown, hts⟩ (c_X3_mayAll l D Y _ _ ad M ((bI (qM M i))) ((bI (qIn x 0 5000000))) ((bI (qT M i))) hM.self) (cwV 3 hts gX3_slip_X3_mayAll rfl rfl rfl (by decide +kernel) ⟨Nat.le_of_ble_eq_true rfl, Nat.le_of_ble_eq_true rfl⟩) (sg_preV (q := (RX3, TX3, 20)) (hM.1 0 rfl) rfl hK hP hD hN hX hS hA) rfl rfl hl.1 rfl (lv_room (Nat.le_of_ble_eq_true rfl)) dX3_slip_18 ⟨Nat.le_of_ble_eq_true rfl, Nat.le_of_ble_eq_true rfl⟩) (fun r18 σ' H locs hw hP hD hS => ?_)
  obtain ⟨rfl, hw⟩ := hw
  have hM := hM.trans hw
  refine lv_if_ne (tgt := 26) hx hb dX3_slip_21 (by decide) (fun c21 => ?_) (fun c21 => ?_)
  · skip
    have h0 : t3 (bI (qM M i)) (bI (qIn x 0 5000000)) (bI (qT M i)) = 0 := by rw [bI_0] at c21; exact Classical.not_not.mp c21
    rw [h0] at hM
    refine lv_iload_n hx hb dX3_slip_26 rfl (lv_at hl 2 rfl) ?_
    have hi : vp_in i 6 := qM_in h6 (by grind [bI, t3])
    refine lv_aload_n hx hb dX3_slip_27 rfl (lv_at hl 0 rfl) ?_
    refine va_get (ref := RX3) (v := .ref (ad 4)) hx hb hts wi_X3_slip hown hK (sg_one hP (hM.1 0 rfl)) 0 rfl rfl 4 (by decide) (hts (.fieldLink RX3 21 RX3 "rate" "[I") (by decide +kernel)) (fun _ h => h) rfl dX3_slip_28 ?_
    refine lv_iload_n hx hb dX3_slip_31 rfl (lv_at hl 1 rfl) ?_
    refine va_iald hx hb hK (sg_one hP (hM.1 4 rfl)) 0 0 rfl rfl (hi) dX3_slip_32 ?_
    refine lv_imul hx hb dX3_slip_33 ?_
    refine lv_bipush (v := 100) hx hb dX3_slip_34 (by decide) ?_
    refine lv_idiv hx hb dX3_slip_36 (by decide) ?_
    refine lv_topi (fun v37 ev37 => ?_)
    refine lv_istore_n (lv' := [(3, .int v37), (0, .ref (ad 0)), (1, .int i), (2, .int x)]) hx hb dX3_slip_37 rfl hl (by decide) rfl (fun ls hl => ?_)
    refine lv_aload_n hx hb dX3_slip_38 rfl (lv_at hl 1 rfl) ?_
    refine va_get (ref := RX3) (v := .ref (ad 6)) hx hb hts wi_X3_slip hown hK (sg_one hP (hM.1 0 rfl)) 0 rfl rfl 6 (by decide) (hts (.fieldLink RX3 28 RX3 "money" "[I") (by decide +kernel)) (fun _ h => h) rfl dX3_slip_39 ?_
    refine lv_iload_n hx hb dX3_slip_42 rfl (lv_at hl 2 rfl) ?_
    refine lv_dup2_11 hx hb dX3_slip_43 rfl rfl ?_
    refine va_iald hx hb hK (sg_one hP (hM.1 6 rfl)) 0 0 rfl rfl (hi) dX3_slip_44 ?_
    refine lv_iload_n hx hb dX3_slip_45 rfl (lv_at hl 0 rfl) ?_
    refine lv_iadd hx hb dX3_slip_46 ?_
    refine sg_iast hx hb hK hP hD hS (hM.1 6 rfl) (hi) dX3_slip_47 (fun H locs hP hD hS => ?_)
    have hM := hM.a6 (k := (i).toNatClampNeg) (v := ((sI (uS M 19 0) 6 (i).toNatClampNeg) + v37))
    refine lv_aload_n hx hb dX3_slip_48 rfl (lv_at hl 1 rfl) ?_
    refine va_get (ref := RX3) (v := .ref (ad 9)) hx hb hts wi_X3_slip hown hK (sg_one hP (hM.1 0 rfl)) 0 rfl rfl 9 (by decide) (hts (.fieldLink RX3 38 RX3 "kept" "[J") (by decide +kernel)) (fun _ h => h) rfl dX3_slip_49 ?_
    refine lv_iload_n hx hb dX3_slip_52 rfl (lv_at hl 2 rfl) ?_
    refine lv_dup2_11 hx hb dX3_slip_53 rfl rfl ?_
    refine va_lald hx hb hK (sg_one hP (hM.1 9 rfl)) 0 1 rfl rfl (hi) dX3_slip_54 ?_
    refine lv_iload_n hx hb dX3_slip_55 rfl (lv_at hl 0 rfl) ?_
    refine lv_i2l hx hb dX3_slip_56 rfl ?_
    refine lv_ladd hx hb dX3_slip_57 ?_
    refine sg_last hx hb hK hP hD hS (hM.1 9 rfl) (hi) dX3_slip_58 (fun H locs hP hD hS => ?_)
    have hM := hM.a9 (k := (i).toNatClampNeg) (v := ((sL (uI (uS M 19 0) 6 (i).toNatClampNeg (((sI (uS M 19 0) 6 (i).toNatClampNeg) + v37))) 9 (i).toNatClampNeg) + v37.toInt64))
    refine lv_iload_n hx hb dX3_slip_59 rfl (lv_at hl 0 rfl) ?_
    exact sg_iret hx hb hr rfl hlocks hP hD hS (Nat.le_of_ble_eq_true rfl) (Nat.le_of_ble_eq_true rfl) dX3_slip_60 (by subst ev37; exact ⟨fun _ => rfl, by rw [if_pos (show tSlip M i x = 0 from h0)]; exact hM⟩)
  · skip
    have h0 : ¬ tSlip M i x = 0 := bI_0.mp c21
    refine lv_iconst (v := 0) hx hb dX3_slip_24 (by decide) ?_
    exact sg_iret hx hb hr rfl hlocks hP hD hS (Nat.le_of_ble_eq_true rfl) (Nat.le_of_ble_eq_true rfl) dX3_slip_25 (⟨fun h => absurd h h0, by rw [if_neg h0]; exact hM⟩)

theorem wi_X3_leave : ∀ w ∈ wsX30, w ∈ wsX3_leave := by decide +kernel
set_option maxHeartbeats 4000000 in
set_option maxRecDepth 100000 in
theorem c_X3_leave (l : Launch) (D : va_G) (Y : Nat → ClassId) (σ : sg_W) (sz : Nat) (ad : Nat → Nat) (M : MS) (i : Int32) (h6 : mem6 M) (hM : MW Y ad M σ) : Met l yX3_leave wsX3_leave ({ frames := 3, cells := 0, slots := 0, locals := 64 } : Room) (va_Pc [.ref (ad 0), .int i] (sg_U D Y σ sz)) (va_Qi (fun r σ' => (tLeave M i = 0 → r = sI M 6 (tN i)) ∧ MF Y ad σ (if tLeave M i = 0 then nLeave (uS M 19 0) i else uS M 19 (tLeave M i)) σ') (sg_B D σ sz) (sg_A σ sz)) 0 0 (sg_A σ sz) := by
  refine sg_met (cc := cX3_leave) (maxL := 2) (ret := (some .int)) (by decide) rfl (Nat.le_of_ble_eq_true rfl) ?_
  intro p e s m below meth c ls hx hb hml hr hown hts hlocks hnm hP hK hD hN hX hA hS hsz hl
  have hl : lv_has ls 2 [(0, .ref (ad 0)), (1, .int i)] := hl
  refine lv_aload_n hx hb dX3_leave_0 rfl (lv_at hl 0 rfl) ?_
  refine lv_aload_n hx hb dX3_leave_1 rfl (lv_at hl 0 rfl) ?_
  refine lv_iload_n hx hb dX3_leave_2 rfl (lv_at hl 1 rfl) ?_
  refine sg_calli hD hS hA (va_runV (As := [.int i]) (rest := [.ref (ad 0)]) ⟨hx, hb, hml, hown, hts⟩ (c_X3_isMember l D Y _ _ ad M i hM.self) (cwV 1 hts gX3_leave_X3_isMember rfl rfl rfl (by decide +kernel) ⟨Nat.le_of_ble_eq_true rfl, Nat.le_of_ble_eq_true rfl⟩) (sg_preV (q := (RX3, TX3, 20)) (hM.1 0 rfl) rfl hK hP hD hN hX hS hA) rfl rfl hl.1 rfl (lv_room (Nat.le_of_ble_eq_true rfl)) dX3_leave_3 ⟨Nat.le_of_ble_eq_true rfl, Nat.le_of_ble_eq_true rfl⟩) (fun r3 σ' H locs hw hP hD hS => ?_)
  obtain ⟨rfl, rfl⟩ := hw
  refine lv_aload_n hx hb dX3_leave_6 rfl (lv_at hl 0 rfl) ?_
  refine lv_iload_n hx hb dX3_leave_7 rfl (lv_at hl 1 rfl) ?_
  refine sg_calli hD hS hA (va_runV (As := [.int i]) (rest := [.int (bI (qM M i)), .ref (ad 0)]) ⟨hx, hb, hml, hown, hts⟩ (c_X3_isStaying l D Y _ _ ad M i h6 hM.self) (cwV 1 hts gX3_leave_X3_isStaying rfl rfl rfl (by decide +kernel) ⟨Nat.le_of_ble_eq_true rfl, Nat.le_of_ble_eq_true rfl⟩) (sg_preV (q := (RX3, TX3, 20)) (hM.1 0 rfl) rfl hK hP hD hN hX hS hA) rfl rfl hl.1 rfl (lv_room (Nat.le_of_ble_eq_true rfl)) dX3_leave_8 ⟨Nat.le_of_ble_eq_true rfl, Nat.le_of_ble_eq_true rfl⟩) (fun r8 σ' H locs hw hP hD hS => ?_)
  obtain ⟨rfl, rfl⟩ := hw
  refine sg_calli hD hS hA (va_runV (As := [.int (bI (qM M i)), .int (bI (qT M i))]) (rest := []) ⟨hx, hb, hml, hown, hts⟩ (c_X3_mayBoth l D Y _ _ ad M ((bI (qM M i))) ((bI (qT M i))) hM.self) (cwV 2 hts gX3_leave_X3_mayBoth rfl rfl rfl (by decide +kernel) ⟨Nat.le_of_ble_eq_true rfl, Nat.le_of_ble_eq_true rfl⟩) (sg_preV (q := (RX3, TX3, 20)) (hM.1 0 rfl) rfl hK hP hD hN hX hS hA) rfl rfl hl.1 rfl (lv_room (Nat.le_of_ble_eq_true rfl)) dX3_leave_11 ⟨Nat.le_of_ble_eq_true rfl, Nat.le_of_ble_eq_true rfl⟩) (fun r11 σ' H locs hw hP hD hS => ?_)
  obtain ⟨rfl, hw⟩ := hw
  have hM := hM.trans hw
  refine lv_if_ne (tgt := 19) hx hb dX3_leave_14 (by decide) (fun c14 => ?_) (fun c14 => ?_)
  · skip
    have h0 : t2 (bI (qM M i)) (bI (qT M i)) = 0 := by rw [bI_0] at c14; exact Classical.not_not.mp c14
    rw [h0] at hM
    refine lv_aload_n hx hb dX3_leave_19 rfl (lv_at hl 0 rfl) ?_
    have hi : vp_in i 6 := qM_in h6 (by grind [bI, t2])
    refine va_get (ref := RX3) (v := .ref (ad 5)) hx hb hts wi_X3_leave hown hK (sg_one hP (hM.1 0 rfl)) 0 rfl rfl 5 (by decide) (hts (.fieldLink RX3 24 RX3 "left" "[Z") (by decide +kernel)) (fun _ h => h) rfl dX3_leave_20 ?_
    refine lv_iload_n hx hb dX3_leave_23 rfl (lv_at hl 1 rfl) ?_
    refine lv_iconst (v := 1) hx hb dX3_leave_24 (by decide) ?_
    refine sg_zast hx hb hK hP hD hS (hM.1 5 rfl) (hi) (by decide) dX3_leave_25 (fun H locs hP hD hS => ?_)
    have hM := hM.a5 (k := (i).toNatClampNeg) (v := 1)
    refine lv_aload_n hx hb dX3_leave_26 rfl (lv_at hl 0 rfl) ?_
    refine va_get (ref := RX3) (v := .ref (ad 7)) hx hb hts wi_X3_leave hown hK (sg_one hP (hM.1 0 rfl)) 0 rfl rfl 7 (by decide) (hts (.fieldLink RX3 31 RX3 "back" "[I") (by decide +kernel)) (fun _ h => h) rfl dX3_leave_27 ?_
    refine lv_iload_n hx hb dX3_leave_30 rfl (lv_at hl 1 rfl) ?_
    refine lv_aload_n hx hb dX3_leave_31 rfl (lv_at hl 0 rfl) ?_
    refine va_get (ref := RX3) (v := .ref (ad 6)) hx hb hts wi_X3_leave hown hK (sg_one hP (hM.1 0 rfl)) 0 rfl rfl 6 (by decide) (hts (.fieldLink RX3 28 RX3 "money" "[I") (by decide +kernel)) (fun _ h => h) rfl dX3_leave_32 ?_
    refine lv_iload_n hx hb dX3_leave_35 rfl (lv_at hl 1 rfl) ?_
    refine va_iald hx hb hK (sg_one hP (hM.1 6 rfl)) 0 0 rfl rfl (hi) dX3_leave_36 ?_
    refine sg_iast hx hb hK hP hD hS (hM.1 7 rfl) (hi) dX3_leave_37 (fun H locs hP hD hS => ?_)
    have hM := hM.a7 (k := (i).toNatClampNeg) (v := (sI (uI (uS M 19 0) 5 (i).toNatClampNeg 1) 6 (i).toNatClampNeg))
    refine lv_aload_n hx hb dX3_leave_38 rfl (lv_at hl 0 rfl) ?_
    refine va_get (ref := RX3) (v := .ref (ad 6)) hx hb hts wi_X3_leave hown hK (sg_one hP (hM.1 0 rfl)) 0 rfl rfl 6 (by decide) (hts (.fieldLink RX3 28 RX3 "money" "[I") (by decide +kernel)) (fun _ h => h) rfl dX3_leave_39 ?_
    refine lv_iload_n hx hb dX3_leave_42 rfl (lv_at hl 1 rfl) ?_
    refine lv_iconst (v := 0) hx hb dX3_leave_43 (by decide) ?_
    refine sg_iast hx hb hK hP hD hS (hM.1 6 rfl) (hi) dX3_leave_44 (fun H locs hP hD hS => ?_)
    have hM := hM.a6 (k := (i).toNatClampNeg) (v := 0)
    refine lv_aload_n hx hb dX3_leave_45 rfl (lv_at hl 0 rfl) ?_
    refine va_get (ref := RX3) (v := .ref (ad 7)) hx hb hts wi_X3_leave hown hK (sg_one hP (hM.1 0 rfl)) 0 rfl rfl 7 (by decide) (hts (.fieldLink RX3 31 RX3 "back" "[I") (by decide +kernel)) (fun _ h => h) rfl dX3_leave_46 ?_
    refine lv_iload_n hx hb dX3_leave_49 rfl (lv_at hl 1 rfl) ?_
    refine va_iald hx hb hK (sg_one hP (hM.1 7 rfl)) 0 0 rfl rfl (hi) dX3_leave_50 ?_
    exact sg_iret hx hb hr rfl hlocks hP hD hS (Nat.le_of_ble_eq_true rfl) (Nat.le_of_ble_eq_true rfl) dX3_leave_51 (⟨fun _ => by simp [sI_uI, sI_uS, upd_at], by rw [if_pos (show tLeave M i = 0 from h0)]; exact hM⟩)
  · skip
    have h0 : ¬ tLeave M i = 0 := bI_0.mp c14
    refine lv_iconst (v := 0) hx hb dX3_leave_17 (by decide) ?_
    exact sg_iret hx hb hr rfl hlocks hP hD hS (Nat.le_of_ble_eq_true rfl) (Nat.le_of_ble_eq_true rfl) dX3_leave_18 (⟨fun h => absurd h h0, by rw [if_neg h0]; exact hM⟩)
end
section
theorem vp_q {i d : Int32} (hi : vp_in i 6) (hd : qIn d 0 59) : vp_in (10 * i + d / 6) 60 := by
  obtain ⟨j, hj, rfl⟩ := vp_in_of hi (by decide)
  obtain ⟨t, ht, rfl⟩ := nI_of2 (M := 59) (n := 59) rfl (x := d) (by have := hd.1; exact Int32.not_lt.mpr this) hd.2
  rw [show (6 : Int32) = nI 6 from rfl, pk_div (by omega) (by omega) (by omega), nI_10]
  exact vp_in_nI (by omega) (by decide)
theorem vp_y {d : Int32} (hd : qIn d 0 4) : vp_in d 5 := by
  obtain ⟨t, ht, rfl⟩ := nI_of2 (M := 4) (n := 4) rfl (x := d) (by have := hd.1; exact Int32.not_lt.mpr this) hd.2
  exact vp_in_nI (by omega) (by decide)
theorem mem_in {M : MS} (h6 : mem6 M) (h : 0 ≤ sS M 0 ∧ sS M 3 < 6) : vp_in (sS M 3) 6 := by
  obtain ⟨n, hn, e⟩ := h6
  rw [e] at h ⊢
  have h2 := (nI_ltI (a := n) (b := 6) (by omega) (by omega)).mp h.2
  exact vp_in_nI h2 (by decide)
theorem i_cancel (x : Int32) : x + 1 - 1 = x := by rw [Int32.add_sub_cancel]
theorem cN_uS {M : MS} {n j y : Nat} {v : Int32} : cN (uS M n v) j y = cN M j y := rfl
theorem wi_X3_bought : ∀ w ∈ wsX30, w ∈ wsX3_bought := by decide +kernel
set_option maxHeartbeats 4000000 in
set_option maxRecDepth 100000 in
theorem c_X3_bought (l : Launch) (D : va_G) (Y : Nat → ClassId) (σ : sg_W) (sz : Nat) (ad : Nat → Nat) (M : MS) (i d : Int32) (h6 : mem6 M) (hM : MW Y ad M σ) : Met l yX3_bought wsX3_bought ({ frames := 2, cells := 0, slots := 0, locals := 43 } : Room) (va_Pc [.ref (ad 0), .int i, .int d] (sg_U D Y σ sz)) (va_Qi (fun r σ' => (tMonth M i d = 0 → r = rBought M i d) ∧ MF Y ad σ (uS M 19 (tMonth M i d)) σ') (sg_B D σ sz) (sg_A σ sz)) 0 0 (sg_A σ sz) := by
  refine sg_met (cc := cX3_bought) (maxL := 3) (ret := (some .int)) (by decide) rfl (Nat.le_of_ble_eq_true rfl) ?_
  intro p e s m below meth c ls hx hb hml hr hown hts hlocks hnm hP hK hD hN hX hA hS hsz hl
  have hl : lv_has ls 3 [(0, .ref (ad 0)), (1, .int i), (2, .int d)] := hl
  refine lv_aload_n hx hb dX3_bought_0 rfl (lv_at hl 0 rfl) ?_
  refine sg_cutwi (D := D) hS (j := 24) (ls := ls) (rest := [.ref (ad 0)]) 0 0 (fun x9 σ' => x9 = (bI (qM M i ∧ qIn d 0 59)) ∧ MF Y ad σ M σ') (fun x9 σ' H locs hj9 hP hD hS => ?_) (fun k24 => ?_)
  · obtain ⟨rfl, hM⟩ := hj9
    refine sg_calli hD hS hA (va_runV (As := [.int (bI (qM M i ∧ qIn d 0 59))]) (rest := []) ⟨hx, hb, hml, hown, hts⟩ (c_X3_may l D Y _ _ ad M ((bI (qM M i ∧ qIn d 0 59))) (bI_01) hM.self) (cwV 1 hts gX3_bought_X3_may rfl rfl rfl (by decide +kernel) ⟨Nat.le_of_ble_eq_true rfl, Nat.le_of_ble_eq_true rfl⟩) (sg_preV (q := (RX3, TX3, 20)) (hM.1 0 rfl) rfl hK hP hD hN hX hS hA) rfl rfl hl.1 rfl (lv_room (Nat.le_of_ble_eq_true rfl)) dX3_bought_24 ⟨Nat.le_of_ble_eq_true rfl, Nat.le_of_ble_eq_true rfl⟩) (fun r24 σ' H locs hw hP hD hS => ?_)
    obtain ⟨rfl, hw⟩ := hw
    have hM := hM.trans hw
    refine lv_if_ne (tgt := 32) hx hb dX3_bought_27 (by decide) (fun c27 => ?_) (fun c27 => ?_)
    · skip
      have h0 : t1 (bI (qM M i ∧ qIn d 0 59)) = 0 := by rw [t1, if_neg c27]
      rw [h0] at hM
      refine lv_iload_n hx hb dX3_bought_32 rfl (lv_at hl 2 rfl) ?_
      have hi : vp_in i 6 := qM_in h6 (by grind [bI, t1])
      have hd : qIn d 0 59 := by grind [bI, t1]
      have hq : vp_in (10 * i + d / 6) 60 := vp_q hi hd
      refine lv_bipush (v := 6) hx hb dX3_bought_33 (by decide) ?_
      refine lv_irem hx hb dX3_bought_35 (by decide) ?_
      refine lv_iconst (v := 5) hx hb dX3_bought_36 (by decide) ?_
      refine lv_icmp_ne (tgt := 57) hx hb dX3_bought_37 (by decide) (fun c37 => ?_) (fun c37 => ?_)
      · skip
        refine lv_iconst (v := 0) hx hb dX3_bought_57 (by decide) ?_
        exact sg_iret hx hb hr rfl hlocks hP hD hS (Nat.le_of_ble_eq_true rfl) (Nat.le_of_ble_eq_true rfl) dX3_bought_58 (⟨fun _ => by grind [rBought, xI_uS], by rw [show tMonth M i d = 0 from h0]; exact hM⟩)
      · skip
        refine lv_aload_n hx hb dX3_bought_40 rfl (lv_at hl 0 rfl) ?_
        refine va_get (ref := RX3) (v := .ref (ad 15)) hx hb hts wi_X3_bought hown hK (sg_one hP (hM.1 0 rfl)) 0 rfl rfl 15 (by decide) (hts (.fieldLink RX3 56 RX3 "bought" "[I") (by decide +kernel)) (fun _ h => h) rfl dX3_bought_41 ?_
        refine lv_bipush (v := 10) hx hb dX3_bought_44 (by decide) ?_
        refine lv_iload_n hx hb dX3_bought_46 rfl (lv_at hl 1 rfl) ?_
        refine lv_imul hx hb dX3_bought_47 ?_
        refine lv_iload_n hx hb dX3_bought_48 rfl (lv_at hl 2 rfl) ?_
        refine lv_bipush (v := 6) hx hb dX3_bought_49 (by decide) ?_
        refine lv_idiv hx hb dX3_bought_51 (by decide) ?_
        refine lv_iadd hx hb dX3_bought_52 ?_
        refine va_iald hx hb hK (sg_one hP (hM.1 15 rfl)) 0 0 rfl rfl (hq) dX3_bought_53 ?_
        refine lv_goto (tgt := 58) hx hb dX3_bought_54 (by decide) ?_
        exact sg_iret hx hb hr rfl hlocks hP hD hS (Nat.le_of_ble_eq_true rfl) (Nat.le_of_ble_eq_true rfl) dX3_bought_58 (⟨fun _ => by grind [rBought, xI_uS], by rw [show tMonth M i d = 0 from h0]; exact hM⟩)
    · skip
      have h0 : ¬ tMonth M i d = 0 := by show ¬ t1 _ = 0; rw [t1, if_pos c27]; decide
      refine lv_iconst (v := 0) hx hb dX3_bought_30 (by decide) ?_
      exact sg_iret hx hb hr rfl hlocks hP hD hS (Nat.le_of_ble_eq_true rfl) (Nat.le_of_ble_eq_true rfl) dX3_bought_31 (⟨fun h => absurd h h0, hM⟩)
  · skip
    refine lv_aload_n hx hb dX3_bought_1 rfl (lv_at hl 0 rfl) ?_
    refine lv_iload_n hx hb dX3_bought_2 rfl (lv_at hl 1 rfl) ?_
    refine sg_calli hD hS hA (va_runV (As := [.int i]) (rest := [.ref (ad 0)]) ⟨hx, hb, hml, hown, hts⟩ (c_X3_isMember l D Y _ _ ad M i hM.self) (cwV 1 hts gX3_bought_X3_isMember rfl rfl rfl (by decide +kernel) ⟨Nat.le_of_ble_eq_true rfl, Nat.le_of_ble_eq_true rfl⟩) (sg_preV (q := (RX3, TX3, 20)) (hM.1 0 rfl) rfl hK hP hD hN hX hS hA) rfl rfl hl.1 rfl (lv_room (Nat.le_of_ble_eq_true rfl)) dX3_bought_3 ⟨Nat.le_of_ble_eq_true rfl, Nat.le_of_ble_eq_true rfl⟩) (fun r3 σ' H locs hw hP hD hS => ?_)
    obtain ⟨rfl, rfl⟩ := hw
    refine lv_if_eq (tgt := 23) hx hb dX3_bought_6 (by decide) (fun c6 => ?_) (fun c6 => ?_)
    · skip
      refine lv_iconst (v := 0) hx hb dX3_bought_23 (by decide) ?_
      exact k24 _ _ _ _ (⟨by grind [bI], hM⟩) hP hD hS
    · skip
      refine lv_iload_n hx hb dX3_bought_9 rfl (lv_at hl 2 rfl) ?_
      refine lv_iconst (v := 0) hx hb dX3_bought_10 (by decide) ?_
      refine lv_bipush (v := 59) hx hb dX3_bought_11 (by decide) ?_
      refine sg_calli hD hS hA (va_runS (As := [.int d, .int 0, .int 59]) (rest := [.ref (ad 0)]) ⟨hx, hb, hml, hown, hts⟩ (c_X3_isIn l D Y _ _ d 0 59) (va_cwS 3 hts gX3_bought_X3_isIn rfl rfl rfl (by decide +kernel) ⟨Nat.le_of_ble_eq_true rfl, Nat.le_of_ble_eq_true rfl⟩) (sg_preS hK hP hD hN hX hS hA) rfl rfl hl.1 rfl (lv_room (Nat.le_of_ble_eq_true rfl)) dX3_bought_13 ⟨Nat.le_of_ble_eq_true rfl, Nat.le_of_ble_eq_true rfl⟩) (fun r13 σ' H locs hw hP hD hS => ?_)
      obtain ⟨rfl, rfl⟩ := hw
      refine lv_if_eq (tgt := 23) hx hb dX3_bought_16 (by decide) (fun c16 => ?_) (fun c16 => ?_)
      · skip
        refine lv_iconst (v := 0) hx hb dX3_bought_23 (by decide) ?_
        exact k24 _ _ _ _ (⟨by grind [bI], hM⟩) hP hD hS
      · skip
        refine lv_iconst (v := 1) hx hb dX3_bought_19 (by decide) ?_
        refine lv_goto (tgt := 24) hx hb dX3_bought_20 (by decide) ?_
        exact k24 _ _ _ _ (⟨by grind [bI], hM⟩) hP hD hS

theorem wi_X3_paidEach : ∀ w ∈ wsX30, w ∈ wsX3_paidEach := by decide +kernel
set_option maxHeartbeats 4000000 in
set_option maxRecDepth 100000 in
theorem c_X3_paidEach (l : Launch) (D : va_G) (Y : Nat → ClassId) (σ : sg_W) (sz : Nat) (ad : Nat → Nat) (M : MS) (i d : Int32) (h6 : mem6 M) (hM : MW Y ad M σ) : Met l yX3_paidEach wsX3_paidEach ({ frames := 2, cells := 0, slots := 0, locals := 43 } : Room) (va_Pc [.ref (ad 0), .int i, .int d] (sg_U D Y σ sz)) (va_Qi (fun r σ' => (tMonth M i d = 0 → r = rPaid M i d) ∧ MF Y ad σ (uS M 19 (tMonth M i d)) σ') (sg_B D σ sz) (sg_A σ sz)) 0 0 (sg_A σ sz) := by
  refine sg_met (cc := cX3_paidEach) (maxL := 3) (ret := (some .int)) (by decide) rfl (Nat.le_of_ble_eq_true rfl) ?_
  intro p e s m below meth c ls hx hb hml hr hown hts hlocks hnm hP hK hD hN hX hA hS hsz hl
  have hl : lv_has ls 3 [(0, .ref (ad 0)), (1, .int i), (2, .int d)] := hl
  refine lv_aload_n hx hb dX3_paidEach_0 rfl (lv_at hl 0 rfl) ?_
  refine sg_cutwi (D := D) hS (j := 24) (ls := ls) (rest := [.ref (ad 0)]) 0 0 (fun x9 σ' => x9 = (bI (qM M i ∧ qIn d 0 59)) ∧ MF Y ad σ M σ') (fun x9 σ' H locs hj9 hP hD hS => ?_) (fun k24 => ?_)
  · obtain ⟨rfl, hM⟩ := hj9
    refine sg_calli hD hS hA (va_runV (As := [.int (bI (qM M i ∧ qIn d 0 59))]) (rest := []) ⟨hx, hb, hml, hown, hts⟩ (c_X3_may l D Y _ _ ad M ((bI (qM M i ∧ qIn d 0 59))) (bI_01) hM.self) (cwV 1 hts gX3_paidEach_X3_may rfl rfl rfl (by decide +kernel) ⟨Nat.le_of_ble_eq_true rfl, Nat.le_of_ble_eq_true rfl⟩) (sg_preV (q := (RX3, TX3, 20)) (hM.1 0 rfl) rfl hK hP hD hN hX hS hA) rfl rfl hl.1 rfl (lv_room (Nat.le_of_ble_eq_true rfl)) dX3_paidEach_24 ⟨Nat.le_of_ble_eq_true rfl, Nat.le_of_ble_eq_true rfl⟩) (fun r24 σ' H locs hw hP hD hS => ?_)
    obtain ⟨rfl, hw⟩ := hw
    have hM := hM.trans hw
    refine lv_if_ne (tgt := 32) hx hb dX3_paidEach_27 (by decide) (fun c27 => ?_) (fun c27 => ?_)
    · skip
      have h0 : t1 (bI (qM M i ∧ qIn d 0 59)) = 0 := by rw [t1, if_neg c27]
      rw [h0] at hM
      refine lv_iload_n hx hb dX3_paidEach_32 rfl (lv_at hl 2 rfl) ?_
      have hi : vp_in i 6 := qM_in h6 (by grind [bI, t1])
      have hd : qIn d 0 59 := by grind [bI, t1]
      have hq : vp_in (10 * i + d / 6) 60 := vp_q hi hd
      refine lv_bipush (v := 6) hx hb dX3_paidEach_33 (by decide) ?_
      refine lv_irem hx hb dX3_paidEach_35 (by decide) ?_
      refine lv_iconst (v := 5) hx hb dX3_paidEach_36 (by decide) ?_
      refine lv_icmp_ne (tgt := 74) hx hb dX3_paidEach_37 (by decide) (fun c37 => ?_) (fun c37 => ?_)
      · skip
        refine lv_iconst (v := (-1)) hx hb dX3_paidEach_74 (by decide) ?_
        exact sg_iret hx hb hr rfl hlocks hP hD hS (Nat.le_of_ble_eq_true rfl) (Nat.le_of_ble_eq_true rfl) dX3_paidEach_75 (⟨fun _ => by grind [rPaid, xI_uS, Int32.not_le, Int32.not_lt], by rw [show tMonth M i d = 0 from h0]; exact hM⟩)
      · skip
        refine lv_aload_n hx hb dX3_paidEach_40 rfl (lv_at hl 0 rfl) ?_
        refine va_get (ref := RX3) (v := .ref (ad 15)) hx hb hts wi_X3_paidEach hown hK (sg_one hP (hM.1 0 rfl)) 0 rfl rfl 15 (by decide) (hts (.fieldLink RX3 56 RX3 "bought" "[I") (by decide +kernel)) (fun _ h => h) rfl dX3_paidEach_41 ?_
        refine lv_bipush (v := 10) hx hb dX3_paidEach_44 (by decide) ?_
        refine lv_iload_n hx hb dX3_paidEach_46 rfl (lv_at hl 1 rfl) ?_
        refine lv_imul hx hb dX3_paidEach_47 ?_
        refine lv_iload_n hx hb dX3_paidEach_48 rfl (lv_at hl 2 rfl) ?_
        refine lv_bipush (v := 6) hx hb dX3_paidEach_49 (by decide) ?_
        refine lv_idiv hx hb dX3_paidEach_51 (by decide) ?_
        refine lv_iadd hx hb dX3_paidEach_52 ?_
        refine va_iald hx hb hK (sg_one hP (hM.1 15 rfl)) 0 0 rfl rfl (hq) dX3_paidEach_53 ?_
        refine lv_if_le (tgt := 74) hx hb dX3_paidEach_54 (by decide) (fun c54 => ?_) (fun c54 => ?_)
        · skip
          refine lv_iconst (v := (-1)) hx hb dX3_paidEach_74 (by decide) ?_
          exact sg_iret hx hb hr rfl hlocks hP hD hS (Nat.le_of_ble_eq_true rfl) (Nat.le_of_ble_eq_true rfl) dX3_paidEach_75 (⟨fun _ => by grind [rPaid, xI_uS, Int32.not_le, Int32.not_lt], by rw [show tMonth M i d = 0 from h0]; exact hM⟩)
        · skip
          refine lv_aload_n hx hb dX3_paidEach_57 rfl (lv_at hl 0 rfl) ?_
          refine va_get (ref := RX3) (v := .ref (ad 17)) hx hb hts wi_X3_paidEach hown hK (sg_one hP (hM.1 0 rfl)) 0 rfl rfl 17 (by decide) (hts (.fieldLink RX3 62 RX3 "paid" "[I") (by decide +kernel)) (fun _ h => h) rfl dX3_paidEach_58 ?_
          refine lv_bipush (v := 10) hx hb dX3_paidEach_61 (by decide) ?_
          refine lv_iload_n hx hb dX3_paidEach_63 rfl (lv_at hl 1 rfl) ?_
          refine lv_imul hx hb dX3_paidEach_64 ?_
          refine lv_iload_n hx hb dX3_paidEach_65 rfl (lv_at hl 2 rfl) ?_
          refine lv_bipush (v := 6) hx hb dX3_paidEach_66 (by decide) ?_
          refine lv_idiv hx hb dX3_paidEach_68 (by decide) ?_
          refine lv_iadd hx hb dX3_paidEach_69 ?_
          refine va_iald hx hb hK (sg_one hP (hM.1 17 rfl)) 0 0 rfl rfl (hq) dX3_paidEach_70 ?_
          refine lv_goto (tgt := 75) hx hb dX3_paidEach_71 (by decide) ?_
          exact sg_iret hx hb hr rfl hlocks hP hD hS (Nat.le_of_ble_eq_true rfl) (Nat.le_of_ble_eq_true rfl) dX3_paidEach_75 (⟨fun _ => by grind [rPaid, xI_uS, Int32.not_le, Int32.not_lt], by rw [show tMonth M i d = 0 from h0]; exact hM⟩)
    · skip
      have h0 : ¬ tMonth M i d = 0 := by show ¬ t1 _ = 0; rw [t1, if_pos c27]; decide
      refine lv_iconst (v := 0) hx hb dX3_paidEach_30 (by decide) ?_
      exact sg_iret hx hb hr rfl hlocks hP hD hS (Nat.le_of_ble_eq_true rfl) (Nat.le_of_ble_eq_true rfl) dX3_paidEach_31 (⟨fun h => absurd h h0, hM⟩)
  · skip
    refine lv_aload_n hx hb dX3_paidEach_1 rfl (lv_at hl 0 rfl) ?_
    refine lv_iload_n hx hb dX3_paidEach_2 rfl (lv_at hl 1 rfl) ?_
    refine sg_calli hD hS hA (va_runV (As := [.int i]) (rest := [.ref (ad 0)]) ⟨hx, hb, hml, hown, hts⟩ (c_X3_isMember l D Y _ _ ad M i hM.self) (cwV 1 hts gX3_paidEach_X3_isMember rfl rfl rfl (by decide +kernel) ⟨Nat.le_of_ble_eq_true rfl, Nat.le_of_ble_eq_true rfl⟩) (sg_preV (q := (RX3, TX3, 20)) (hM.1 0 rfl) rfl hK hP hD hN hX hS hA) rfl rfl hl.1 rfl (lv_room (Nat.le_of_ble_eq_true rfl)) dX3_paidEach_3 ⟨Nat.le_of_ble_eq_true rfl, Nat.le_of_ble_eq_true rfl⟩) (fun r3 σ' H locs hw hP hD hS => ?_)
    obtain ⟨rfl, rfl⟩ := hw
    refine lv_if_eq (tgt := 23) hx hb dX3_paidEach_6 (by decide) (fun c6 => ?_) (fun c6 => ?_)
    · skip
      refine lv_iconst (v := 0) hx hb dX3_paidEach_23 (by decide) ?_
      exact k24 _ _ _ _ (⟨by grind [bI], hM⟩) hP hD hS
    · skip
      refine lv_iload_n hx hb dX3_paidEach_9 rfl (lv_at hl 2 rfl) ?_
      refine lv_iconst (v := 0) hx hb dX3_paidEach_10 (by decide) ?_
      refine lv_bipush (v := 59) hx hb dX3_paidEach_11 (by decide) ?_
      refine sg_calli hD hS hA (va_runS (As := [.int d, .int 0, .int 59]) (rest := [.ref (ad 0)]) ⟨hx, hb, hml, hown, hts⟩ (c_X3_isIn l D Y _ _ d 0 59) (va_cwS 3 hts gX3_paidEach_X3_isIn rfl rfl rfl (by decide +kernel) ⟨Nat.le_of_ble_eq_true rfl, Nat.le_of_ble_eq_true rfl⟩) (sg_preS hK hP hD hN hX hS hA) rfl rfl hl.1 rfl (lv_room (Nat.le_of_ble_eq_true rfl)) dX3_paidEach_13 ⟨Nat.le_of_ble_eq_true rfl, Nat.le_of_ble_eq_true rfl⟩) (fun r13 σ' H locs hw hP hD hS => ?_)
      obtain ⟨rfl, rfl⟩ := hw
      refine lv_if_eq (tgt := 23) hx hb dX3_paidEach_16 (by decide) (fun c16 => ?_) (fun c16 => ?_)
      · skip
        refine lv_iconst (v := 0) hx hb dX3_paidEach_23 (by decide) ?_
        exact k24 _ _ _ _ (⟨by grind [bI], hM⟩) hP hD hS
      · skip
        refine lv_iconst (v := 1) hx hb dX3_paidEach_19 (by decide) ?_
        refine lv_goto (tgt := 24) hx hb dX3_paidEach_20 (by decide) ?_
        exact k24 _ _ _ _ (⟨by grind [bI], hM⟩) hP hD hS

set_option maxHeartbeats 4000000 in
set_option maxRecDepth 100000 in
theorem c_X3_counted (l : Launch) (D : va_G) (Y : Nat → ClassId) (σ : sg_W) (sz : Nat) (ad : Nat → Nat) (M : MS) (i d : Int32) (h6 : mem6 M) (ho : ∀ k, k < 60 → vp_in (sI M 18 k) 60) (hM : MW Y ad M σ) : Met l yX3_counted wsX3_counted ({ frames := 2, cells := 0, slots := 0, locals := 43 } : Room) (va_Pc [.ref (ad 0), .int i, .int d] (sg_U D Y σ sz)) (va_Ql (fun r σ' => (tYear M i d = 0 → r = cN M (tN i) (tN d)) ∧ MF Y ad σ (uS M 19 (tYear M i d)) σ') (sg_B D σ sz) (sg_A σ sz)) 0 0 (sg_A σ sz) := by
  refine sg_met (cc := cX3_counted) (maxL := 3) (ret := (some .long)) (by decide) rfl (Nat.le_of_ble_eq_true rfl) ?_
  intro p e s m below meth c ls hx hb hml hr hown hts hlocks hnm hP hK hD hN hX hA hS hsz hl
  have hl : lv_has ls 3 [(0, .ref (ad 0)), (1, .int i), (2, .int d)] := hl
  refine lv_aload_n hx hb dX3_counted_0 rfl (lv_at hl 0 rfl) ?_
  refine sg_cutwi (D := D) hS (j := 23) (ls := ls) (rest := [.ref (ad 0)]) 0 0 (fun x9 σ' => x9 = (bI (qM M i ∧ qIn d 0 4)) ∧ MF Y ad σ M σ') (fun x9 σ' H locs hj9 hP hD hS => ?_) (fun k23 => ?_)
  · obtain ⟨rfl, hM⟩ := hj9
    refine sg_calli hD hS hA (va_runV (As := [.int (bI (qM M i ∧ qIn d 0 4))]) (rest := []) ⟨hx, hb, hml, hown, hts⟩ (c_X3_may l D Y _ _ ad M ((bI (qM M i ∧ qIn d 0 4))) (bI_01) hM.self) (cwV 1 hts gX3_counted_X3_may rfl rfl rfl (by decide +kernel) ⟨Nat.le_of_ble_eq_true rfl, Nat.le_of_ble_eq_true rfl⟩) (sg_preV (q := (RX3, TX3, 20)) (hM.1 0 rfl) rfl hK hP hD hN hX hS hA) rfl rfl hl.1 rfl (lv_room (Nat.le_of_ble_eq_true rfl)) dX3_counted_23 ⟨Nat.le_of_ble_eq_true rfl, Nat.le_of_ble_eq_true rfl⟩) (fun r23 σ' H locs hw hP hD hS => ?_)
    obtain ⟨rfl, hw⟩ := hw
    have hM := hM.trans hw
    refine lv_if_eq (tgt := 38) hx hb dX3_counted_26 (by decide) (fun c26 => ?_) (fun c26 => ?_)
    · skip
      refine lv_lconst (v := 0) hx hb dX3_counted_38 (by decide) ?_
      exact sg_lret hx hb hr hlocks hP hD hS (Nat.le_of_ble_eq_true rfl) (Nat.le_of_ble_eq_true rfl) dX3_counted_39 (⟨by grind [tYear, t1, bI, cN_uS], hM⟩)
    · skip
      have hi : vp_in i 6 := qM_in h6 (by grind [bI, t1])
      have hy : vp_in d 5 := vp_y (by grind [bI, t1])
      have ei := vp_eq hi (by decide)
      have ey := vp_eq hy (by decide)
      rw [ei, ey] at hl
      refine lv_aload_n hx hb dX3_counted_29 rfl (lv_at hl 0 rfl) ?_
      refine lv_iload_n hx hb dX3_counted_30 rfl (lv_at hl 1 rfl) ?_
      refine lv_iload_n hx hb dX3_counted_31 rfl (lv_at hl 2 rfl) ?_
      refine sg_calll hD hS hA (va_runV (As := [.int (nI (tN i)), .int (nI (tN d))]) (rest := []) ⟨hx, hb, hml, hown, hts⟩ (c_X3_countedIn l D Y _ _ ad (uS M 19 (t1 ((bI (qM M i ∧ qIn d 0 4))))) (tN i) (tN d) (vp_lt hi) (vp_lt hy) ho hM.self) (cwV 2 hts gX3_counted_X3_countedIn rfl rfl rfl (by decide +kernel) ⟨Nat.le_of_ble_eq_true rfl, Nat.le_of_ble_eq_true rfl⟩) (sg_preV (q := (RX3, TX3, 20)) (hM.1 0 rfl) rfl hK hP hD hN hX hS hA) rfl rfl hl.1 rfl (lv_room (Nat.le_of_ble_eq_true rfl)) dX3_counted_32 ⟨Nat.le_of_ble_eq_true rfl, Nat.le_of_ble_eq_true rfl⟩) (fun r32 σ' H locs hw hP hD hS => ?_)
      obtain ⟨er32, rfl⟩ := hw
      refine lv_goto (tgt := 39) hx hb dX3_counted_35 (by decide) ?_
      exact sg_lret hx hb hr hlocks hP hD hS (Nat.le_of_ble_eq_true rfl) (Nat.le_of_ble_eq_true rfl) dX3_counted_39 (⟨by grind [tYear, t1, bI, cN_uS], hM⟩)
  · skip
    refine lv_aload_n hx hb dX3_counted_1 rfl (lv_at hl 0 rfl) ?_
    refine lv_iload_n hx hb dX3_counted_2 rfl (lv_at hl 1 rfl) ?_
    refine sg_calli hD hS hA (va_runV (As := [.int i]) (rest := [.ref (ad 0)]) ⟨hx, hb, hml, hown, hts⟩ (c_X3_isMember l D Y _ _ ad M i hM.self) (cwV 1 hts gX3_counted_X3_isMember rfl rfl rfl (by decide +kernel) ⟨Nat.le_of_ble_eq_true rfl, Nat.le_of_ble_eq_true rfl⟩) (sg_preV (q := (RX3, TX3, 20)) (hM.1 0 rfl) rfl hK hP hD hN hX hS hA) rfl rfl hl.1 rfl (lv_room (Nat.le_of_ble_eq_true rfl)) dX3_counted_3 ⟨Nat.le_of_ble_eq_true rfl, Nat.le_of_ble_eq_true rfl⟩) (fun r3 σ' H locs hw hP hD hS => ?_)
    obtain ⟨rfl, rfl⟩ := hw
    refine lv_if_eq (tgt := 22) hx hb dX3_counted_6 (by decide) (fun c6 => ?_) (fun c6 => ?_)
    · skip
      refine lv_iconst (v := 0) hx hb dX3_counted_22 (by decide) ?_
      exact k23 _ _ _ _ (⟨by grind [bI], hM⟩) hP hD hS
    · skip
      refine lv_iload_n hx hb dX3_counted_9 rfl (lv_at hl 2 rfl) ?_
      refine lv_iconst (v := 0) hx hb dX3_counted_10 (by decide) ?_
      refine lv_iconst (v := 4) hx hb dX3_counted_11 (by decide) ?_
      refine sg_calli hD hS hA (va_runS (As := [.int d, .int 0, .int 4]) (rest := [.ref (ad 0)]) ⟨hx, hb, hml, hown, hts⟩ (c_X3_isIn l D Y _ _ d 0 4) (va_cwS 3 hts gX3_counted_X3_isIn rfl rfl rfl (by decide +kernel) ⟨Nat.le_of_ble_eq_true rfl, Nat.le_of_ble_eq_true rfl⟩) (sg_preS hK hP hD hN hX hS hA) rfl rfl hl.1 rfl (lv_room (Nat.le_of_ble_eq_true rfl)) dX3_counted_12 ⟨Nat.le_of_ble_eq_true rfl, Nat.le_of_ble_eq_true rfl⟩) (fun r12 σ' H locs hw hP hD hS => ?_)
      obtain ⟨rfl, rfl⟩ := hw
      refine lv_if_eq (tgt := 22) hx hb dX3_counted_15 (by decide) (fun c15 => ?_) (fun c15 => ?_)
      · skip
        refine lv_iconst (v := 0) hx hb dX3_counted_22 (by decide) ?_
        exact k23 _ _ _ _ (⟨by grind [bI], hM⟩) hP hD hS
      · skip
        refine lv_iconst (v := 1) hx hb dX3_counted_18 (by decide) ?_
        refine lv_goto (tgt := 23) hx hb dX3_counted_19 (by decide) ?_
        exact k23 _ _ _ _ (⟨by grind [bI], hM⟩) hP hD hS

theorem wi_X3_join : ∀ w ∈ wsX30, w ∈ wsX3_join := by decide +kernel
set_option maxHeartbeats 4000000 in
set_option maxRecDepth 100000 in
theorem c_X3_join (l : Launch) (D : va_G) (Y : Nat → ClassId) (σ : sg_W) (sz : Nat) (ad : Nat → Nat) (M : MS) (x : Int32) (h6 : mem6 M) (hM : MW Y ad M σ) : Met l yX3_join wsX3_join ({ frames := 1, cells := 0, slots := 0, locals := 22 } : Room) (va_Pc [.ref (ad 0), .int x] (sg_U D Y σ sz)) (va_Qi (fun r σ' => (tJoin M x = 0 → r = sS M 3) ∧ MF Y ad σ (if tJoin M x = 0 then nJoin (uS M 19 0) x else uS M 19 (tJoin M x)) σ') (sg_B D σ sz) (sg_A σ sz)) 0 0 (sg_A σ sz) := by
  refine sg_met (cc := cX3_join) (maxL := 2) (ret := (some .int)) (by decide) rfl (Nat.le_of_ble_eq_true rfl) ?_
  intro p e s m below meth c ls hx hb hml hr hown hts hlocks hnm hP hK hD hN hX hA hS hsz hl
  have hl : lv_has ls 2 [(0, .ref (ad 0)), (1, .int x)] := hl
  refine lv_aload_n hx hb dX3_join_0 rfl (lv_at hl 0 rfl) ?_
  refine lv_iload_n hx hb dX3_join_1 rfl (lv_at hl 1 rfl) ?_
  refine lv_iconst (v := 1) hx hb dX3_join_2 (by decide) ?_
  refine lv_bipush (v := 15) hx hb dX3_join_3 (by decide) ?_
  refine sg_calli hD hS hA (va_runS (As := [.int x, .int 1, .int 15]) (rest := [.ref (ad 0)]) ⟨hx, hb, hml, hown, hts⟩ (c_X3_isIn l D Y _ _ x 1 15) (va_cwS 3 hts gX3_join_X3_isIn rfl rfl rfl (by decide +kernel) ⟨Nat.le_of_ble_eq_true rfl, Nat.le_of_ble_eq_true rfl⟩) (sg_preS hK hP hD hN hX hS hA) rfl rfl hl.1 rfl (lv_room (Nat.le_of_ble_eq_true rfl)) dX3_join_5 ⟨Nat.le_of_ble_eq_true rfl, Nat.le_of_ble_eq_true rfl⟩) (fun r5 σ' H locs hw hP hD hS => ?_)
  obtain ⟨rfl, rfl⟩ := hw
  refine sg_cutwi (D := D) hS (j := 29) (ls := ls) (rest := [.int (bI (qIn x 1 15)), .ref (ad 0)]) 0 0 (fun x9 σ' => x9 = (bI (0 ≤ sS M 0 ∧ sS M 3 < 6)) ∧ MF Y ad σ M σ') (fun x9 σ' H locs hj9 hP hD hS => ?_) (fun k29 => ?_)
  · obtain ⟨rfl, hM⟩ := hj9
    refine sg_calli hD hS hA (va_runV (As := [.int (bI (qIn x 1 15)), .int (bI (0 ≤ sS M 0 ∧ sS M 3 < 6))]) (rest := []) ⟨hx, hb, hml, hown, hts⟩ (c_X3_mayBoth l D Y _ _ ad M ((bI (qIn x 1 15))) ((bI (0 ≤ sS M 0 ∧ sS M 3 < 6))) hM.self) (cwV 2 hts gX3_join_X3_mayBoth rfl rfl rfl (by decide +kernel) ⟨Nat.le_of_ble_eq_true rfl, Nat.le_of_ble_eq_true rfl⟩) (sg_preV (q := (RX3, TX3, 20)) (hM.1 0 rfl) rfl hK hP hD hN hX hS hA) rfl rfl hl.1 rfl (lv_room (Nat.le_of_ble_eq_true rfl)) dX3_join_29 ⟨Nat.le_of_ble_eq_true rfl, Nat.le_of_ble_eq_true rfl⟩) (fun r29 σ' H locs hw hP hD hS => ?_)
    obtain ⟨rfl, hw⟩ := hw
    have hM := hM.trans hw
    refine lv_if_ne (tgt := 37) hx hb dX3_join_32 (by decide) (fun c32 => ?_) (fun c32 => ?_)
    · skip
      have h0 : t2 (bI (qIn x 1 15)) (bI (0 ≤ sS M 0 ∧ sS M 3 < 6)) = 0 := by rw [bI_0] at c32; exact Classical.not_not.mp c32
      rw [h0] at hM
      refine lv_aload_n hx hb dX3_join_37 rfl (lv_at hl 0 rfl) ?_
      have hi : vp_in (sS M 3) 6 := mem_in h6 (by grind [bI, t2])
      refine va_get (ref := RX3) (v := .ref (ad 4)) hx hb hts wi_X3_join hown hK (sg_one hP (hM.1 0 rfl)) 0 rfl rfl 4 (by decide) (hts (.fieldLink RX3 21 RX3 "rate" "[I") (by decide +kernel)) (fun _ h => h) rfl dX3_join_38 ?_
      refine lv_aload_n hx hb dX3_join_41 rfl (lv_at hl 0 rfl) ?_
      refine va_get (ref := RX3) (v := .int (sS (uS M 19 0) 3)) hx hb hts wi_X3_join hown hK (sg_one hP (hM.1 0 rfl)) 0 rfl rfl 3 (by decide) (hts (.fieldLink RX3 71 RX3 "members" "I") (by decide +kernel)) (fun _ h => h) rfl dX3_join_42 ?_
      refine lv_iload_n hx hb dX3_join_45 rfl (lv_at hl 1 rfl) ?_
      refine sg_iast hx hb hK hP hD hS (hM.1 4 rfl) (hi) dX3_join_46 (fun H locs hP hD hS => ?_)
      have hM := hM.a4 (k := ((sS (uS M 19 0) 3)).toNatClampNeg) (v := x)
      refine lv_aload_n hx hb dX3_join_47 rfl (lv_at hl 0 rfl) ?_
      refine va_get (ref := RX3) (v := .ref (ad 10)) hx hb hts wi_X3_join hown hK (sg_one hP (hM.1 0 rfl)) 0 rfl rfl 10 (by decide) (hts (.fieldLink RX3 41 RX3 "first" "[I") (by decide +kernel)) (fun _ h => h) rfl dX3_join_48 ?_
      refine lv_aload_n hx hb dX3_join_51 rfl (lv_at hl 0 rfl) ?_
      refine va_get (ref := RX3) (v := .int (sS (uI (uS M 19 0) 4 ((sS (uS M 19 0) 3)).toNatClampNeg x) 3)) hx hb hts wi_X3_join hown hK (sg_one hP (hM.1 0 rfl)) 0 rfl rfl 3 (by decide) (hts (.fieldLink RX3 71 RX3 "members" "I") (by decide +kernel)) (fun _ h => h) rfl dX3_join_52 ?_
      refine lv_aload_n hx hb dX3_join_55 rfl (lv_at hl 0 rfl) ?_
      refine va_get (ref := RX3) (v := .int (sS (uI (uS M 19 0) 4 ((sS (uS M 19 0) 3)).toNatClampNeg x) 0)) hx hb hts wi_X3_join hown hK (sg_one hP (hM.1 0 rfl)) 0 rfl rfl 0 (by decide) (hts (.fieldLink RX3 9 RX3 "month" "I") (by decide +kernel)) (fun _ h => h) rfl dX3_join_56 ?_
      refine sg_iast hx hb hK hP hD hS (hM.1 10 rfl) (hi) dX3_join_59 (fun H locs hP hD hS => ?_)
      have hM := hM.a10 (k := ((sS (uI (uS M 19 0) 4 ((sS (uS M 19 0) 3)).toNatClampNeg x) 3)).toNatClampNeg) (v := (sS (uI (uS M 19 0) 4 ((sS (uS M 19 0) 3)).toNatClampNeg x) 0))
      refine lv_aload_n hx hb dX3_join_60 rfl (lv_at hl 0 rfl) ?_
      refine lv_dup hx hb dX3_join_61 rfl ?_
      refine va_get (ref := RX3) (v := .int (sS (uI (uI (uS M 19 0) 4 ((sS (uS M 19 0) 3)).toNatClampNeg x) 10 ((sS (uI (uS M 19 0) 4 ((sS (uS M 19 0) 3)).toNatClampNeg x) 3)).toNatClampNeg ((sS (uI (uS M 19 0) 4 ((sS (uS M 19 0) 3)).toNatClampNeg x) 0))) 3)) hx hb hts wi_X3_join hown hK (sg_one hP (hM.1 0 rfl)) 0 rfl rfl 3 (by decide) (hts (.fieldLink RX3 71 RX3 "members" "I") (by decide +kernel)) (fun _ h => h) rfl dX3_join_62 ?_
      refine lv_iconst (v := 1) hx hb dX3_join_65 (by decide) ?_
      refine lv_iadd hx hb dX3_join_66 ?_
      refine sg_put (ref := RX3) (ty := .int) (v := .int ((sS (uI (uI (uS M 19 0) 4 ((sS (uS M 19 0) 3)).toNatClampNeg x) 10 ((sS (uI (uS M 19 0) 4 ((sS (uS M 19 0) 3)).toNatClampNeg x) 3)).toNatClampNeg ((sS (uI (uS M 19 0) 4 ((sS (uS M 19 0) 3)).toNatClampNeg x) 0))) 3) + 1)) hx hb hts wi_X3_join tyX3 tyX3_ok nmX3 hown hK hP hD hS (hM.1 0 rfl) rfl 3 (by decide) (hts (.fieldLink RX3 71 RX3 "members" "I") (by decide +kernel)) (fun _ h => h) rfl (by decide +kernel) rfl rfl (Nat.le_of_ble_eq_true rfl) dX3_join_67 (fun H locs hP hD hS => ?_)
      have hM := hM.s3 (v := ((sS (uI (uI (uS M 19 0) 4 ((sS (uS M 19 0) 3)).toNatClampNeg x) 10 ((sS (uI (uS M 19 0) 4 ((sS (uS M 19 0) 3)).toNatClampNeg x) 3)).toNatClampNeg ((sS (uI (uS M 19 0) 4 ((sS (uS M 19 0) 3)).toNatClampNeg x) 0))) 3) + 1))
      refine lv_aload_n hx hb dX3_join_70 rfl (lv_at hl 0 rfl) ?_
      refine va_get (ref := RX3) (v := .int (sS (uS (uI (uI (uS M 19 0) 4 ((sS (uS M 19 0) 3)).toNatClampNeg x) 10 ((sS (uI (uS M 19 0) 4 ((sS (uS M 19 0) 3)).toNatClampNeg x) 3)).toNatClampNeg ((sS (uI (uS M 19 0) 4 ((sS (uS M 19 0) 3)).toNatClampNeg x) 0))) 3 (((sS (uI (uI (uS M 19 0) 4 ((sS (uS M 19 0) 3)).toNatClampNeg x) 10 ((sS (uI (uS M 19 0) 4 ((sS (uS M 19 0) 3)).toNatClampNeg x) 3)).toNatClampNeg ((sS (uI (uS M 19 0) 4 ((sS (uS M 19 0) 3)).toNatClampNeg x) 0))) 3) + 1))) 3)) hx hb hts wi_X3_join hown hK (sg_one hP (hM.1 0 rfl)) 0 rfl rfl 3 (by decide) (hts (.fieldLink RX3 71 RX3 "members" "I") (by decide +kernel)) (fun _ h => h) rfl dX3_join_71 ?_
      refine lv_iconst (v := 1) hx hb dX3_join_74 (by decide) ?_
      refine lv_isub hx hb dX3_join_75 ?_
      exact sg_iret hx hb hr rfl hlocks hP hD hS (Nat.le_of_ble_eq_true rfl) (Nat.le_of_ble_eq_true rfl) dX3_join_76 (⟨fun _ => i_cancel _, by rw [if_pos (show tJoin M x = 0 from h0)]; exact hM⟩)
    · skip
      have h0 : ¬ tJoin M x = 0 := bI_0.mp c32
      refine lv_iconst (v := 0) hx hb dX3_join_35 (by decide) ?_
      exact sg_iret hx hb hr rfl hlocks hP hD hS (Nat.le_of_ble_eq_true rfl) (Nat.le_of_ble_eq_true rfl) dX3_join_36 (⟨fun h => absurd h h0, by rw [if_neg h0]; exact hM⟩)
  · skip
    refine lv_aload_n hx hb dX3_join_8 rfl (lv_at hl 0 rfl) ?_
    refine va_get (ref := RX3) (v := .int (sS M 0)) hx hb hts wi_X3_join hown hK (sg_one hP (hM.1 0 rfl)) 0 rfl rfl 0 (by decide) (hts (.fieldLink RX3 9 RX3 "month" "I") (by decide +kernel)) (fun _ h => h) rfl dX3_join_9 ?_
    refine lv_if_lt (tgt := 28) hx hb dX3_join_12 (by decide) (fun c12 => ?_) (fun c12 => ?_)
    · skip
      refine lv_iconst (v := 0) hx hb dX3_join_28 (by decide) ?_
      exact k29 _ _ _ _ (⟨by grind [bI, Int32.not_le, Int32.not_lt], hM⟩) hP hD hS
    · skip
      refine lv_aload_n hx hb dX3_join_15 rfl (lv_at hl 0 rfl) ?_
      refine va_get (ref := RX3) (v := .int (sS M 3)) hx hb hts wi_X3_join hown hK (sg_one hP (hM.1 0 rfl)) 0 rfl rfl 3 (by decide) (hts (.fieldLink RX3 71 RX3 "members" "I") (by decide +kernel)) (fun _ h => h) rfl dX3_join_16 ?_
      refine lv_bipush (v := 6) hx hb dX3_join_19 (by decide) ?_
      refine lv_icmp_ge (tgt := 28) hx hb dX3_join_21 (by decide) (fun c21 => ?_) (fun c21 => ?_)
      · skip
        refine lv_iconst (v := 0) hx hb dX3_join_28 (by decide) ?_
        exact k29 _ _ _ _ (⟨by grind [bI, Int32.not_le, Int32.not_lt], hM⟩) hP hD hS
      · skip
        refine lv_iconst (v := 1) hx hb dX3_join_24 (by decide) ?_
        refine lv_goto (tgt := 29) hx hb dX3_join_25 (by decide) ?_
        exact k29 _ _ _ _ (⟨by grind [bI, Int32.not_le, Int32.not_lt], hM⟩) hP hD hS
end
section
theorem qM_pos {M : MS} {i : Int32} (h : qM M i) : 0 ≤ sS M 3 - 1 := by
  obtain ⟨h1, h2⟩ := h
  simp only [Int32.le_iff_toInt_le] at *
  omega
theorem sellN_S {j : Nat} {x : mSell} {a : Nat} : ∀ k, sS (sellN j k x).1 a = sS x.1 a
  | 0 => rfl
  | k + 1 => by
    have ih := sellN_S (j := j) (x := x) (a := a) k
    rw [sellN, sellS]
    split
    · simp only [sS_uI, sS_uL]; exact ih
    · exact ih
theorem sellN_I {j : Nat} {x : mSell} {a : Nat} (h : a ≠ 16) : ∀ k, sI (sellN j k x).1 a = sI x.1 a
  | 0 => rfl
  | k + 1 => by
    have ih := sellN_I (j := j) (x := x) (a := a) h k
    rw [sellN, sellS]
    split
    · simp only [sI_uI, sI_uL, if_neg h]; exact ih
    · exact ih
theorem soldN_0 {M : MS} {q : Nat} {op : Int32} (h : op ≤ 0) : ¬ 0 < soldN M q op := by
  unfold soldN
  split <;> (simp only [Int32.lt_iff_toInt_lt, Int32.le_iff_toInt_le] at *; omega)
theorem sellN_stop {j : Nat} {x : mSell} {k : Nat} (h : (sellN j k x).2.1 ≤ 0) : ∀ d, sellN j (k + d) x = sellN j k x
  | 0 => rfl
  | d + 1 => by
    have ih := sellN_stop h d
    show sellS j (k + d) (sellN j (k + d) x) = _
    rw [ih, sellS, if_neg (soldN_0 h)]
theorem c_X3_sharesOf_i (l : Launch) (D : va_G) (Y : Nat → ClassId) (σ : sg_W) (sz : Nat) (ad : Nat → Nat) (M : MS) (i : Int32) (hi : vp_in i 6) (hM : MW Y ad M σ) : Met l yX3_sharesOf wsX3_sharesOf ({ frames := 0, cells := 0, slots := 0, locals := 0 } : Room) (va_Pc [.ref (ad 0), .int i] (sg_U D Y σ sz)) (va_Qi (fun r σ' => r = sH M (tN i) 10 ∧ σ = σ') (sg_B D σ sz) (sg_A σ sz)) 0 0 (sg_A σ sz) := by
  obtain ⟨j, hj, rfl⟩ := vp_in_of hi (by decide)
  rw [show tN (nI j) = j from nI_clamp (by omega)]
  exact c_X3_sharesOf l D Y σ sz ad M j hj hM
theorem wi_X3_gainNow : ∀ w ∈ wsX30, w ∈ wsX3_gainNow := by decide +kernel
set_option maxHeartbeats 4000000 in
set_option maxRecDepth 100000 in
theorem c_X3_gainNow (l : Launch) (D : va_G) (Y : Nat → ClassId) (σ : sg_W) (sz : Nat) (ad : Nat → Nat) (M : MS) (i : Int32) (h6 : mem6 M) (ho : ∀ k, k < 60 → vp_in (sI M 18 k) 60) (hm : 0 ≤ sS M 3 - 1 → vp_in (sS M 0) 60) (hM : MW Y ad M σ) : Met l yX3_gainNow wsX3_gainNow ({ frames := 3, cells := 0, slots := 0, locals := 67 } : Room) (va_Pc [.ref (ad 0), .int i] (sg_U D Y σ sz)) (va_Ql (fun r σ' => (tMem M i = 0 → r = gN (uS M 19 0) (tN i) 10) ∧ MF Y ad σ (uS M 19 (tMem M i)) σ') (sg_B D σ sz) (sg_A σ sz)) 0 0 (sg_A σ sz) := by
  refine sg_met (cc := cX3_gainNow) (maxL := 5) (ret := (some .long)) (by decide) rfl (Nat.le_of_ble_eq_true rfl) ?_
  intro p e s m below meth c ls hx hb hml hr hown hts hlocks hnm hP hK hD hN hX hA hS hsz hl
  have hl : lv_has ls 5 [(0, .ref (ad 0)), (1, .int i)] := hl
  refine lv_aload_n hx hb dX3_gainNow_0 rfl (lv_at hl 0 rfl) ?_
  refine lv_aload_n hx hb dX3_gainNow_1 rfl (lv_at hl 0 rfl) ?_
  refine lv_iload_n hx hb dX3_gainNow_2 rfl (lv_at hl 1 rfl) ?_
  refine sg_calli hD hS hA (va_runV (As := [.int i]) (rest := [.ref (ad 0)]) ⟨hx, hb, hml, hown, hts⟩ (c_X3_isMember l D Y _ _ ad M i hM.self) (cwV 1 hts gX3_gainNow_X3_isMember rfl rfl rfl (by decide +kernel) ⟨Nat.le_of_ble_eq_true rfl, Nat.le_of_ble_eq_true rfl⟩) (sg_preV (q := (RX3, TX3, 20)) (hM.1 0 rfl) rfl hK hP hD hN hX hS hA) rfl rfl hl.1 rfl (lv_room (Nat.le_of_ble_eq_true rfl)) dX3_gainNow_3 ⟨Nat.le_of_ble_eq_true rfl, Nat.le_of_ble_eq_true rfl⟩) (fun r3 σ' H locs hw hP hD hS => ?_)
  obtain ⟨rfl, rfl⟩ := hw
  refine sg_calli hD hS hA (va_runV (As := [.int (bI (qM M i))]) (rest := []) ⟨hx, hb, hml, hown, hts⟩ (c_X3_may l D Y _ _ ad M ((bI (qM M i))) (bI_01) hM.self) (cwV 1 hts gX3_gainNow_X3_may rfl rfl rfl (by decide +kernel) ⟨Nat.le_of_ble_eq_true rfl, Nat.le_of_ble_eq_true rfl⟩) (sg_preV (q := (RX3, TX3, 20)) (hM.1 0 rfl) rfl hK hP hD hN hX hS hA) rfl rfl hl.1 rfl (lv_room (Nat.le_of_ble_eq_true rfl)) dX3_gainNow_6 ⟨Nat.le_of_ble_eq_true rfl, Nat.le_of_ble_eq_true rfl⟩) (fun r6 σ' H locs hw hP hD hS => ?_)
  obtain ⟨rfl, hw⟩ := hw
  have hM := hM.trans hw
  refine lv_if_ne (tgt := 14) hx hb dX3_gainNow_9 (by decide) (fun c9 => ?_) (fun c9 => ?_)
  · skip
    have h0 : t1 (bI (qM M i)) = 0 := by rw [t1, if_neg c9]
    rw [h0] at hM
    refine lv_lconst (v := 0) hx hb dX3_gainNow_14 (by decide) ?_
    have hi : vp_in i 6 := qM_in h6 (by grind [bI, t1, t2, t3])
    have ei := vp_eq hi (by decide)
    have hi2 := vp_lt hi
    have h10 : 10 * i = nI (10 * tN i) := (congrArg (fun z => 10 * z) ei).trans (pk_mul 10 _)
    have h1010 : nI (10 * tN i) + 10 = nI (10 * tN i + 10) := nI_add _ 10
    refine lv_lstore_n (lv' := [(2, .long 0), (0, .ref (ad 0)), (1, .int i)]) hx hb dX3_gainNow_15 rfl hl (by decide) rfl (fun ls hl => ?_)
    have hm1 : vp_in (sS (uS M 19 0) 0) 60 := hm (by have := (show qM M i by grind [bI, t1]); exact qM_pos this)
    refine lv_bipush (v := 10) hx hb dX3_gainNow_16 (by decide) ?_
    refine lv_iload_n hx hb dX3_gainNow_18 rfl (lv_at hl 2 rfl) ?_
    refine lv_imul hx hb dX3_gainNow_19 ?_
    refine lv_topi (fun v20 ev20 => ?_)
    obtain rfl : v20 = nI (10 * tN i + 0) := by rw [ev20, h10]; rfl
    refine lv_istore (lv' := [(4, .int (nI (10 * tN i + 0))), (2, .long 0), (0, .ref (ad 0)), (1, .int i)]) hx hb dX3_gainNow_20 hl (by decide) rfl (fun ls hl => ?_)
    refine sg_loop (D := D) (H0 := s.heap) (T := Nat) 22 5 (fun n1 t σ' c' s' => n1 + t = 10 ∧ MF Y ad σ (uS M 19 0) σ' ∧ c' = 0 ∧ s' = 0) (fun t => [(4, .int (nI (10 * tN i + t))), (2, .long (gN (uS M 19 0) (tN i) t)), (0, .ref (ad 0)), (1, .int i)]) ?_ (10) (0) _ _ _ _ _ _ ?_ hP hD hS (lv_sub hl [0, 1, 2, 3] rfl)
    · intro n1 t σ' cells slots H locs ls ih hI hP hD hS hl
      obtain ⟨q, rfl⟩ : ∃ q, q = t := ⟨_, rfl⟩
      obtain ⟨hn, hM, rfl, rfl⟩ := hI
      have hl : lv_has ls 5 [(4, .int (nI (10 * tN i + q))), (2, .long (gN (uS M 19 0) (tN i) q)), (0, .ref (ad 0)), (1, .int i)] := hl
      refine lv_iload hx hb dX3_gainNow_22 (lv_at hl 0 rfl) ?_
      refine lv_bipush (v := 10) hx hb dX3_gainNow_24 (by decide) ?_
      refine lv_iload_n hx hb dX3_gainNow_26 rfl (lv_at hl 3 rfl) ?_
      refine lv_imul hx hb dX3_gainNow_27 ?_
      refine lv_bipush (v := 10) hx hb dX3_gainNow_28 (by decide) ?_
      refine lv_iadd hx hb dX3_gainNow_30 ?_
      refine lv_icmp_ge (tgt := 70) hx hb dX3_gainNow_31 (by decide) (fun c31 => ?_) (fun c31 => ?_)
      · skip
        rw [h10, h1010, nI_leI (by omega) (by omega)] at c31
        obtain rfl : q = 10 := by omega
        refine lv_lload_n hx hb dX3_gainNow_70 rfl (lv_at hl 1 rfl) ?_
        exact sg_lret hx hb hr hlocks hP hD hS (Nat.le_of_ble_eq_true rfl) (Nat.le_of_ble_eq_true rfl) dX3_gainNow_71 (⟨fun _ => rfl, by rw [show tMem M i = 0 from h0]; exact hM⟩)
      · skip
        rw [h10, h1010, nI_leI (by omega) (by omega)] at c31
        have hcq : (nI (10 * tN i + q)).toNatClampNeg = 10 * tN i + q := nI_clamp (by omega)
        refine lv_lload_n hx hb dX3_gainNow_34 rfl (lv_at hl 1 rfl) ?_
        refine lv_aload_n hx hb dX3_gainNow_35 rfl (lv_at hl 2 rfl) ?_
        refine va_get (ref := RX3) (v := .ref (ad 16)) hx hb hts wi_X3_gainNow hown hK (sg_one hP (hM.1 0 rfl)) 0 rfl rfl 16 (by decide) (hts (.fieldLink RX3 59 RX3 "had" "[I") (by decide +kernel)) (fun _ h => h) rfl dX3_gainNow_36 ?_
        refine lv_iload hx hb dX3_gainNow_39 (lv_at hl 0 rfl) ?_
        refine va_iald hx hb hK (sg_one hP (hM.1 16 rfl)) 0 0 rfl rfl (vp_in_nI (by omega) (by decide)) dX3_gainNow_41 ?_
        refine lv_if_le (tgt := 61) hx hb dX3_gainNow_42 (by decide) (fun c42 => ?_) (fun c42 => ?_)
        · skip
          refine lv_lconst (v := 0) hx hb dX3_gainNow_61 (by decide) ?_
          refine lv_ladd hx hb dX3_gainNow_62 ?_
          refine lv_topl (fun v63 ev63 => ?_)
          obtain rfl : v63 = gN (uS M 19 0) (tN i) (q + 1) := by grind -ring [gN, Int32.not_le, Int32.not_lt]
          refine lv_lstore_n (lv' := [(2, .long (gN (uS M 19 0) (tN i) (q + 1))), (4, .int (nI (10 * tN i + q))), (0, .ref (ad 0)), (1, .int i)]) hx hb dX3_gainNow_63 rfl hl (by decide) rfl (fun ls hl => ?_)
          obtain ⟨v64, ev64⟩ : ∃ zz9 : Int32, zz9 = (nI (10 * tN i + q)) + 1 := ⟨_, rfl⟩
          obtain rfl : v64 = nI (10 * tN i + (q + 1)) := by rw [ev64]; exact nI_1 _
          refine lv_iinc (v := (nI (10 * tN i + (q + 1)))) (lv' := [(4, .int (nI (10 * tN i + (q + 1)))), (2, .long (gN (uS M 19 0) (tN i) (q + 1))), (0, .ref (ad 0)), (1, .int i)]) hx hb dX3_gainNow_64 hl (k := 1) rfl (nI_1 _) (by decide) rfl (fun ls hl => ?_)
          refine lv_goto (tgt := 22) hx hb dX3_gainNow_67 (by decide) ?_
          exact ih (n1 - 1) (q + 1) _ _ _ _ _ _ (by omega) ⟨by omega, hM, rfl, rfl⟩ hP hD hS (lv_sub hl [0, 1, 2, 3] rfl)
        · skip
          refine lv_aload_n hx hb dX3_gainNow_45 rfl (lv_at hl 2 rfl) ?_
          refine lv_iload hx hb dX3_gainNow_46 (lv_at hl 0 rfl) ?_
          refine lv_aload_n hx hb dX3_gainNow_48 rfl (lv_at hl 2 rfl) ?_
          refine va_get (ref := RX3) (v := .ref (ad 16)) hx hb hts wi_X3_gainNow hown hK (sg_one hP (hM.1 0 rfl)) 0 rfl rfl 16 (by decide) (hts (.fieldLink RX3 59 RX3 "had" "[I") (by decide +kernel)) (fun _ h => h) rfl dX3_gainNow_49 ?_
          refine lv_iload hx hb dX3_gainNow_52 (lv_at hl 0 rfl) ?_
          refine va_iald hx hb hK (sg_one hP (hM.1 16 rfl)) 0 0 rfl rfl (vp_in_nI (by omega) (by decide)) dX3_gainNow_54 ?_
          refine sg_calll hD hS hA (va_runV (As := [.int (nI (10 * tN i + q)), .int (sI (uS M 19 0) 16 ((nI (10 * tN i + q))).toNatClampNeg)]) (rest := [.long (gN (uS M 19 0) (tN i) q)]) ⟨hx, hb, hml, hown, hts⟩ (c_X3_gainOf l D Y _ _ ad (uS M 19 0) (10 * tN i + q) ((sI (uS M 19 0) 16 ((nI (10 * tN i + q))).toNatClampNeg)) (by omega) (ho _ (by omega)) hm1 hM.self) (cwV 2 hts gX3_gainNow_X3_gainOf rfl rfl rfl (by decide +kernel) ⟨Nat.le_of_ble_eq_true rfl, Nat.le_of_ble_eq_true rfl⟩) (sg_preV (q := (RX3, TX3, 20)) (hM.1 0 rfl) rfl hK hP hD hN hX hS hA) rfl rfl hl.1 rfl (lv_room (Nat.le_of_ble_eq_true rfl)) dX3_gainNow_55 ⟨Nat.le_of_ble_eq_true rfl, Nat.le_of_ble_eq_true rfl⟩) (fun r55 σ' H locs hw hP hD hS => ?_)
          obtain ⟨er55, rfl⟩ := hw
          refine lv_goto (tgt := 62) hx hb dX3_gainNow_58 (by decide) ?_
          refine lv_ladd hx hb dX3_gainNow_62 ?_
          refine lv_topl (fun v63 ev63 => ?_)
          obtain rfl : v63 = gN (uS M 19 0) (tN i) (q + 1) := by grind -ring [gN, Int32.not_le, Int32.not_lt]
          refine lv_lstore_n (lv' := [(2, .long (gN (uS M 19 0) (tN i) (q + 1))), (4, .int (nI (10 * tN i + q))), (0, .ref (ad 0)), (1, .int i)]) hx hb dX3_gainNow_63 rfl hl (by decide) rfl (fun ls hl => ?_)
          obtain ⟨v64, ev64⟩ : ∃ zz9 : Int32, zz9 = (nI (10 * tN i + q)) + 1 := ⟨_, rfl⟩
          obtain rfl : v64 = nI (10 * tN i + (q + 1)) := by rw [ev64]; exact nI_1 _
          refine lv_iinc (v := (nI (10 * tN i + (q + 1)))) (lv' := [(4, .int (nI (10 * tN i + (q + 1)))), (2, .long (gN (uS M 19 0) (tN i) (q + 1))), (0, .ref (ad 0)), (1, .int i)]) hx hb dX3_gainNow_64 hl (k := 1) rfl (nI_1 _) (by decide) rfl (fun ls hl => ?_)
          refine lv_goto (tgt := 22) hx hb dX3_gainNow_67 (by decide) ?_
          exact ih (n1 - 1) (q + 1) _ _ _ _ _ _ (by omega) ⟨by omega, hM, rfl, rfl⟩ hP hD hS (lv_sub hl [0, 1, 2, 3] rfl)
    · exact ⟨rfl, hM, rfl, rfl⟩
  · skip
    have h0 : ¬ tMem M i = 0 := by show ¬ t1 _ = 0; rw [t1, if_pos c9]; decide
    refine lv_lconst (v := 0) hx hb dX3_gainNow_12 (by decide) ?_
    exact sg_lret hx hb hr hlocks hP hD hS (Nat.le_of_ble_eq_true rfl) (Nat.le_of_ble_eq_true rfl) dX3_gainNow_13 (⟨fun h => absurd h h0, hM⟩)

theorem wi_X3_sell : ∀ w ∈ wsX30, w ∈ wsX3_sell := by decide +kernel
set_option maxHeartbeats 4000000 in
set_option maxRecDepth 100000 in
theorem c_X3_sell (l : Launch) (D : va_G) (Y : Nat → ClassId) (σ : sg_W) (sz : Nat) (ad : Nat → Nat) (M : MS) (i x : Int32) (h6 : mem6 M) (ho : ∀ k, k < 60 → vp_in (sI M 18 k) 60) (hm : 0 ≤ sS M 3 - 1 → vp_in (sS M 0) 60) (hM : MW Y ad M σ) : Met l yX3_sell wsX3_sell ({ frames := 3, cells := 0, slots := 0, locals := 67 } : Room) (va_Pc [.ref (ad 0), .int i, .int x] (sg_U D Y σ sz)) (va_Qi (fun r σ' => (tSell M i x = 0 → r = (xSell (uS M 19 0) i x).2.2) ∧ MF Y ad σ (if tSell M i x = 0 then (xSell (uS M 19 0) i x).1 else uS M 19 (tSell M i x)) σ') (sg_B D σ sz) (sg_A σ sz)) 0 0 (sg_A σ sz) := by
  refine sg_met (cc := cX3_sell) (maxL := 8) (ret := (some .int)) (by decide) rfl (Nat.le_of_ble_eq_true rfl) ?_
  intro p e s m below meth c ls hx hb hml hr hown hts hlocks hnm hP hK hD hN hX hA hS hsz hl
  have hl : lv_has ls 8 [(0, .ref (ad 0)), (1, .int i), (2, .int x)] := hl
  refine lv_aload_n hx hb dX3_sell_0 rfl (lv_at hl 0 rfl) ?_
  refine lv_iload_n hx hb dX3_sell_1 rfl (lv_at hl 1 rfl) ?_
  refine sg_calli hD hS hA (va_runV (As := [.int i]) (rest := []) ⟨hx, hb, hml, hown, hts⟩ (c_X3_isMember l D Y _ _ ad M i hM.self) (cwV 1 hts gX3_sell_X3_isMember rfl rfl rfl (by decide +kernel) ⟨Nat.le_of_ble_eq_true rfl, Nat.le_of_ble_eq_true rfl⟩) (sg_preV (q := (RX3, TX3, 20)) (hM.1 0 rfl) rfl hK hP hD hN hX hS hA) rfl rfl hl.1 rfl (lv_room (Nat.le_of_ble_eq_true rfl)) dX3_sell_2 ⟨Nat.le_of_ble_eq_true rfl, Nat.le_of_ble_eq_true rfl⟩) (fun r2 σ' H locs hw hP hD hS => ?_)
  obtain ⟨rfl, rfl⟩ := hw
  refine lv_topi (fun v5 ev5 => ?_)
  obtain rfl : v5 = bI (qM M i) := by exact ev5
  refine lv_istore_n (lv' := [(3, .int (bI (qM M i))), (0, .ref (ad 0)), (1, .int i), (2, .int x)]) hx hb dX3_sell_5 rfl hl (by decide) rfl (fun ls hl => ?_)
  refine lv_aload_n hx hb dX3_sell_6 rfl (lv_at hl 1 rfl) ?_
  refine lv_iload_n hx hb dX3_sell_7 rfl (lv_at hl 0 rfl) ?_
  refine lv_iload_n hx hb dX3_sell_8 rfl (lv_at hl 3 rfl) ?_
  refine lv_iconst (v := 1) hx hb dX3_sell_9 (by decide) ?_
  refine lv_ldc (v := 1000000) hx hb hown (hts (.constant RX3 118 1000000) (by decide +kernel)) dX3_sell_10 ?_
  refine sg_calli hD hS hA (va_runS (As := [.int x, .int 1, .int 1000000]) (rest := [.int (bI (qM M i)), .ref (ad 0)]) ⟨hx, hb, hml, hown, hts⟩ (c_X3_isIn l D Y _ _ x 1 1000000) (va_cwS 3 hts gX3_sell_X3_isIn rfl rfl rfl (by decide +kernel) ⟨Nat.le_of_ble_eq_true rfl, Nat.le_of_ble_eq_true rfl⟩) (sg_preS hK hP hD hN hX hS hA) rfl rfl hl.1 rfl (lv_room (Nat.le_of_ble_eq_true rfl)) dX3_sell_12 ⟨Nat.le_of_ble_eq_true rfl, Nat.le_of_ble_eq_true rfl⟩) (fun r12 σ' H locs hw hP hD hS => ?_)
  obtain ⟨rfl, rfl⟩ := hw
  refine sg_cutwi (D := D) hS (j := 33) (ls := ls) (rest := [.int (bI (qIn x 1 1000000)), .int (bI (qM M i)), .ref (ad 0)]) 0 0 (fun x9 σ' => x9 = (bI (qM M i ∧ x ≤ sH M (tN i) 10)) ∧ MF Y ad σ M σ') (fun x9 σ' H locs hj9 hP hD hS => ?_) (fun k33 => ?_)
  · obtain ⟨rfl, hM⟩ := hj9
    refine sg_calli hD hS hA (va_runV (As := [.int (bI (qM M i)), .int (bI (qIn x 1 1000000)), .int (bI (qM M i ∧ x ≤ sH M (tN i) 10))]) (rest := []) ⟨hx, hb, hml, hown, hts⟩ (c_X3_mayAll l D Y _ _ ad M ((bI (qM M i))) ((bI (qIn x 1 1000000))) ((bI (qM M i ∧ x ≤ sH M (tN i) 10))) hM.self) (cwV 3 hts gX3_sell_X3_mayAll rfl rfl rfl (by decide +kernel) ⟨Nat.le_of_ble_eq_true rfl, Nat.le_of_ble_eq_true rfl⟩) (sg_preV (q := (RX3, TX3, 20)) (hM.1 0 rfl) rfl hK hP hD hN hX hS hA) rfl rfl hl.1 rfl (lv_room (Nat.le_of_ble_eq_true rfl)) dX3_sell_33 ⟨Nat.le_of_ble_eq_true rfl, Nat.le_of_ble_eq_true rfl⟩) (fun r33 σ' H locs hw hP hD hS => ?_)
    obtain ⟨rfl, hw⟩ := hw
    have hM := hM.trans hw
    refine lv_if_ne (tgt := 41) hx hb dX3_sell_36 (by decide) (fun c36 => ?_) (fun c36 => ?_)
    · skip
      have h0 : t3 (bI (qM M i)) (bI (qIn x 1 1000000)) (bI (qM M i ∧ x ≤ sH M (tN i) 10)) = 0 := by rw [bI_0] at c36; exact Classical.not_not.mp c36
      rw [h0] at hM
      refine lv_iload_n hx hb dX3_sell_41 rfl (lv_at hl 3 rfl) ?_
      have hi : vp_in i 6 := qM_in h6 (by grind [bI, t1, t2, t3])
      have ei := vp_eq hi (by decide)
      have hi2 := vp_lt hi
      have h10 : 10 * i = nI (10 * tN i) := (congrArg (fun z => 10 * z) ei).trans (pk_mul 10 _)
      have h1010 : nI (10 * tN i) + 10 = nI (10 * tN i + 10) := nI_add _ 10
      refine lv_istore (lv' := [(4, .int x), (3, .int (bI (qM M i))), (0, .ref (ad 0)), (1, .int i), (2, .int x)]) hx hb dX3_sell_42 hl (by decide) rfl (fun ls hl => ?_)
      have hm1 : vp_in (sS (uS M 19 0) 0) 60 := hm (by have := (show qM M i by grind [bI, t3]); exact qM_pos this)
      refine lv_iconst (v := 0) hx hb dX3_sell_44 (by decide) ?_
      refine lv_istore (lv' := [(5, .int 0), (4, .int x), (3, .int (bI (qM M i))), (0, .ref (ad 0)), (1, .int i), (2, .int x)]) hx hb dX3_sell_45 hl (by decide) rfl (fun ls hl => ?_)
      refine lv_bipush (v := 10) hx hb dX3_sell_47 (by decide) ?_
      refine lv_iload_n hx hb dX3_sell_49 rfl (lv_at hl 4 rfl) ?_
      refine lv_imul hx hb dX3_sell_50 ?_
      refine lv_topi (fun v51 ev51 => ?_)
      obtain rfl : v51 = nI (10 * tN i + 0) := by rw [ev51, h10]; rfl
      refine lv_istore (lv' := [(6, .int (nI (10 * tN i + 0))), (5, .int 0), (4, .int x), (3, .int (bI (qM M i))), (0, .ref (ad 0)), (1, .int i), (2, .int x)]) hx hb dX3_sell_51 hl (by decide) rfl (fun ls hl => ?_)
      refine sg_loop (D := D) (H0 := s.heap) (T := Nat) 53 8 (fun n1 t σ' c' s' => n1 + t = 10 ∧ MF Y ad σ (sellN (tN i) t (uS M 19 0, x, 0)).1 σ' ∧ c' = 0 ∧ s' = 0) (fun t => [(6, .int (nI (10 * tN i + t))), (5, .int (sellN (tN i) t (uS M 19 0, x, 0)).2.2), (4, .int (sellN (tN i) t (uS M 19 0, x, 0)).2.1), (0, .ref (ad 0)), (1, .int i)]) ?_ (10) (0) _ _ _ _ _ _ ?_ hP hD hS (lv_sub hl [0, 1, 2, 4, 5] rfl)
      · intro n1 t σ' cells slots H locs ls ih hI hP hD hS hl
        obtain ⟨q, rfl⟩ : ∃ q, q = t := ⟨_, rfl⟩
        obtain ⟨hn, hM, rfl, rfl⟩ := hI
        obtain ⟨X, hXX⟩ : ∃ X, X = sellN (tN i) q (uS M 19 0, x, 0) := ⟨_, rfl⟩
        rw [← hXX] at hM
        have hl : lv_has ls 8 [(6, .int (nI (10 * tN i + q))), (5, .int (sellN (tN i) q (uS M 19 0, x, 0)).2.2), (4, .int (sellN (tN i) q (uS M 19 0, x, 0)).2.1), (0, .ref (ad 0)), (1, .int i)] := hl
        rw [← hXX] at hl
        have hmX : vp_in (sS X.1 0) 60 := by rw [hXX, sellN_S]; exact hm1
        have hoX : ∀ k, k < 60 → vp_in (sI X.1 18 k) 60 := fun k hk => by rw [hXX, sellN_I (by decide)]; exact ho k hk
        have hl : lv_has ls 8 [(6, .int (nI (10 * tN i + q))), (5, .int X.2.2), (4, .int X.2.1), (0, .ref (ad 0)), (1, .int i)] := hl
        refine lv_iload hx hb dX3_sell_53 (lv_at hl 0 rfl) ?_
        refine lv_bipush (v := 10) hx hb dX3_sell_55 (by decide) ?_
        refine lv_iload_n hx hb dX3_sell_57 rfl (lv_at hl 4 rfl) ?_
        refine lv_imul hx hb dX3_sell_58 ?_
        refine lv_bipush (v := 10) hx hb dX3_sell_59 (by decide) ?_
        refine lv_iadd hx hb dX3_sell_61 ?_
        refine lv_icmp_ge (tgt := 183) hx hb dX3_sell_62 (by decide) (fun c62 => ?_) (fun c62 => ?_)
        · skip
          have hq10 : X = xSell (uS M 19 0) i x := by
            rw [h10, h1010, nI_leI (by omega) (by omega)] at c62
            obtain rfl : q = 10 := by omega
            exact hXX
          refine lv_iload hx hb dX3_sell_183 (lv_at hl 1 rfl) ?_
          exact sg_iret hx hb hr rfl hlocks hP hD hS (Nat.le_of_ble_eq_true rfl) (Nat.le_of_ble_eq_true rfl) dX3_sell_185 (⟨fun _ => by rw [hq10], by rw [if_pos (show tSell M i x = 0 from h0), ← hq10]; exact hM⟩)
        · skip
          rw [h10, h1010, nI_leI (by omega) (by omega)] at c62
          have hcq : (nI (10 * tN i + q)).toNatClampNeg = 10 * tN i + q := nI_clamp (by omega)
          refine lv_iload hx hb dX3_sell_65 (lv_at hl 2 rfl) ?_
          refine lv_if_le (tgt := 183) hx hb dX3_sell_67 (by decide) (fun c67 => ?_) (fun c67 => ?_)
          · skip
            have hq10 : X = xSell (uS M 19 0) i x := by
              rw [hXX] at c67 ⊢
              have := sellN_stop c67 (10 - q)
              rw [show q + (10 - q) = 10 by omega] at this
              exact this.symm
            refine lv_iload hx hb dX3_sell_183 (lv_at hl 1 rfl) ?_
            exact sg_iret hx hb hr rfl hlocks hP hD hS (Nat.le_of_ble_eq_true rfl) (Nat.le_of_ble_eq_true rfl) dX3_sell_185 (⟨fun _ => by rw [hq10], by rw [if_pos (show tSell M i x = 0 from h0), ← hq10]; exact hM⟩)
          · skip
            refine sg_cutwi (D := D) hS (j := 94) (ls := ls) (rest := []) 0 0 (fun x9 σ' => x9 = (soldN X.1 (10 * tN i + q) X.2.1) ∧ MF Y ad σ X.1 σ') (fun x9 σ' H locs hj9 hP hD hS => ?_) (fun k94 => ?_)
            · obtain ⟨v94, rfl⟩ : ∃ z9, z9 = x9 := ⟨_, rfl⟩
              obtain ⟨ev94, hM⟩ := hj9
              refine lv_istore (lv' := [(7, .int v94), (6, .int (nI (10 * tN i + q))), (5, .int X.2.2), (4, .int X.2.1), (0, .ref (ad 0)), (1, .int i)]) hx hb dX3_sell_94 hl (by decide) rfl (fun ls hl => ?_)
              refine lv_iload hx hb dX3_sell_96 (lv_at hl 0 rfl) ?_
              refine lv_if_le (tgt := 177) hx hb dX3_sell_98 (by decide) (fun c98 => ?_) (fun c98 => ?_)
              · skip
                have hs1 : (sellS (tN i) q X).1 = X.1 := by rw [sellS, if_neg (by rw [← ev94]; exact Int32.not_lt.mpr c98)]
                have hs2 : sellS (tN i) q X = X := by rw [sellS, if_neg (by rw [← ev94]; exact Int32.not_lt.mpr c98)]
                rw [← hs2] at hl
                obtain ⟨v177, ev177⟩ : ∃ zz9 : Int32, zz9 = (nI (10 * tN i + q)) + 1 := ⟨_, rfl⟩
                obtain rfl : v177 = nI (10 * tN i + (q + 1)) := by rw [ev177]; exact nI_1 _
                refine lv_iinc (v := (nI (10 * tN i + (q + 1)))) (lv' := [(6, .int (nI (10 * tN i + (q + 1)))), (7, .int v94), (5, .int (sellS (tN i) q X).2.2), (4, .int (sellS (tN i) q X).2.1), (0, .ref (ad 0)), (1, .int i)]) hx hb dX3_sell_177 hl (k := 1) rfl (nI_1 _) (by decide) rfl (fun ls hl => ?_)
                refine lv_goto (tgt := 53) hx hb dX3_sell_180 (by decide) ?_
                exact ih (n1 - 1) (q + 1) _ _ _ _ _ _ (by omega) ⟨by omega, by rw [sellN, ← hXX, hs1]; exact hM, rfl, rfl⟩ hP hD hS (by have hz := lv_sub hl [0, 2, 3, 4, 5] rfl; rw [sellN, ← hXX]; exact hz)
              · skip
                have hso := Int32.not_le.mp c98
                refine lv_aload_n hx hb dX3_sell_101 rfl (lv_at hl 4 rfl) ?_
                refine va_get (ref := RX3) (v := .ref (ad 13)) hx hb hts wi_X3_sell hown hK (sg_one hP (hM.1 0 rfl)) 0 rfl rfl 13 (by decide) (hts (.fieldLink RX3 50 RX3 "pay" "[J") (by decide +kernel)) (fun _ h => h) rfl dX3_sell_102 ?_
                refine lv_iload_n hx hb dX3_sell_105 rfl (lv_at hl 5 rfl) ?_
                refine lv_dup2_11 hx hb dX3_sell_106 rfl rfl ?_
                refine va_lald hx hb hK (sg_one hP (hM.1 13 rfl)) 0 1 rfl rfl (hi) dX3_sell_107 ?_
                refine lv_iload hx hb dX3_sell_108 (lv_at hl 0 rfl) ?_
                refine lv_i2l hx hb dX3_sell_110 rfl ?_
                refine lv_aload_n hx hb dX3_sell_111 rfl (lv_at hl 4 rfl) ?_
                refine lv_iload hx hb dX3_sell_112 (lv_at hl 1 rfl) ?_
                refine sg_calli hD hS hA (va_runV (As := [.int (nI (10 * tN i + q))]) (rest := [.long v94.toInt64, .long (sL X.1 13 (i).toNatClampNeg), .int i, .ref (ad 13)]) ⟨hx, hb, hml, hown, hts⟩ (c_X3_payOf l D Y _ _ ad X.1 (10 * tN i + q) (by omega) (hoX _ (by omega)) hmX hM.self) (cwV 1 hts gX3_sell_X3_payOf rfl rfl rfl (by decide +kernel) ⟨Nat.le_of_ble_eq_true rfl, Nat.le_of_ble_eq_true rfl⟩) (sg_preV (q := (RX3, TX3, 20)) (hM.1 0 rfl) rfl hK hP hD hN hX hS hA) rfl rfl hl.1 rfl (lv_room (Nat.le_of_ble_eq_true rfl)) dX3_sell_114 ⟨Nat.le_of_ble_eq_true rfl, Nat.le_of_ble_eq_true rfl⟩) (fun r114 σ' H locs hw hP hD hS => ?_)
                obtain ⟨er114, rfl⟩ := hw
                refine lv_i2l hx hb dX3_sell_117 rfl ?_
                refine lv_lmul hx hb dX3_sell_118 ?_
                refine lv_ladd hx hb dX3_sell_119 ?_
                refine sg_last hx hb hK hP hD hS (hM.1 13 rfl) (hi) dX3_sell_120 (fun H locs hP hD hS => ?_)
                have hM := hM.a13 (k := (i).toNatClampNeg) (v := ((sL X.1 13 (i).toNatClampNeg) + (v94.toInt64 * r114.toInt64)))
                refine lv_aload_n hx hb dX3_sell_121 rfl (lv_at hl 4 rfl) ?_
                refine va_get (ref := RX3) (v := .ref (ad 14)) hx hb hts wi_X3_sell hown hK (sg_one hP (hM.1 0 rfl)) 0 rfl rfl 14 (by decide) (hts (.fieldLink RX3 53 RX3 "gain" "[J") (by decide +kernel)) (fun _ h => h) rfl dX3_sell_122 ?_
                refine lv_iload_n hx hb dX3_sell_125 rfl (lv_at hl 5 rfl) ?_
                refine lv_dup2_11 hx hb dX3_sell_126 rfl rfl ?_
                refine va_lald hx hb hK (sg_one hP (hM.1 14 rfl)) 0 1 rfl rfl (hi) dX3_sell_127 ?_
                refine lv_aload_n hx hb dX3_sell_128 rfl (lv_at hl 4 rfl) ?_
                refine lv_iload hx hb dX3_sell_129 (lv_at hl 1 rfl) ?_
                refine lv_iload hx hb dX3_sell_131 (lv_at hl 0 rfl) ?_
                refine sg_calll hD hS hA (va_runV (As := [.int (nI (10 * tN i + q)), .int v94]) (rest := [.long (sL (uL X.1 13 (i).toNatClampNeg (((sL X.1 13 (i).toNatClampNeg) + (v94.toInt64 * r114.toInt64)))) 14 (i).toNatClampNeg), .int i, .ref (ad 14)]) ⟨hx, hb, hml, hown, hts⟩ (c_X3_gainOf l D Y _ _ ad (uL X.1 13 (i).toNatClampNeg (((sL X.1 13 (i).toNatClampNeg) + (v94.toInt64 * r114.toInt64)))) (10 * tN i + q) v94 (by omega) (hoX _ (by omega)) hmX hM.self) (cwV 2 hts gX3_sell_X3_gainOf rfl rfl rfl (by decide +kernel) ⟨Nat.le_of_ble_eq_true rfl, Nat.le_of_ble_eq_true rfl⟩) (sg_preV (q := (RX3, TX3, 20)) (hM.1 0 rfl) rfl hK hP hD hN hX hS hA) rfl rfl hl.1 rfl (lv_room (Nat.le_of_ble_eq_true rfl)) dX3_sell_133 ⟨Nat.le_of_ble_eq_true rfl, Nat.le_of_ble_eq_true rfl⟩) (fun r133 σ' H locs hw hP hD hS => ?_)
                obtain ⟨er133, rfl⟩ := hw
                refine lv_ladd hx hb dX3_sell_136 ?_
                refine sg_last hx hb hK hP hD hS (hM.1 14 rfl) (hi) dX3_sell_137 (fun H locs hP hD hS => ?_)
                have hM := hM.a14 (k := (i).toNatClampNeg) (v := ((sL (uL X.1 13 (i).toNatClampNeg (((sL X.1 13 (i).toNatClampNeg) + (v94.toInt64 * r114.toInt64)))) 14 (i).toNatClampNeg) + r133))
                skip
                refine lv_iload hx hb dX3_sell_138 (lv_at hl 2 rfl) ?_
                refine lv_aload_n hx hb dX3_sell_140 rfl (lv_at hl 4 rfl) ?_
                refine lv_iload hx hb dX3_sell_141 (lv_at hl 1 rfl) ?_
                refine sg_calli hD hS hA (va_runV (As := [.int (nI (10 * tN i + q))]) (rest := [.int X.2.2]) ⟨hx, hb, hml, hown, hts⟩ (c_X3_isEarly l D Y _ _ ad (uL (uL X.1 13 (i).toNatClampNeg (((sL X.1 13 (i).toNatClampNeg) + (v94.toInt64 * r114.toInt64)))) 14 (i).toNatClampNeg (((sL (uL X.1 13 (i).toNatClampNeg (((sL X.1 13 (i).toNatClampNeg) + (v94.toInt64 * r114.toInt64)))) 14 (i).toNatClampNeg) + r133))) (10 * tN i + q) (by omega) hM.self) (cwV 1 hts gX3_sell_X3_isEarly rfl rfl rfl (by decide +kernel) ⟨Nat.le_of_ble_eq_true rfl, Nat.le_of_ble_eq_true rfl⟩) (sg_preV (q := (RX3, TX3, 20)) (hM.1 0 rfl) rfl hK hP hD hN hX hS hA) rfl rfl hl.1 rfl (lv_room (Nat.le_of_ble_eq_true rfl)) dX3_sell_143 ⟨Nat.le_of_ble_eq_true rfl, Nat.le_of_ble_eq_true rfl⟩) (fun r143 σ' H locs hw hP hD hS => ?_)
                obtain ⟨er143, rfl⟩ := hw
                refine lv_if_eq (tgt := 154) hx hb dX3_sell_146 (by decide) (fun c146 => ?_) (fun c146 => ?_)
                · skip
                  refine lv_iconst (v := 0) hx hb dX3_sell_154 (by decide) ?_
                  refine lv_iadd hx hb dX3_sell_155 ?_
                  refine lv_topi (fun v156 ev156 => ?_)
                  obtain rfl : v156 = (sellS (tN i) q X).2.2 := by rw [ev156, sellS, if_pos (by rw [← ev94]; exact Int32.not_le.mp c98), ← ev94, ← (show r143 = eQ X.1 (10 * tN i + q) from er143)]; first | rw [if_pos c146] | rw [if_neg c146]
                  refine lv_istore (lv' := [(5, .int ((sellS (tN i) q X).2.2)), (7, .int v94), (6, .int (nI (10 * tN i + q))), (4, .int X.2.1), (0, .ref (ad 0)), (1, .int i)]) hx hb dX3_sell_156 hl (by decide) rfl (fun ls hl => ?_)
                  refine lv_aload_n hx hb dX3_sell_158 rfl (lv_at hl 4 rfl) ?_
                  refine va_get (ref := RX3) (v := .ref (ad 16)) hx hb hts wi_X3_sell hown hK (sg_one hP (hM.1 0 rfl)) 0 rfl rfl 16 (by decide) (hts (.fieldLink RX3 59 RX3 "had" "[I") (by decide +kernel)) (fun _ h => h) rfl dX3_sell_159 ?_
                  refine lv_iload hx hb dX3_sell_162 (lv_at hl 2 rfl) ?_
                  refine lv_dup2_11 hx hb dX3_sell_164 rfl rfl ?_
                  refine va_iald hx hb hK (sg_one hP (hM.1 16 rfl)) 0 0 rfl rfl (vp_in_nI (by omega) (by decide)) dX3_sell_165 ?_
                  refine lv_iload hx hb dX3_sell_166 (lv_at hl 1 rfl) ?_
                  refine lv_isub hx hb dX3_sell_168 ?_
                  refine sg_iast hx hb hK hP hD hS (hM.1 16 rfl) (vp_in_nI (by omega) (by decide)) dX3_sell_169 (fun H locs hP hD hS => ?_)
                  have hM := hM.a16 (k := ((nI (10 * tN i + q))).toNatClampNeg) (v := ((sI (uL (uL X.1 13 (i).toNatClampNeg (((sL X.1 13 (i).toNatClampNeg) + (v94.toInt64 * r114.toInt64)))) 14 (i).toNatClampNeg (((sL (uL X.1 13 (i).toNatClampNeg (((sL X.1 13 (i).toNatClampNeg) + (v94.toInt64 * r114.toInt64)))) 14 (i).toNatClampNeg) + r133))) 16 ((nI (10 * tN i + q))).toNatClampNeg) - v94))
                  have hp : 0 < soldN X.1 (10 * tN i + q) X.2.1 := by rw [← ev94]; exact Int32.not_le.mp c98
                  have hs1 : (sellS (tN i) q X).1 = uI (uL (uL X.1 13 (i).toNatClampNeg (((sL X.1 13 (i).toNatClampNeg) + (v94.toInt64 * r114.toInt64)))) 14 (i).toNatClampNeg (((sL (uL X.1 13 (i).toNatClampNeg (((sL X.1 13 (i).toNatClampNeg) + (v94.toInt64 * r114.toInt64)))) 14 (i).toNatClampNeg) + r133))) 16 ((nI (10 * tN i + q))).toNatClampNeg (((sI (uL (uL X.1 13 (i).toNatClampNeg (((sL X.1 13 (i).toNatClampNeg) + (v94.toInt64 * r114.toInt64)))) 14 (i).toNatClampNeg (((sL (uL X.1 13 (i).toNatClampNeg (((sL X.1 13 (i).toNatClampNeg) + (v94.toInt64 * r114.toInt64)))) 14 (i).toNatClampNeg) + r133))) 16 ((nI (10 * tN i + q))).toNatClampNeg) - v94)) := by rw [sellS, if_pos hp, ← ev94]; simp only [er114, er133, hcq]; rfl
                  refine lv_iload hx hb dX3_sell_170 (lv_at hl 3 rfl) ?_
                  refine lv_iload hx hb dX3_sell_172 (lv_at hl 1 rfl) ?_
                  refine lv_isub hx hb dX3_sell_174 ?_
                  refine lv_topi (fun v175 ev175 => ?_)
                  obtain rfl : v175 = (sellS (tN i) q X).2.1 := by rw [ev175, sellS, if_pos hp, ← ev94]
                  refine lv_istore (lv' := [(4, .int ((sellS (tN i) q X).2.1)), (5, .int ((sellS (tN i) q X).2.2)), (7, .int v94), (6, .int (nI (10 * tN i + q))), (0, .ref (ad 0)), (1, .int i)]) hx hb dX3_sell_175 hl (by decide) rfl (fun ls hl => ?_)
                  obtain ⟨v177, ev177⟩ : ∃ zz9 : Int32, zz9 = (nI (10 * tN i + q)) + 1 := ⟨_, rfl⟩
                  obtain rfl : v177 = nI (10 * tN i + (q + 1)) := by rw [ev177]; exact nI_1 _
                  refine lv_iinc (v := (nI (10 * tN i + (q + 1)))) (lv' := [(6, .int (nI (10 * tN i + (q + 1)))), (4, .int ((sellS (tN i) q X).2.1)), (5, .int ((sellS (tN i) q X).2.2)), (7, .int v94), (0, .ref (ad 0)), (1, .int i)]) hx hb dX3_sell_177 hl (k := 3) rfl (nI_1 _) (by decide) rfl (fun ls hl => ?_)
                  refine lv_goto (tgt := 53) hx hb dX3_sell_180 (by decide) ?_
                  exact ih (n1 - 1) (q + 1) _ _ _ _ _ _ (by omega) ⟨by omega, by rw [sellN, ← hXX, hs1]; exact hM, rfl, rfl⟩ hP hD hS (by have hz := lv_sub hl [0, 2, 1, 4, 5] rfl; rw [sellN, ← hXX]; exact hz)
                · skip
                  refine lv_iload hx hb dX3_sell_149 (lv_at hl 0 rfl) ?_
                  refine lv_goto (tgt := 155) hx hb dX3_sell_151 (by decide) ?_
                  refine lv_iadd hx hb dX3_sell_155 ?_
                  refine lv_topi (fun v156 ev156 => ?_)
                  obtain rfl : v156 = (sellS (tN i) q X).2.2 := by rw [ev156, sellS, if_pos (by rw [← ev94]; exact Int32.not_le.mp c98), ← ev94, ← (show r143 = eQ X.1 (10 * tN i + q) from er143)]; first | rw [if_pos c146] | rw [if_neg c146]
                  refine lv_istore (lv' := [(5, .int ((sellS (tN i) q X).2.2)), (7, .int v94), (6, .int (nI (10 * tN i + q))), (4, .int X.2.1), (0, .ref (ad 0)), (1, .int i)]) hx hb dX3_sell_156 hl (by decide) rfl (fun ls hl => ?_)
                  refine lv_aload_n hx hb dX3_sell_158 rfl (lv_at hl 4 rfl) ?_
                  refine va_get (ref := RX3) (v := .ref (ad 16)) hx hb hts wi_X3_sell hown hK (sg_one hP (hM.1 0 rfl)) 0 rfl rfl 16 (by decide) (hts (.fieldLink RX3 59 RX3 "had" "[I") (by decide +kernel)) (fun _ h => h) rfl dX3_sell_159 ?_
                  refine lv_iload hx hb dX3_sell_162 (lv_at hl 2 rfl) ?_
                  refine lv_dup2_11 hx hb dX3_sell_164 rfl rfl ?_
                  refine va_iald hx hb hK (sg_one hP (hM.1 16 rfl)) 0 0 rfl rfl (vp_in_nI (by omega) (by decide)) dX3_sell_165 ?_
                  refine lv_iload hx hb dX3_sell_166 (lv_at hl 1 rfl) ?_
                  refine lv_isub hx hb dX3_sell_168 ?_
                  refine sg_iast hx hb hK hP hD hS (hM.1 16 rfl) (vp_in_nI (by omega) (by decide)) dX3_sell_169 (fun H locs hP hD hS => ?_)
                  have hM := hM.a16 (k := ((nI (10 * tN i + q))).toNatClampNeg) (v := ((sI (uL (uL X.1 13 (i).toNatClampNeg (((sL X.1 13 (i).toNatClampNeg) + (v94.toInt64 * r114.toInt64)))) 14 (i).toNatClampNeg (((sL (uL X.1 13 (i).toNatClampNeg (((sL X.1 13 (i).toNatClampNeg) + (v94.toInt64 * r114.toInt64)))) 14 (i).toNatClampNeg) + r133))) 16 ((nI (10 * tN i + q))).toNatClampNeg) - v94))
                  have hp : 0 < soldN X.1 (10 * tN i + q) X.2.1 := by rw [← ev94]; exact Int32.not_le.mp c98
                  have hs1 : (sellS (tN i) q X).1 = uI (uL (uL X.1 13 (i).toNatClampNeg (((sL X.1 13 (i).toNatClampNeg) + (v94.toInt64 * r114.toInt64)))) 14 (i).toNatClampNeg (((sL (uL X.1 13 (i).toNatClampNeg (((sL X.1 13 (i).toNatClampNeg) + (v94.toInt64 * r114.toInt64)))) 14 (i).toNatClampNeg) + r133))) 16 ((nI (10 * tN i + q))).toNatClampNeg (((sI (uL (uL X.1 13 (i).toNatClampNeg (((sL X.1 13 (i).toNatClampNeg) + (v94.toInt64 * r114.toInt64)))) 14 (i).toNatClampNeg (((sL (uL X.1 13 (i).toNatClampNeg (((sL X.1 13 (i).toNatClampNeg) + (v94.toInt64 * r114.toInt64)))) 14 (i).toNatClampNeg) + r133))) 16 ((nI (10 * tN i + q))).toNatClampNeg) - v94)) := by rw [sellS, if_pos hp, ← ev94]; simp only [er114, er133, hcq]; rfl
                  refine lv_iload hx hb dX3_sell_170 (lv_at hl 3 rfl) ?_
                  refine lv_iload hx hb dX3_sell_172 (lv_at hl 1 rfl) ?_
                  refine lv_isub hx hb dX3_sell_174 ?_
                  refine lv_topi (fun v175 ev175 => ?_)
                  obtain rfl : v175 = (sellS (tN i) q X).2.1 := by rw [ev175, sellS, if_pos hp, ← ev94]
                  refine lv_istore (lv' := [(4, .int ((sellS (tN i) q X).2.1)), (5, .int ((sellS (tN i) q X).2.2)), (7, .int v94), (6, .int (nI (10 * tN i + q))), (0, .ref (ad 0)), (1, .int i)]) hx hb dX3_sell_175 hl (by decide) rfl (fun ls hl => ?_)
                  obtain ⟨v177, ev177⟩ : ∃ zz9 : Int32, zz9 = (nI (10 * tN i + q)) + 1 := ⟨_, rfl⟩
                  obtain rfl : v177 = nI (10 * tN i + (q + 1)) := by rw [ev177]; exact nI_1 _
                  refine lv_iinc (v := (nI (10 * tN i + (q + 1)))) (lv' := [(6, .int (nI (10 * tN i + (q + 1)))), (4, .int ((sellS (tN i) q X).2.1)), (5, .int ((sellS (tN i) q X).2.2)), (7, .int v94), (0, .ref (ad 0)), (1, .int i)]) hx hb dX3_sell_177 hl (k := 3) rfl (nI_1 _) (by decide) rfl (fun ls hl => ?_)
                  refine lv_goto (tgt := 53) hx hb dX3_sell_180 (by decide) ?_
                  exact ih (n1 - 1) (q + 1) _ _ _ _ _ _ (by omega) ⟨by omega, by rw [sellN, ← hXX, hs1]; exact hM, rfl, rfl⟩ hP hD hS (by have hz := lv_sub hl [0, 2, 1, 4, 5] rfl; rw [sellN, ← hXX]; exact hz)
            · skip
              refine lv_iload hx hb dX3_sell_70 (lv_at hl 2 rfl) ?_
              refine lv_aload_n hx hb dX3_sell_72 rfl (lv_at hl 3 rfl) ?_
              refine va_get (ref := RX3) (v := .ref (ad 16)) hx hb hts wi_X3_sell hown hK (sg_one hP (hM.1 0 rfl)) 0 rfl rfl 16 (by decide) (hts (.fieldLink RX3 59 RX3 "had" "[I") (by decide +kernel)) (fun _ h => h) rfl dX3_sell_73 ?_
              refine lv_iload hx hb dX3_sell_76 (lv_at hl 0 rfl) ?_
              refine va_iald hx hb hK (sg_one hP (hM.1 16 rfl)) 0 0 rfl rfl (vp_in_nI (by omega) (by decide)) dX3_sell_78 ?_
              refine lv_icmp_ge (tgt := 87) hx hb dX3_sell_79 (by decide) (fun c79 => ?_) (fun c79 => ?_)
              · skip
                refine lv_aload_n hx hb dX3_sell_87 rfl (lv_at hl 3 rfl) ?_
                refine va_get (ref := RX3) (v := .ref (ad 16)) hx hb hts wi_X3_sell hown hK (sg_one hP (hM.1 0 rfl)) 0 rfl rfl 16 (by decide) (hts (.fieldLink RX3 59 RX3 "had" "[I") (by decide +kernel)) (fun _ h => h) rfl dX3_sell_88 ?_
                refine lv_iload hx hb dX3_sell_91 (lv_at hl 0 rfl) ?_
                refine va_iald hx hb hK (sg_one hP (hM.1 16 rfl)) 0 0 rfl rfl (vp_in_nI (by omega) (by decide)) dX3_sell_93 ?_
                exact k94 _ _ _ _ (⟨by grind [soldN, Int32.not_le, Int32.not_lt], hM⟩) hP hD hS
              · skip
                refine lv_iload hx hb dX3_sell_82 (lv_at hl 2 rfl) ?_
                refine lv_goto (tgt := 94) hx hb dX3_sell_84 (by decide) ?_
                exact k94 _ _ _ _ (⟨by grind [soldN, Int32.not_le, Int32.not_lt], hM⟩) hP hD hS
      · exact ⟨rfl, hM, rfl, rfl⟩
    · skip
      have h0 : ¬ tSell M i x = 0 := bI_0.mp c36
      refine lv_iconst (v := 0) hx hb dX3_sell_39 (by decide) ?_
      exact sg_iret hx hb hr rfl hlocks hP hD hS (Nat.le_of_ble_eq_true rfl) (Nat.le_of_ble_eq_true rfl) dX3_sell_40 (⟨fun h => absurd h h0, by rw [if_neg h0]; exact hM⟩)
  · skip
    refine lv_iload_n hx hb dX3_sell_15 rfl (lv_at hl 0 rfl) ?_
    refine lv_if_eq (tgt := 32) hx hb dX3_sell_16 (by decide) (fun c16 => ?_) (fun c16 => ?_)
    · skip
      refine lv_iconst (v := 0) hx hb dX3_sell_32 (by decide) ?_
      exact k33 _ _ _ _ (⟨by grind [bI, Int32.not_le, Int32.not_lt], hM⟩) hP hD hS
    · skip
      refine lv_aload_n hx hb dX3_sell_19 rfl (lv_at hl 1 rfl) ?_
      refine lv_iload_n hx hb dX3_sell_20 rfl (lv_at hl 2 rfl) ?_
      refine sg_calli hD hS hA (va_runV (As := [.int i]) (rest := [.int (bI (qIn x 1 1000000)), .int (bI (qM M i)), .ref (ad 0)]) ⟨hx, hb, hml, hown, hts⟩ (c_X3_sharesOf_i l D Y _ _ ad M i (qM_in h6 (by grind [bI])) hM.self) (cwV 1 hts gX3_sell_X3_sharesOf rfl rfl rfl (by decide +kernel) ⟨Nat.le_of_ble_eq_true rfl, Nat.le_of_ble_eq_true rfl⟩) (sg_preV (q := (RX3, TX3, 20)) (hM.1 0 rfl) rfl hK hP hD hN hX hS hA) rfl rfl hl.1 rfl (lv_room (Nat.le_of_ble_eq_true rfl)) dX3_sell_21 ⟨Nat.le_of_ble_eq_true rfl, Nat.le_of_ble_eq_true rfl⟩) (fun r21 σ' H locs hw hP hD hS => ?_)
      obtain ⟨er21, rfl⟩ := hw
      refine lv_iload_n hx hb dX3_sell_24 rfl (lv_at hl 3 rfl) ?_
      refine lv_icmp_lt (tgt := 32) hx hb dX3_sell_25 (by decide) (fun c25 => ?_) (fun c25 => ?_)
      · skip
        refine lv_iconst (v := 0) hx hb dX3_sell_32 (by decide) ?_
        exact k33 _ _ _ _ (⟨by grind [bI, Int32.not_le, Int32.not_lt], hM⟩) hP hD hS
      · skip
        refine lv_iconst (v := 1) hx hb dX3_sell_28 (by decide) ?_
        refine lv_goto (tgt := 33) hx hb dX3_sell_29 (by decide) ?_
        exact k33 _ _ _ _ (⟨by grind [bI, Int32.not_le, Int32.not_lt], hM⟩) hP hD hS
end
section
theorem MF.to {Y : Nat → ClassId} {ad : Nat → Nat} {σ0 σ : sg_W} {M M' : MS} (h : MF Y ad σ0 M σ) (e : M = M') : MF Y ad σ0 M' σ := e ▸ h
def okBuy (M : MS) (j : Nat) : Prop := vp_in (sS M 0) 60 ∧ vp_in (sI M 10 j) 60 ∧ (∀ k, k < 60 → vp_in (sI M 18 k) 60) ∧ ¬ (sI M 1 (tN (sI M 10 j))).toInt64 = 0 ∧ ¬ bEach M j = 0
theorem buy1_S {M : MS} {j a : Nat} : sS (buy1 M j) a = sS M a := by unfold buy1; split <;> rfl
theorem buy2_S {M : MS} {j a : Nat} : sS (buy2 M j) a = sS M a := by rw [buy2, sS_uI, buy1_S]
theorem buyM_S {M : MS} {j a : Nat} : sS (buyM M j) a = sS M a := by unfold buyM; split <;> (simp only [sS_uI, buy2_S])
theorem bAll_S {M : MS} {a : Nat} : ∀ k, sS (bAll M k) a = sS M a
  | 0 => rfl
  | k + 1 => by
    rw [bAll]
    split
    · rw [buyM_S, bAll_S k]
    · rw [bAll_S k]
theorem buy1_I {M : MS} {j a : Nat} (h : a ≠ 15 ∧ a ≠ 16 ∧ a ≠ 17 ∧ a ≠ 18 ∧ a ≠ 6) : sI (buy1 M j) a = sI M a := by
  unfold buy1
  split
  · simp only [sI_uI, sI_uL, if_neg h.1, if_neg h.2.1, if_neg h.2.2.1, if_neg h.2.2.2.1, if_neg h.2.2.2.2]
  · rfl
theorem buy2_I {M : MS} {j a : Nat} (h : a ≠ 15 ∧ a ≠ 16 ∧ a ≠ 17 ∧ a ≠ 18 ∧ a ≠ 6) (h2 : a ≠ 11) : sI (buy2 M j) a = sI M a := by rw [buy2, sI_uI, if_neg h2, buy1_I h]
theorem buy2_11 {M : MS} {j : Nat} : sI (buy2 M j) 11 j = sI M 11 j + 1 := by rw [buy2, sI_uI, if_pos rfl, upd_at, if_pos rfl]
theorem c_X3_countedIn_i (l : Launch) (D : va_G) (Y : Nat → ClassId) (σ : sg_W) (sz : Nat) (ad : Nat → Nat) (M : MS) (j : Nat) (x : Int32) (hj : j < 6) (hi : vp_in x 5) (ho : ∀ k, k < 60 → vp_in (sI M 18 k) 60) (hM : MW Y ad M σ) : Met l yX3_countedIn wsX3_countedIn ({ frames := 0, cells := 0, slots := 0, locals := 0 } : Room) (va_Pc [.ref (ad 0), .int (nI j), .int x] (sg_U D Y σ sz)) (va_Ql (fun r σ' => r = cN M j (tN x) ∧ σ = σ') (sg_B D σ sz) (sg_A σ sz)) 0 0 (sg_A σ sz) := by
  obtain ⟨y, hy, rfl⟩ := vp_in_of hi (by decide)
  rw [show tN (nI y) = y from nI_clamp (by omega)]
  exact c_X3_countedIn l D Y σ sz ad M j y hj hy ho hM
theorem wi_X3_buy : ∀ w ∈ wsX30, w ∈ wsX3_buy := by decide +kernel
set_option maxHeartbeats 4000000 in
set_option maxRecDepth 100000 in
theorem c_X3_buy (l : Launch) (D : va_G) (Y : Nat → ClassId) (σ : sg_W) (sz : Nat) (ad : Nat → Nat) (M : MS) (j : Nat) (hj : j < 6) (hok : okBuy M j) (hM : MW Y ad M σ) : Met l yX3_buy wsX3_buy ({ frames := 1, cells := 0, slots := 0, locals := 25 } : Room) (va_Pc [.ref (ad 0), .int (nI j)] (sg_U D Y σ sz)) (va_Qv (fun σ' => MF Y ad σ (buyM M j) σ') (sg_B D σ sz) (sg_A σ sz)) 0 0 (sg_A σ sz) := by
  refine sg_met (cc := cX3_buy) (maxL := 11) (ret := none) (by decide) rfl (Nat.le_of_ble_eq_true rfl) ?_
  intro p e s m below meth c ls hx hb hml hr hown hts hlocks hnm hP hK hD hN hX hA hS hsz hl
  have hl : lv_has ls 11 [(0, .ref (ad 0)), (1, .int (nI j))] := hl
  obtain ⟨hm, hf, ho, hst, hea⟩ := hok
  have hcj : (nI j).toNatClampNeg = j := nI_clamp (by omega)
  have hmt := vp_eq hm (by decide)
  have hml2 := vp_lt hm
  have hd12 : sS M 0 / 12 = nI (tN (sS M 0) / 12) := (congrArg (fun z => z / 12) hmt).trans (pk_div (a := tN (sS M 0)) (d := 12) (by omega) (by omega) (by omega))
  have hd6 : sS M 0 / 6 = nI (tN (sS M 0) / 6) := (congrArg (fun z => z / 6) hmt).trans (pk_div (a := tN (sS M 0)) (d := 6) (by omega) (by omega) (by omega))
  have ht12 : tN (sS M 0 / 12) = tN (sS M 0) / 12 := by rw [hd12, tN, nI_clamp (by omega)]
  have h10 : 10 * nI j = nI (10 * j) := pk_mul 10 j
  refine lv_aload_n hx hb dX3_buy_0 rfl (lv_at hl 0 rfl) ?_
  refine va_get (ref := RX3) (v := .ref (ad 1)) hx hb hts wi_X3_buy hown hK (sg_one hP (hM.1 0 rfl)) 0 rfl rfl 1 (by decide) (hts (.fieldLink RX3 13 RX3 "price" "[I") (by decide +kernel)) (fun _ h => h) rfl dX3_buy_1 ?_
  refine lv_aload_n hx hb dX3_buy_4 rfl (lv_at hl 0 rfl) ?_
  refine va_get (ref := RX3) (v := .ref (ad 10)) hx hb hts wi_X3_buy hown hK (sg_one hP (hM.1 0 rfl)) 0 rfl rfl 10 (by decide) (hts (.fieldLink RX3 41 RX3 "first" "[I") (by decide +kernel)) (fun _ h => h) rfl dX3_buy_5 ?_
  refine lv_iload_n hx hb dX3_buy_8 rfl (lv_at hl 1 rfl) ?_
  refine va_iald hx hb hK (sg_one hP (hM.1 10 rfl)) 0 0 rfl rfl (vp_r (a := j) rfl hj (by decide)) dX3_buy_9 ?_
  refine va_iald hx hb hK (sg_one hP (hM.1 1 rfl)) 0 0 rfl rfl (by rw [hcj]; exact hf) dX3_buy_10 ?_
  refine lv_topi (fun v11 ev11 => ?_)
  refine lv_istore_n (lv' := [(2, .int v11), (0, .ref (ad 0)), (1, .int (nI j))]) hx hb dX3_buy_11 rfl hl (by decide) rfl (fun ls hl => ?_)
  refine lv_aload_n hx hb dX3_buy_12 rfl (lv_at hl 1 rfl) ?_
  refine va_get (ref := RX3) (v := .ref (ad 1)) hx hb hts wi_X3_buy hown hK (sg_one hP (hM.1 0 rfl)) 0 rfl rfl 1 (by decide) (hts (.fieldLink RX3 13 RX3 "price" "[I") (by decide +kernel)) (fun _ h => h) rfl dX3_buy_13 ?_
  refine lv_aload_n hx hb dX3_buy_16 rfl (lv_at hl 1 rfl) ?_
  refine va_get (ref := RX3) (v := .int (sS M 0)) hx hb hts wi_X3_buy hown hK (sg_one hP (hM.1 0 rfl)) 0 rfl rfl 0 (by decide) (hts (.fieldLink RX3 9 RX3 "month" "I") (by decide +kernel)) (fun _ h => h) rfl dX3_buy_17 ?_
  refine va_iald hx hb hK (sg_one hP (hM.1 1 rfl)) 0 0 rfl rfl (hm) dX3_buy_20 ?_
  refine lv_topi (fun v21 ev21 => ?_)
  refine lv_istore_n (lv' := [(3, .int v21), (2, .int v11), (0, .ref (ad 0)), (1, .int (nI j))]) hx hb dX3_buy_21 rfl hl (by decide) rfl (fun ls hl => ?_)
  refine sg_cutwi (D := D) hS (j := 32) (ls := ls) (rest := []) 0 0 (fun x9 σ' => x9 = (if v11 < v21 then v11 else v21) ∧ MF Y ad σ M σ') (fun x9 σ' H locs hj9 hP hD hS => ?_) (fun k32 => ?_)
  · obtain ⟨low9, rfl⟩ : ∃ z9, z9 = x9 := ⟨_, rfl⟩
    obtain ⟨elow9, hM⟩ := hj9
    refine lv_istore (lv' := [(4, .int low9), (3, .int v21), (2, .int v11), (0, .ref (ad 0)), (1, .int (nI j))]) hx hb dX3_buy_32 hl (by decide) rfl (fun ls hl => ?_)
    refine lv_bipush (v := 85) hx hb dX3_buy_34 (by decide) ?_
    refine lv_iload hx hb dX3_buy_36 (lv_at hl 0 rfl) ?_
    refine lv_imul hx hb dX3_buy_38 ?_
    refine lv_bipush (v := 99) hx hb dX3_buy_39 (by decide) ?_
    refine lv_iadd hx hb dX3_buy_41 ?_
    refine lv_bipush (v := 100) hx hb dX3_buy_42 (by decide) ?_
    refine lv_idiv hx hb dX3_buy_44 (by decide) ?_
    refine lv_topi (fun v45 ev45 => ?_)
    refine lv_istore (lv' := [(5, .int v45), (4, .int low9), (3, .int v21), (2, .int v11), (0, .ref (ad 0)), (1, .int (nI j))]) hx hb dX3_buy_45 hl (by decide) rfl (fun ls hl => ?_)
    refine lv_aload_n hx hb dX3_buy_47 rfl (lv_at hl 4 rfl) ?_
    refine va_get (ref := RX3) (v := .int (sS M 2)) hx hb hts wi_X3_buy hown hK (sg_one hP (hM.1 0 rfl)) 0 rfl rfl 2 (by decide) (hts (.fieldLink RX3 18 RX3 "ceiling" "I") (by decide +kernel)) (fun _ h => h) rfl dX3_buy_48 ?_
    refine lv_i2l hx hb dX3_buy_51 rfl ?_
    refine lv_aload_n hx hb dX3_buy_52 rfl (lv_at hl 4 rfl) ?_
    refine lv_iload_n hx hb dX3_buy_53 rfl (lv_at hl 5 rfl) ?_
    refine lv_aload_n hx hb dX3_buy_54 rfl (lv_at hl 4 rfl) ?_
    refine va_get (ref := RX3) (v := .int (sS M 0)) hx hb hts wi_X3_buy hown hK (sg_one hP (hM.1 0 rfl)) 0 rfl rfl 0 (by decide) (hts (.fieldLink RX3 9 RX3 "month" "I") (by decide +kernel)) (fun _ h => h) rfl dX3_buy_55 ?_
    refine lv_bipush (v := 12) hx hb dX3_buy_58 (by decide) ?_
    refine lv_idiv hx hb dX3_buy_60 (by decide) ?_
    refine sg_calll hD hS hA (va_runV (As := [.int (nI j), .int ((sS M 0) / 12)]) (rest := [.long ((sS M 2)).toInt64]) ⟨hx, hb, hml, hown, hts⟩ (c_X3_countedIn_i l D Y _ _ ad M j (sS M 0 / 12) hj (by rw [hd12]; exact vp_in_nI (by omega) (by decide)) ho hM.self) (cwV 2 hts gX3_buy_X3_countedIn rfl rfl rfl (by decide +kernel) ⟨Nat.le_of_ble_eq_true rfl, Nat.le_of_ble_eq_true rfl⟩) (sg_preV (q := (RX3, TX3, 20)) (hM.1 0 rfl) rfl hK hP hD hN hX hS hA) rfl rfl hl.1 rfl (lv_room (Nat.le_of_ble_eq_true rfl)) dX3_buy_61 ⟨Nat.le_of_ble_eq_true rfl, Nat.le_of_ble_eq_true rfl⟩) (fun r61 σ' H locs hw hP hD hS => ?_)
    obtain ⟨er61, rfl⟩ := hw
    refine lv_lsub hx hb dX3_buy_64 ?_
    refine lv_iload_n hx hb dX3_buy_65 rfl (lv_at hl 3 rfl) ?_
    refine lv_i2l hx hb dX3_buy_66 rfl ?_
    refine lv_ldiv hx hb dX3_buy_67 (by rw [ev11, hcj]; exact hst) ?_
    refine lv_topl (fun v68 ev68 => ?_)
    refine lv_lstore (lv' := [(6, .long v68), (5, .int v45), (4, .int low9), (3, .int v21), (2, .int v11), (0, .ref (ad 0)), (1, .int (nI j))]) hx hb dX3_buy_68 hl (by decide) rfl (fun ls hl => ?_)
    refine lv_aload_n hx hb dX3_buy_70 rfl (lv_at hl 5 rfl) ?_
    refine va_get (ref := RX3) (v := .ref (ad 6)) hx hb hts wi_X3_buy hown hK (sg_one hP (hM.1 0 rfl)) 0 rfl rfl 6 (by decide) (hts (.fieldLink RX3 28 RX3 "money" "[I") (by decide +kernel)) (fun _ h => h) rfl dX3_buy_71 ?_
    refine lv_iload_n hx hb dX3_buy_74 rfl (lv_at hl 6 rfl) ?_
    refine va_iald hx hb hK (sg_one hP (hM.1 6 rfl)) 0 0 rfl rfl (vp_r (a := j) rfl hj (by decide)) dX3_buy_75 ?_
    refine lv_iload hx hb dX3_buy_76 (lv_at hl 1 rfl) ?_
    refine lv_idiv hx hb dX3_buy_78 (by rw [show v45 = bEach M j by rw [ev45, elow9, ev11, ev21, hcj]; rfl]; exact hea) ?_
    refine lv_topi (fun v79 ev79 => ?_)
    refine lv_istore (lv' := [(8, .int v79), (6, .long v68), (5, .int v45), (4, .int low9), (3, .int v21), (2, .int v11), (0, .ref (ad 0)), (1, .int (nI j))]) hx hb dX3_buy_79 hl (by decide) rfl (fun ls hl => ?_)
    refine sg_cutwi (D := D) hS (j := 109) (ls := ls) (rest := []) 0 0 (fun x9 σ' => x9 = (if v68 < 0 then 0 else if v68 < v79.toInt64 then v68.toInt32 else v79) ∧ MF Y ad σ M σ') (fun x9 σ' H locs hj9 hP hD hS => ?_) (fun k109 => ?_)
    · obtain ⟨cnt9, rfl⟩ : ∃ z9, z9 = x9 := ⟨_, rfl⟩
      obtain ⟨ecnt9, hM⟩ := hj9
      refine lv_istore (lv' := [(9, .int cnt9), (8, .int v79), (6, .long v68), (5, .int v45), (4, .int low9), (3, .int v21), (2, .int v11), (0, .ref (ad 0)), (1, .int (nI j))]) hx hb dX3_buy_109 hl (by decide) rfl (fun ls hl => ?_)
      refine lv_bipush (v := 10) hx hb dX3_buy_111 (by decide) ?_
      refine lv_iload_n hx hb dX3_buy_113 rfl (lv_at hl 8 rfl) ?_
      refine lv_imul hx hb dX3_buy_114 ?_
      refine lv_aload_n hx hb dX3_buy_115 rfl (lv_at hl 7 rfl) ?_
      refine va_get (ref := RX3) (v := .int (sS M 0)) hx hb hts wi_X3_buy hown hK (sg_one hP (hM.1 0 rfl)) 0 rfl rfl 0 (by decide) (hts (.fieldLink RX3 9 RX3 "month" "I") (by decide +kernel)) (fun _ h => h) rfl dX3_buy_116 ?_
      refine lv_bipush (v := 6) hx hb dX3_buy_119 (by decide) ?_
      refine lv_idiv hx hb dX3_buy_121 (by decide) ?_
      refine lv_iadd hx hb dX3_buy_122 ?_
      refine lv_topi (fun v123 ev123 => ?_)
      obtain rfl : v123 = nI (10 * j + tN (sS M 0) / 6) := by rw [ev123, h10, hd6, nI_add]
      refine lv_istore (lv' := [(10, .int (nI (10 * j + tN (sS M 0) / 6))), (9, .int cnt9), (8, .int v79), (6, .long v68), (5, .int v45), (4, .int low9), (3, .int v21), (2, .int v11), (0, .ref (ad 0)), (1, .int (nI j))]) hx hb dX3_buy_123 hl (by decide) rfl (fun ls hl => ?_)
      refine sg_cutw (D := D) hS (j := 199) (ls := ls) (rest := []) 0 0 (fun σ' => MF Y ad σ (buy1 M j) σ') (fun σ' H locs hj9 hP hD hS => ?_) (fun k199 => ?_)
      · have hM := hj9
        refine lv_aload_n hx hb dX3_buy_199 rfl (lv_at hl 8 rfl) ?_
        refine va_get (ref := RX3) (v := .ref (ad 11)) hx hb hts wi_X3_buy hown hK (sg_one hP (hM.1 0 rfl)) 0 rfl rfl 11 (by decide) (hts (.fieldLink RX3 44 RX3 "times" "[I") (by decide +kernel)) (fun _ h => h) rfl dX3_buy_200 ?_
        refine lv_iload_n hx hb dX3_buy_203 rfl (lv_at hl 9 rfl) ?_
        refine lv_dup2_11 hx hb dX3_buy_204 rfl rfl ?_
        refine va_iald hx hb hK (sg_one hP (hM.1 11 rfl)) 0 0 rfl rfl (vp_r (a := j) rfl hj (by decide)) dX3_buy_205 ?_
        refine lv_iconst (v := 1) hx hb dX3_buy_206 (by decide) ?_
        refine lv_iadd hx hb dX3_buy_207 ?_
        refine sg_iast hx hb hK hP hD hS (hM.1 11 rfl) (vp_r (a := j) rfl hj (by decide)) dX3_buy_208 (fun H locs hP hD hS => ?_)
        have hM := hM.a11 (k := ((nI j)).toNatClampNeg) (v := ((sI (buy1 M j) 11 ((nI j)).toNatClampNeg) + 1))
        have hM := hM.to (M' := buy2 M j) (by rw [hcj, buy1_I (by decide)]; rfl)
        refine lv_iload_n hx hb dX3_buy_209 rfl (lv_at hl 6 rfl) ?_
        refine lv_iload_n hx hb dX3_buy_210 rfl (lv_at hl 7 rfl) ?_
        refine lv_icmp_lt (tgt := 224) hx hb dX3_buy_211 (by decide) (fun c211 => ?_) (fun c211 => ?_)
        · skip
          refine lv_aload_n hx hb dX3_buy_224 rfl (lv_at hl 8 rfl) ?_
          refine va_get (ref := RX3) (v := .ref (ad 12)) hx hb hts wi_X3_buy hown hK (sg_one hP (hM.1 0 rfl)) 0 rfl rfl 12 (by decide) (hts (.fieldLink RX3 47 RX3 "resets" "[I") (by decide +kernel)) (fun _ h => h) rfl dX3_buy_225 ?_
          refine lv_iload_n hx hb dX3_buy_228 rfl (lv_at hl 9 rfl) ?_
          refine lv_dup2_11 hx hb dX3_buy_229 rfl rfl ?_
          refine va_iald hx hb hK (sg_one hP (hM.1 12 rfl)) 0 0 rfl rfl (vp_r (a := j) rfl hj (by decide)) dX3_buy_230 ?_
          refine lv_iload_n hx hb dX3_buy_231 rfl (lv_at hl 6 rfl) ?_
          refine lv_iload_n hx hb dX3_buy_232 rfl (lv_at hl 7 rfl) ?_
          refine lv_icmp_ge (tgt := 240) hx hb dX3_buy_233 (by decide) (fun c233 => ?_) (fun c233 => ?_)
          · skip
            refine lv_iconst (v := 0) hx hb dX3_buy_240 (by decide) ?_
            refine lv_iadd hx hb dX3_buy_241 ?_
            refine sg_iast hx hb hK hP hD hS (hM.1 12 rfl) (vp_r (a := j) rfl hj (by decide)) dX3_buy_242 (fun H locs hP hD hS => ?_)
            have hM := hM.a12 (k := ((nI j)).toNatClampNeg) (v := ((sI (buy2 M j) 12 ((nI j)).toNatClampNeg) + 0))
            refine lv_aload_n hx hb dX3_buy_243 rfl (lv_at hl 8 rfl) ?_
            refine va_get (ref := RX3) (v := .ref (ad 10)) hx hb hts wi_X3_buy hown hK (sg_one hP (hM.1 0 rfl)) 0 rfl rfl 10 (by decide) (hts (.fieldLink RX3 41 RX3 "first" "[I") (by decide +kernel)) (fun _ h => h) rfl dX3_buy_244 ?_
            refine lv_iload_n hx hb dX3_buy_247 rfl (lv_at hl 9 rfl) ?_
            refine lv_aload_n hx hb dX3_buy_248 rfl (lv_at hl 8 rfl) ?_
            refine va_get (ref := RX3) (v := .int (sS (uI (buy2 M j) 12 ((nI j)).toNatClampNeg (((sI (buy2 M j) 12 ((nI j)).toNatClampNeg) + 0))) 0)) hx hb hts wi_X3_buy hown hK (sg_one hP (hM.1 0 rfl)) 0 rfl rfl 0 (by decide) (hts (.fieldLink RX3 9 RX3 "month" "I") (by decide +kernel)) (fun _ h => h) rfl dX3_buy_249 ?_
            refine sg_iast hx hb hK hP hD hS (hM.1 10 rfl) (vp_r (a := j) rfl hj (by decide)) dX3_buy_252 (fun H locs hP hD hS => ?_)
            have hM := hM.a10 (k := ((nI j)).toNatClampNeg) (v := (sS (uI (buy2 M j) 12 ((nI j)).toNatClampNeg (((sI (buy2 M j) 12 ((nI j)).toNatClampNeg) + 0))) 0))
            refine lv_aload_n hx hb dX3_buy_253 rfl (lv_at hl 8 rfl) ?_
            refine va_get (ref := RX3) (v := .ref (ad 11)) hx hb hts wi_X3_buy hown hK (sg_one hP (hM.1 0 rfl)) 0 rfl rfl 11 (by decide) (hts (.fieldLink RX3 44 RX3 "times" "[I") (by decide +kernel)) (fun _ h => h) rfl dX3_buy_254 ?_
            refine lv_iload_n hx hb dX3_buy_257 rfl (lv_at hl 9 rfl) ?_
            refine lv_iconst (v := 0) hx hb dX3_buy_258 (by decide) ?_
            refine sg_iast hx hb hK hP hD hS (hM.1 11 rfl) (vp_r (a := j) rfl hj (by decide)) dX3_buy_259 (fun H locs hP hD hS => ?_)
            have hM := hM.a11 (k := ((nI j)).toNatClampNeg) (v := 0)
            exact sg_vret hx hb hr hlocks hP hD hS (Nat.le_of_ble_eq_true rfl) (Nat.le_of_ble_eq_true rfl) dX3_buy_260 (hM.to (by rw [buyM, if_pos (show _ by first | exact Or.inl (by rw [ev21, ev11, hcj] at c211; exact c211) | exact Or.inr (by rw [hcj, buy2_11] at c221; exact c221)), if_neg (by have c9 := Int32.not_lt.mpr c233; rw [ev21, ev11, hcj] at c9; exact c9), hcj, buy2_I (by decide) (by decide)]; simp only [sS_uI, buy2_S]))
          · skip
            refine lv_iconst (v := 1) hx hb dX3_buy_236 (by decide) ?_
            refine lv_goto (tgt := 241) hx hb dX3_buy_237 (by decide) ?_
            refine lv_iadd hx hb dX3_buy_241 ?_
            refine sg_iast hx hb hK hP hD hS (hM.1 12 rfl) (vp_r (a := j) rfl hj (by decide)) dX3_buy_242 (fun H locs hP hD hS => ?_)
            have hM := hM.a12 (k := ((nI j)).toNatClampNeg) (v := ((sI (buy2 M j) 12 ((nI j)).toNatClampNeg) + 1))
            refine lv_aload_n hx hb dX3_buy_243 rfl (lv_at hl 8 rfl) ?_
            refine va_get (ref := RX3) (v := .ref (ad 10)) hx hb hts wi_X3_buy hown hK (sg_one hP (hM.1 0 rfl)) 0 rfl rfl 10 (by decide) (hts (.fieldLink RX3 41 RX3 "first" "[I") (by decide +kernel)) (fun _ h => h) rfl dX3_buy_244 ?_
            refine lv_iload_n hx hb dX3_buy_247 rfl (lv_at hl 9 rfl) ?_
            refine lv_aload_n hx hb dX3_buy_248 rfl (lv_at hl 8 rfl) ?_
            refine va_get (ref := RX3) (v := .int (sS (uI (buy2 M j) 12 ((nI j)).toNatClampNeg (((sI (buy2 M j) 12 ((nI j)).toNatClampNeg) + 1))) 0)) hx hb hts wi_X3_buy hown hK (sg_one hP (hM.1 0 rfl)) 0 rfl rfl 0 (by decide) (hts (.fieldLink RX3 9 RX3 "month" "I") (by decide +kernel)) (fun _ h => h) rfl dX3_buy_249 ?_
            refine sg_iast hx hb hK hP hD hS (hM.1 10 rfl) (vp_r (a := j) rfl hj (by decide)) dX3_buy_252 (fun H locs hP hD hS => ?_)
            have hM := hM.a10 (k := ((nI j)).toNatClampNeg) (v := (sS (uI (buy2 M j) 12 ((nI j)).toNatClampNeg (((sI (buy2 M j) 12 ((nI j)).toNatClampNeg) + 1))) 0))
            refine lv_aload_n hx hb dX3_buy_253 rfl (lv_at hl 8 rfl) ?_
            refine va_get (ref := RX3) (v := .ref (ad 11)) hx hb hts wi_X3_buy hown hK (sg_one hP (hM.1 0 rfl)) 0 rfl rfl 11 (by decide) (hts (.fieldLink RX3 44 RX3 "times" "[I") (by decide +kernel)) (fun _ h => h) rfl dX3_buy_254 ?_
            refine lv_iload_n hx hb dX3_buy_257 rfl (lv_at hl 9 rfl) ?_
            refine lv_iconst (v := 0) hx hb dX3_buy_258 (by decide) ?_
            refine sg_iast hx hb hK hP hD hS (hM.1 11 rfl) (vp_r (a := j) rfl hj (by decide)) dX3_buy_259 (fun H locs hP hD hS => ?_)
            have hM := hM.a11 (k := ((nI j)).toNatClampNeg) (v := 0)
            exact sg_vret hx hb hr hlocks hP hD hS (Nat.le_of_ble_eq_true rfl) (Nat.le_of_ble_eq_true rfl) dX3_buy_260 (hM.to (by rw [buyM, if_pos (show _ by first | exact Or.inl (by rw [ev21, ev11, hcj] at c211; exact c211) | exact Or.inr (by rw [hcj, buy2_11] at c221; exact c221)), if_pos (by have c9 := Int32.not_le.mp c233; rw [ev21, ev11, hcj] at c9; exact c9), hcj, buy2_I (by decide) (by decide)]; simp only [sS_uI, buy2_S]))
        · skip
          refine lv_aload_n hx hb dX3_buy_214 rfl (lv_at hl 8 rfl) ?_
          refine va_get (ref := RX3) (v := .ref (ad 11)) hx hb hts wi_X3_buy hown hK (sg_one hP (hM.1 0 rfl)) 0 rfl rfl 11 (by decide) (hts (.fieldLink RX3 44 RX3 "times" "[I") (by decide +kernel)) (fun _ h => h) rfl dX3_buy_215 ?_
          refine lv_iload_n hx hb dX3_buy_218 rfl (lv_at hl 9 rfl) ?_
          refine va_iald hx hb hK (sg_one hP (hM.1 11 rfl)) 0 0 rfl rfl (vp_r (a := j) rfl hj (by decide)) dX3_buy_219 ?_
          refine lv_iconst (v := 4) hx hb dX3_buy_220 (by decide) ?_
          refine lv_icmp_ne (tgt := 260) hx hb dX3_buy_221 (by decide) (fun c221 => ?_) (fun c221 => ?_)
          · skip
            exact sg_vret hx hb hr hlocks hP hD hS (Nat.le_of_ble_eq_true rfl) (Nat.le_of_ble_eq_true rfl) dX3_buy_260 (hM.to (by rw [buyM, if_neg (by rintro (h | h); exact c211 (by rw [ev21, ev11, hcj]; exact h); exact c221 (by rw [hcj, buy2_11]; exact h))]))
          · skip
            refine lv_aload_n hx hb dX3_buy_224 rfl (lv_at hl 8 rfl) ?_
            refine va_get (ref := RX3) (v := .ref (ad 12)) hx hb hts wi_X3_buy hown hK (sg_one hP (hM.1 0 rfl)) 0 rfl rfl 12 (by decide) (hts (.fieldLink RX3 47 RX3 "resets" "[I") (by decide +kernel)) (fun _ h => h) rfl dX3_buy_225 ?_
            refine lv_iload_n hx hb dX3_buy_228 rfl (lv_at hl 9 rfl) ?_
            refine lv_dup2_11 hx hb dX3_buy_229 rfl rfl ?_
            refine va_iald hx hb hK (sg_one hP (hM.1 12 rfl)) 0 0 rfl rfl (vp_r (a := j) rfl hj (by decide)) dX3_buy_230 ?_
            refine lv_iload_n hx hb dX3_buy_231 rfl (lv_at hl 6 rfl) ?_
            refine lv_iload_n hx hb dX3_buy_232 rfl (lv_at hl 7 rfl) ?_
            refine lv_icmp_ge (tgt := 240) hx hb dX3_buy_233 (by decide) (fun c233 => ?_) (fun c233 => ?_)
            · skip
              refine lv_iconst (v := 0) hx hb dX3_buy_240 (by decide) ?_
              refine lv_iadd hx hb dX3_buy_241 ?_
              refine sg_iast hx hb hK hP hD hS (hM.1 12 rfl) (vp_r (a := j) rfl hj (by decide)) dX3_buy_242 (fun H locs hP hD hS => ?_)
              have hM := hM.a12 (k := ((nI j)).toNatClampNeg) (v := ((sI (buy2 M j) 12 ((nI j)).toNatClampNeg) + 0))
              refine lv_aload_n hx hb dX3_buy_243 rfl (lv_at hl 8 rfl) ?_
              refine va_get (ref := RX3) (v := .ref (ad 10)) hx hb hts wi_X3_buy hown hK (sg_one hP (hM.1 0 rfl)) 0 rfl rfl 10 (by decide) (hts (.fieldLink RX3 41 RX3 "first" "[I") (by decide +kernel)) (fun _ h => h) rfl dX3_buy_244 ?_
              refine lv_iload_n hx hb dX3_buy_247 rfl (lv_at hl 9 rfl) ?_
              refine lv_aload_n hx hb dX3_buy_248 rfl (lv_at hl 8 rfl) ?_
              refine va_get (ref := RX3) (v := .int (sS (uI (buy2 M j) 12 ((nI j)).toNatClampNeg (((sI (buy2 M j) 12 ((nI j)).toNatClampNeg) + 0))) 0)) hx hb hts wi_X3_buy hown hK (sg_one hP (hM.1 0 rfl)) 0 rfl rfl 0 (by decide) (hts (.fieldLink RX3 9 RX3 "month" "I") (by decide +kernel)) (fun _ h => h) rfl dX3_buy_249 ?_
              refine sg_iast hx hb hK hP hD hS (hM.1 10 rfl) (vp_r (a := j) rfl hj (by decide)) dX3_buy_252 (fun H locs hP hD hS => ?_)
              have hM := hM.a10 (k := ((nI j)).toNatClampNeg) (v := (sS (uI (buy2 M j) 12 ((nI j)).toNatClampNeg (((sI (buy2 M j) 12 ((nI j)).toNatClampNeg) + 0))) 0))
              refine lv_aload_n hx hb dX3_buy_253 rfl (lv_at hl 8 rfl) ?_
              refine va_get (ref := RX3) (v := .ref (ad 11)) hx hb hts wi_X3_buy hown hK (sg_one hP (hM.1 0 rfl)) 0 rfl rfl 11 (by decide) (hts (.fieldLink RX3 44 RX3 "times" "[I") (by decide +kernel)) (fun _ h => h) rfl dX3_buy_254 ?_
              refine lv_iload_n hx hb dX3_buy_257 rfl (lv_at hl 9 rfl) ?_
              refine lv_iconst (v := 0) hx hb dX3_buy_258 (by decide) ?_
              refine sg_iast hx hb hK hP hD hS (hM.1 11 rfl) (vp_r (a := j) rfl hj (by decide)) dX3_buy_259 (fun H locs hP hD hS => ?_)
              have hM := hM.a11 (k := ((nI j)).toNatClampNeg) (v := 0)
              exact sg_vret hx hb hr hlocks hP hD hS (Nat.le_of_ble_eq_true rfl) (Nat.le_of_ble_eq_true rfl) dX3_buy_260 (hM.to (by rw [buyM, if_pos (show _ by first | exact Or.inl (by rw [ev21, ev11, hcj] at c211; exact c211) | exact Or.inr (by rw [hcj, buy2_11] at c221; exact c221)), if_neg (by have c9 := Int32.not_lt.mpr c233; rw [ev21, ev11, hcj] at c9; exact c9), hcj, buy2_I (by decide) (by decide)]; simp only [sS_uI, buy2_S]))
            · skip
              refine lv_iconst (v := 1) hx hb dX3_buy_236 (by decide) ?_
              refine lv_goto (tgt := 241) hx hb dX3_buy_237 (by decide) ?_
              refine lv_iadd hx hb dX3_buy_241 ?_
              refine sg_iast hx hb hK hP hD hS (hM.1 12 rfl) (vp_r (a := j) rfl hj (by decide)) dX3_buy_242 (fun H locs hP hD hS => ?_)
              have hM := hM.a12 (k := ((nI j)).toNatClampNeg) (v := ((sI (buy2 M j) 12 ((nI j)).toNatClampNeg) + 1))
              refine lv_aload_n hx hb dX3_buy_243 rfl (lv_at hl 8 rfl) ?_
              refine va_get (ref := RX3) (v := .ref (ad 10)) hx hb hts wi_X3_buy hown hK (sg_one hP (hM.1 0 rfl)) 0 rfl rfl 10 (by decide) (hts (.fieldLink RX3 41 RX3 "first" "[I") (by decide +kernel)) (fun _ h => h) rfl dX3_buy_244 ?_
              refine lv_iload_n hx hb dX3_buy_247 rfl (lv_at hl 9 rfl) ?_
              refine lv_aload_n hx hb dX3_buy_248 rfl (lv_at hl 8 rfl) ?_
              refine va_get (ref := RX3) (v := .int (sS (uI (buy2 M j) 12 ((nI j)).toNatClampNeg (((sI (buy2 M j) 12 ((nI j)).toNatClampNeg) + 1))) 0)) hx hb hts wi_X3_buy hown hK (sg_one hP (hM.1 0 rfl)) 0 rfl rfl 0 (by decide) (hts (.fieldLink RX3 9 RX3 "month" "I") (by decide +kernel)) (fun _ h => h) rfl dX3_buy_249 ?_
              refine sg_iast hx hb hK hP hD hS (hM.1 10 rfl) (vp_r (a := j) rfl hj (by decide)) dX3_buy_252 (fun H locs hP hD hS => ?_)
              have hM := hM.a10 (k := ((nI j)).toNatClampNeg) (v := (sS (uI (buy2 M j) 12 ((nI j)).toNatClampNeg (((sI (buy2 M j) 12 ((nI j)).toNatClampNeg) + 1))) 0))
              refine lv_aload_n hx hb dX3_buy_253 rfl (lv_at hl 8 rfl) ?_
              refine va_get (ref := RX3) (v := .ref (ad 11)) hx hb hts wi_X3_buy hown hK (sg_one hP (hM.1 0 rfl)) 0 rfl rfl 11 (by decide) (hts (.fieldLink RX3 44 RX3 "times" "[I") (by decide +kernel)) (fun _ h => h) rfl dX3_buy_254 ?_
              refine lv_iload_n hx hb dX3_buy_257 rfl (lv_at hl 9 rfl) ?_
              refine lv_iconst (v := 0) hx hb dX3_buy_258 (by decide) ?_
              refine sg_iast hx hb hK hP hD hS (hM.1 11 rfl) (vp_r (a := j) rfl hj (by decide)) dX3_buy_259 (fun H locs hP hD hS => ?_)
              have hM := hM.a11 (k := ((nI j)).toNatClampNeg) (v := 0)
              exact sg_vret hx hb hr hlocks hP hD hS (Nat.le_of_ble_eq_true rfl) (Nat.le_of_ble_eq_true rfl) dX3_buy_260 (hM.to (by rw [buyM, if_pos (show _ by first | exact Or.inl (by rw [ev21, ev11, hcj] at c211; exact c211) | exact Or.inr (by rw [hcj, buy2_11] at c221; exact c221)), if_pos (by have c9 := Int32.not_le.mp c233; rw [ev21, ev11, hcj] at c9; exact c9), hcj, buy2_I (by decide) (by decide)]; simp only [sS_uI, buy2_S]))
      · skip
        have hbe : v45 = bEach M j := by rw [ev45, elow9, ev11, ev21, hcj]; rfl
        have hbn : cnt9 = bN M j := by rw [ecnt9, ev68, ev79, er61, hbe, ev11, hcj, ht12]; rfl
        have hck : (nI (10 * j + tN (sS M 0) / 6)).toNatClampNeg = 10 * j + tN (sS M 0) / 6 := nI_clamp (by omega)
        refine lv_iload hx hb dX3_buy_125 (lv_at hl 1 rfl) ?_
        refine lv_if_le (tgt := 199) hx hb dX3_buy_127 (by decide) (fun c127 => ?_) (fun c127 => ?_)
        · skip
          exact k199 _ _ _ (hM.to (by rw [buy1, if_neg (by rw [← hbn]; exact Int32.not_lt.mpr c127)])) hP hD hS
        · skip
          refine lv_aload_n hx hb dX3_buy_130 rfl (lv_at hl 8 rfl) ?_
          refine va_get (ref := RX3) (v := .ref (ad 15)) hx hb hts wi_X3_buy hown hK (sg_one hP (hM.1 0 rfl)) 0 rfl rfl 15 (by decide) (hts (.fieldLink RX3 56 RX3 "bought" "[I") (by decide +kernel)) (fun _ h => h) rfl dX3_buy_131 ?_
          refine lv_iload hx hb dX3_buy_134 (lv_at hl 0 rfl) ?_
          refine lv_iload hx hb dX3_buy_136 (lv_at hl 1 rfl) ?_
          refine sg_iast hx hb hK hP hD hS (hM.1 15 rfl) (vp_in_nI (by omega) (by decide)) dX3_buy_138 (fun H locs hP hD hS => ?_)
          have hM := hM.a15 (k := ((nI (10 * j + tN (sS M 0) / 6))).toNatClampNeg) (v := cnt9)
          refine lv_aload_n hx hb dX3_buy_139 rfl (lv_at hl 8 rfl) ?_
          refine va_get (ref := RX3) (v := .ref (ad 16)) hx hb hts wi_X3_buy hown hK (sg_one hP (hM.1 0 rfl)) 0 rfl rfl 16 (by decide) (hts (.fieldLink RX3 59 RX3 "had" "[I") (by decide +kernel)) (fun _ h => h) rfl dX3_buy_140 ?_
          refine lv_iload hx hb dX3_buy_143 (lv_at hl 0 rfl) ?_
          refine lv_iload hx hb dX3_buy_145 (lv_at hl 1 rfl) ?_
          refine sg_iast hx hb hK hP hD hS (hM.1 16 rfl) (vp_in_nI (by omega) (by decide)) dX3_buy_147 (fun H locs hP hD hS => ?_)
          have hM := hM.a16 (k := ((nI (10 * j + tN (sS M 0) / 6))).toNatClampNeg) (v := cnt9)
          refine lv_aload_n hx hb dX3_buy_148 rfl (lv_at hl 8 rfl) ?_
          refine va_get (ref := RX3) (v := .ref (ad 17)) hx hb hts wi_X3_buy hown hK (sg_one hP (hM.1 0 rfl)) 0 rfl rfl 17 (by decide) (hts (.fieldLink RX3 62 RX3 "paid" "[I") (by decide +kernel)) (fun _ h => h) rfl dX3_buy_149 ?_
          refine lv_iload hx hb dX3_buy_152 (lv_at hl 0 rfl) ?_
          refine lv_iload hx hb dX3_buy_154 (lv_at hl 4 rfl) ?_
          refine sg_iast hx hb hK hP hD hS (hM.1 17 rfl) (vp_in_nI (by omega) (by decide)) dX3_buy_156 (fun H locs hP hD hS => ?_)
          have hM := hM.a17 (k := ((nI (10 * j + tN (sS M 0) / 6))).toNatClampNeg) (v := v45)
          refine lv_aload_n hx hb dX3_buy_157 rfl (lv_at hl 8 rfl) ?_
          refine va_get (ref := RX3) (v := .ref (ad 18)) hx hb hts wi_X3_buy hown hK (sg_one hP (hM.1 0 rfl)) 0 rfl rfl 18 (by decide) (hts (.fieldLink RX3 65 RX3 "offer" "[I") (by decide +kernel)) (fun _ h => h) rfl dX3_buy_158 ?_
          refine lv_iload hx hb dX3_buy_161 (lv_at hl 0 rfl) ?_
          refine lv_aload_n hx hb dX3_buy_163 rfl (lv_at hl 8 rfl) ?_
          refine va_get (ref := RX3) (v := .ref (ad 10)) hx hb hts wi_X3_buy hown hK (sg_one hP (hM.1 0 rfl)) 0 rfl rfl 10 (by decide) (hts (.fieldLink RX3 41 RX3 "first" "[I") (by decide +kernel)) (fun _ h => h) rfl dX3_buy_164 ?_
          refine lv_iload_n hx hb dX3_buy_167 rfl (lv_at hl 9 rfl) ?_
          refine va_iald hx hb hK (sg_one hP (hM.1 10 rfl)) 0 0 rfl rfl (vp_r (a := j) rfl hj (by decide)) dX3_buy_168 ?_
          refine sg_iast hx hb hK hP hD hS (hM.1 18 rfl) (vp_in_nI (by omega) (by decide)) dX3_buy_169 (fun H locs hP hD hS => ?_)
          have hM := hM.a18 (k := ((nI (10 * j + tN (sS M 0) / 6))).toNatClampNeg) (v := (sI (uI (uI (uI M 15 ((nI (10 * j + tN (sS M 0) / 6))).toNatClampNeg cnt9) 16 ((nI (10 * j + tN (sS M 0) / 6))).toNatClampNeg cnt9) 17 ((nI (10 * j + tN (sS M 0) / 6))).toNatClampNeg v45) 10 ((nI j)).toNatClampNeg))
          refine lv_aload_n hx hb dX3_buy_170 rfl (lv_at hl 8 rfl) ?_
          refine va_get (ref := RX3) (v := .ref (ad 6)) hx hb hts wi_X3_buy hown hK (sg_one hP (hM.1 0 rfl)) 0 rfl rfl 6 (by decide) (hts (.fieldLink RX3 28 RX3 "money" "[I") (by decide +kernel)) (fun _ h => h) rfl dX3_buy_171 ?_
          refine lv_iload_n hx hb dX3_buy_174 rfl (lv_at hl 9 rfl) ?_
          refine lv_dup2_11 hx hb dX3_buy_175 rfl rfl ?_
          refine va_iald hx hb hK (sg_one hP (hM.1 6 rfl)) 0 0 rfl rfl (vp_r (a := j) rfl hj (by decide)) dX3_buy_176 ?_
          refine lv_iload hx hb dX3_buy_177 (lv_at hl 1 rfl) ?_
          refine lv_iload hx hb dX3_buy_179 (lv_at hl 4 rfl) ?_
          refine lv_imul hx hb dX3_buy_181 ?_
          refine lv_isub hx hb dX3_buy_182 ?_
          refine sg_iast hx hb hK hP hD hS (hM.1 6 rfl) (vp_r (a := j) rfl hj (by decide)) dX3_buy_183 (fun H locs hP hD hS => ?_)
          have hM := hM.a6 (k := ((nI j)).toNatClampNeg) (v := ((sI (uI (uI (uI (uI M 15 ((nI (10 * j + tN (sS M 0) / 6))).toNatClampNeg cnt9) 16 ((nI (10 * j + tN (sS M 0) / 6))).toNatClampNeg cnt9) 17 ((nI (10 * j + tN (sS M 0) / 6))).toNatClampNeg v45) 18 ((nI (10 * j + tN (sS M 0) / 6))).toNatClampNeg ((sI (uI (uI (uI M 15 ((nI (10 * j + tN (sS M 0) / 6))).toNatClampNeg cnt9) 16 ((nI (10 * j + tN (sS M 0) / 6))).toNatClampNeg cnt9) 17 ((nI (10 * j + tN (sS M 0) / 6))).toNatClampNeg v45) 10 ((nI j)).toNatClampNeg))) 6 ((nI j)).toNatClampNeg) - (cnt9 * v45)))
          refine lv_aload_n hx hb dX3_buy_184 rfl (lv_at hl 8 rfl) ?_
          refine va_get (ref := RX3) (v := .ref (ad 8)) hx hb hts wi_X3_buy hown hK (sg_one hP (hM.1 0 rfl)) 0 rfl rfl 8 (by decide) (hts (.fieldLink RX3 34 RX3 "spent" "[J") (by decide +kernel)) (fun _ h => h) rfl dX3_buy_185 ?_
          refine lv_iload_n hx hb dX3_buy_188 rfl (lv_at hl 9 rfl) ?_
          refine lv_dup2_11 hx hb dX3_buy_189 rfl rfl ?_
          refine va_lald hx hb hK (sg_one hP (hM.1 8 rfl)) 0 1 rfl rfl (vp_r (a := j) rfl hj (by decide)) dX3_buy_190 ?_
          refine lv_iload hx hb dX3_buy_191 (lv_at hl 1 rfl) ?_
          refine lv_iload hx hb dX3_buy_193 (lv_at hl 4 rfl) ?_
          refine lv_imul hx hb dX3_buy_195 ?_
          refine lv_i2l hx hb dX3_buy_196 rfl ?_
          refine lv_ladd hx hb dX3_buy_197 ?_
          refine sg_last hx hb hK hP hD hS (hM.1 8 rfl) (vp_r (a := j) rfl hj (by decide)) dX3_buy_198 (fun H locs hP hD hS => ?_)
          have hM := hM.a8 (k := ((nI j)).toNatClampNeg) (v := ((sL (uI (uI (uI (uI (uI M 15 ((nI (10 * j + tN (sS M 0) / 6))).toNatClampNeg cnt9) 16 ((nI (10 * j + tN (sS M 0) / 6))).toNatClampNeg cnt9) 17 ((nI (10 * j + tN (sS M 0) / 6))).toNatClampNeg v45) 18 ((nI (10 * j + tN (sS M 0) / 6))).toNatClampNeg ((sI (uI (uI (uI M 15 ((nI (10 * j + tN (sS M 0) / 6))).toNatClampNeg cnt9) 16 ((nI (10 * j + tN (sS M 0) / 6))).toNatClampNeg cnt9) 17 ((nI (10 * j + tN (sS M 0) / 6))).toNatClampNeg v45) 10 ((nI j)).toNatClampNeg))) 6 ((nI j)).toNatClampNeg (((sI (uI (uI (uI (uI M 15 ((nI (10 * j + tN (sS M 0) / 6))).toNatClampNeg cnt9) 16 ((nI (10 * j + tN (sS M 0) / 6))).toNatClampNeg cnt9) 17 ((nI (10 * j + tN (sS M 0) / 6))).toNatClampNeg v45) 18 ((nI (10 * j + tN (sS M 0) / 6))).toNatClampNeg ((sI (uI (uI (uI M 15 ((nI (10 * j + tN (sS M 0) / 6))).toNatClampNeg cnt9) 16 ((nI (10 * j + tN (sS M 0) / 6))).toNatClampNeg cnt9) 17 ((nI (10 * j + tN (sS M 0) / 6))).toNatClampNeg v45) 10 ((nI j)).toNatClampNeg))) 6 ((nI j)).toNatClampNeg) - (cnt9 * v45)))) 8 ((nI j)).toNatClampNeg) + ((cnt9 * v45)).toInt64))
          exact k199 _ _ _ (hM.to (by rw [buy1, if_pos (by rw [← hbn]; exact Int32.not_le.mp c127), ← hbn, ← hbe, hck, hcj]; rfl)) hP hD hS
    · skip
      refine lv_lload hx hb dX3_buy_81 (lv_at hl 1 rfl) ?_
      refine lv_lconst (v := 0) hx hb dX3_buy_83 (by decide) ?_
      refine W.lcmp hx hb dX3_buy_84 ?_
      refine lv_if_ge (tgt := 92) hx hb dX3_buy_85 (by decide) (fun c85 => ?_) (fun c85 => ?_)
      · skip
        refine lv_lload hx hb dX3_buy_92 (lv_at hl 1 rfl) ?_
        refine lv_iload hx hb dX3_buy_94 (lv_at hl 0 rfl) ?_
        refine lv_i2l hx hb dX3_buy_96 rfl ?_
        refine W.lcmp hx hb dX3_buy_97 ?_
        refine lv_if_ge (tgt := 107) hx hb dX3_buy_98 (by decide) (fun c98 => ?_) (fun c98 => ?_)
        · skip
          refine lv_iload hx hb dX3_buy_107 (lv_at hl 0 rfl) ?_
          exact k109 _ _ _ _ (⟨by simp only [lg_cmp_ge, Int64.not_le] at *; grind [Int64.not_le, Int64.not_lt], hM⟩) hP hD hS
        · skip
          refine lv_lload hx hb dX3_buy_101 (lv_at hl 1 rfl) ?_
          refine lv_l2i hx hb dX3_buy_103 rfl ?_
          refine lv_goto (tgt := 109) hx hb dX3_buy_104 (by decide) ?_
          exact k109 _ _ _ _ (⟨by simp only [lg_cmp_ge, Int64.not_le] at *; grind [Int64.not_le, Int64.not_lt], hM⟩) hP hD hS
      · skip
        refine lv_iconst (v := 0) hx hb dX3_buy_88 (by decide) ?_
        refine lv_goto (tgt := 109) hx hb dX3_buy_89 (by decide) ?_
        exact k109 _ _ _ _ (⟨by simp only [lg_cmp_ge, Int64.not_le] at *; grind [Int64.not_le, Int64.not_lt], hM⟩) hP hD hS
  · skip
    refine lv_iload_n hx hb dX3_buy_22 rfl (lv_at hl 1 rfl) ?_
    refine lv_iload_n hx hb dX3_buy_23 rfl (lv_at hl 0 rfl) ?_
    refine lv_icmp_ge (tgt := 31) hx hb dX3_buy_24 (by decide) (fun c24 => ?_) (fun c24 => ?_)
    · skip
      refine lv_iload_n hx hb dX3_buy_31 rfl (lv_at hl 0 rfl) ?_
      exact k32 _ _ _ _ (⟨by grind [Int32.not_le, Int32.not_lt], hM⟩) hP hD hS
    · skip
      refine lv_iload_n hx hb dX3_buy_27 rfl (lv_at hl 1 rfl) ?_
      refine lv_goto (tgt := 32) hx hb dX3_buy_28 (by decide) ?_
      exact k32 _ _ _ _ (⟨by grind [Int32.not_le, Int32.not_lt], hM⟩) hP hD hS
end
section
theorem mo_in {x : Int32} (h : -1 ≤ x) (h2 : x < 59) : vp_in (x + 1) 60 := by
  rw [vp_in_iff]
  rw [Int32.le_iff_toInt_le] at h
  rw [Int32.lt_iff_toInt_lt] at h2
  have h3 : (-1 : Int32).toInt = -1 := rfl
  have h4 : (59 : Int32).toInt = 59 := rfl
  have h5 : (x + 1).toInt = x.toInt + 1 := by
    rw [Int32.toInt_add]
    have : (1 : Int32).toInt = 1 := rfl
    rw [this]
    exact Int.bmod_eq_of_le (by omega) (by omega)
  omega
theorem wi_X3_next : ∀ w ∈ wsX30, w ∈ wsX3_next := by decide +kernel
set_option maxHeartbeats 4000000 in
set_option maxRecDepth 100000 in
theorem c_X3_next (l : Launch) (D : va_G) (Y : Nat → ClassId) (σ : sg_W) (sz : Nat) (ad : Nat → Nat) (M : MS) (x : Int32) (h6 : mem6 M) (hmo : -1 ≤ sS M 0) (hB : irem (sS M 0) 6 = 5 → ∀ q, q < tN (sS M 3) → okBuy (bAll (uS M 19 0) q) q) (hM : MW Y ad M σ) : Met l yX3_next wsX3_next ({ frames := 2, cells := 0, slots := 0, locals := 55 } : Room) (va_Pc [.ref (ad 0), .int x] (sg_U D Y σ sz)) (va_Qi (fun r σ' => (tNext M x = 0 → r = sS M 0 + 1) ∧ MF Y ad σ (if tNext M x = 0 then nNext (uS M 19 0) x else uS M 19 (tNext M x)) σ') (sg_B D σ sz) (sg_A σ sz)) 0 0 (sg_A σ sz) := by
  refine sg_met (cc := cX3_next) (maxL := 3) (ret := (some .int)) (by decide) rfl (Nat.le_of_ble_eq_true rfl) ?_
  intro p e s m below meth c ls hx hb hml hr hown hts hlocks hnm hP hK hD hN hX hA hS hsz hl
  have hl : lv_has ls 3 [(0, .ref (ad 0)), (1, .int x)] := hl
  refine lv_aload_n hx hb dX3_next_0 rfl (lv_at hl 0 rfl) ?_
  refine lv_iload_n hx hb dX3_next_1 rfl (lv_at hl 1 rfl) ?_
  refine lv_iconst (v := 1) hx hb dX3_next_2 (by decide) ?_
  refine lv_ldc (v := 100000) hx hb hown (hts (.constant RX3 82 100000) (by decide +kernel)) dX3_next_3 ?_
  refine sg_calli hD hS hA (va_runS (As := [.int x, .int 1, .int 100000]) (rest := [.ref (ad 0)]) ⟨hx, hb, hml, hown, hts⟩ (c_X3_isIn l D Y _ _ x 1 100000) (va_cwS 3 hts gX3_next_X3_isIn rfl rfl rfl (by decide +kernel) ⟨Nat.le_of_ble_eq_true rfl, Nat.le_of_ble_eq_true rfl⟩) (sg_preS hK hP hD hN hX hS hA) rfl rfl hl.1 rfl (lv_room (Nat.le_of_ble_eq_true rfl)) dX3_next_5 ⟨Nat.le_of_ble_eq_true rfl, Nat.le_of_ble_eq_true rfl⟩) (fun r5 σ' H locs hw hP hD hS => ?_)
  obtain ⟨rfl, rfl⟩ := hw
  refine sg_cutwi (D := D) hS (j := 22) (ls := ls) (rest := [.int (bI (qIn x 1 100000)), .ref (ad 0)]) 0 0 (fun x9 σ' => x9 = (bI (sS M 0 < 59)) ∧ MF Y ad σ M σ') (fun x9 σ' H locs hj9 hP hD hS => ?_) (fun k22 => ?_)
  · obtain ⟨rfl, hM⟩ := hj9
    refine sg_calli hD hS hA (va_runV (As := [.int (bI (qIn x 1 100000)), .int (bI (sS M 0 < 59))]) (rest := []) ⟨hx, hb, hml, hown, hts⟩ (c_X3_mayBoth l D Y _ _ ad M ((bI (qIn x 1 100000))) ((bI (sS M 0 < 59))) hM.self) (cwV 2 hts gX3_next_X3_mayBoth rfl rfl rfl (by decide +kernel) ⟨Nat.le_of_ble_eq_true rfl, Nat.le_of_ble_eq_true rfl⟩) (sg_preV (q := (RX3, TX3, 20)) (hM.1 0 rfl) rfl hK hP hD hN hX hS hA) rfl rfl hl.1 rfl (lv_room (Nat.le_of_ble_eq_true rfl)) dX3_next_22 ⟨Nat.le_of_ble_eq_true rfl, Nat.le_of_ble_eq_true rfl⟩) (fun r22 σ' H locs hw hP hD hS => ?_)
    obtain ⟨rfl, hw⟩ := hw
    have hM := hM.trans hw
    refine lv_if_ne (tgt := 30) hx hb dX3_next_25 (by decide) (fun c25 => ?_) (fun c25 => ?_)
    · skip
      have h0 : t2 (bI (qIn x 1 100000)) (bI (sS M 0 < 59)) = 0 := by rw [bI_0] at c25; exact Classical.not_not.mp c25
      rw [h0] at hM
      refine lv_iconst (v := 0) hx hb dX3_next_30 (by decide) ?_
      have hmm : ∃ n, n ≤ 6 ∧ sS M 3 = nI n := h6
      obtain ⟨n6, hn6, e6⟩ := hmm
      have hm3 : sS M 3 = nI (tN (sS M 3)) := by rw [e6, tN, nI_clamp (by omega)]
      have hl6 : tN (sS M 3) ≤ 6 := by rw [e6, tN, nI_clamp (by omega)]; exact hn6
      have hmi : vp_in (sS M 0 + 1) 60 := mo_in hmo (by grind [bI, t2])
      refine lv_istore_n (lv' := [(2, .int 0), (0, .ref (ad 0)), (1, .int x)]) hx hb dX3_next_31 rfl hl (by decide) rfl (fun ls hl => ?_)
      refine sg_loop (D := D) (H0 := s.heap) (T := Nat) 32 3 (fun n1 t σ' c' s' => n1 + t = tN (sS M 3) ∧ (t = 0 ∨ irem (sS M 0) 6 = 5) ∧ MF Y ad σ (bAll (uS M 19 0) t) σ' ∧ c' = 0 ∧ s' = 0) (fun t => [(2, .int (nI t)), (0, .ref (ad 0)), (1, .int x)]) ?_ (tN (sS M 3)) (0) _ _ _ _ _ _ ?_ hP hD hS (lv_sub hl [0, 1, 2] rfl)
      · intro n1 t σ' cells slots H locs ls ih hI hP hD hS hl
        obtain ⟨q, rfl⟩ : ∃ q, q = t := ⟨_, rfl⟩
        obtain ⟨hn, hpm, hM, rfl, rfl⟩ := hI
        have hs3 : sS (bAll (uS M 19 0) q) 3 = nI (tN (sS M 3)) := by rw [bAll_S]; exact hm3
        have hs0 : sS (bAll (uS M 19 0) q) 0 = sS M 0 := by rw [bAll_S]; rfl
        have hl : lv_has ls 3 [(2, .int (nI q)), (0, .ref (ad 0)), (1, .int x)] := hl
        refine lv_iload_n hx hb dX3_next_32 rfl (lv_at hl 0 rfl) ?_
        refine lv_aload_n hx hb dX3_next_33 rfl (lv_at hl 1 rfl) ?_
        refine va_get (ref := RX3) (v := .int (sS (bAll (uS M 19 0) q) 3)) hx hb hts wi_X3_next hown hK (sg_one hP (hM.1 0 rfl)) 0 rfl rfl 3 (by decide) (hts (.fieldLink RX3 71 RX3 "members" "I") (by decide +kernel)) (fun _ h => h) rfl dX3_next_34 ?_
        refine lv_icmp_ge (tgt := 71) hx hb dX3_next_37 (by decide) (fun c37 => ?_) (fun c37 => ?_)
        · skip
          have hM := hM.to (M' := if irem (sS M 0) 6 = 5 then bAll (uS M 19 0) (tN (sS M 3)) else uS M 19 0) (by
            rw [hs3, nI_leI (by omega) (by omega)] at c37
            obtain rfl : q = tN (sS M 3) := by omega
            rcases hpm with h9 | h9
            · rw [h9]; split <;> rfl
            · rw [if_pos h9])
          have hs9 : sS (if irem (sS M 0) 6 = 5 then bAll (uS M 19 0) (tN (sS M 3)) else uS M 19 0) 0 = sS M 0 := by split; rw [bAll_S]; rfl; rfl
          generalize hMM : (if irem (sS M 0) 6 = 5 then bAll (uS M 19 0) (tN (sS M 3)) else uS M 19 0) = MM at hM hs9
          refine lv_aload_n hx hb dX3_next_71 rfl (lv_at hl 1 rfl) ?_
          refine lv_dup hx hb dX3_next_72 rfl ?_
          refine va_get (ref := RX3) (v := .int (sS MM 0)) hx hb hts wi_X3_next hown hK (sg_one hP (hM.1 0 rfl)) 0 rfl rfl 0 (by decide) (hts (.fieldLink RX3 9 RX3 "month" "I") (by decide +kernel)) (fun _ h => h) rfl dX3_next_73 ?_
          refine lv_iconst (v := 1) hx hb dX3_next_76 (by decide) ?_
          refine lv_iadd hx hb dX3_next_77 ?_
          refine sg_put (ref := RX3) (ty := .int) (v := .int ((sS MM 0) + 1)) hx hb hts wi_X3_next tyX3 tyX3_ok nmX3 hown hK hP hD hS (hM.1 0 rfl) rfl 0 (by decide) (hts (.fieldLink RX3 9 RX3 "month" "I") (by decide +kernel)) (fun _ h => h) rfl (by decide +kernel) rfl rfl (Nat.le_of_ble_eq_true rfl) dX3_next_78 (fun H locs hP hD hS => ?_)
          have hM := hM.s0 (v := ((sS MM 0) + 1))
          refine lv_aload_n hx hb dX3_next_81 rfl (lv_at hl 1 rfl) ?_
          refine va_get (ref := RX3) (v := .ref (ad 1)) hx hb hts wi_X3_next hown hK (sg_one hP (hM.1 0 rfl)) 0 rfl rfl 1 (by decide) (hts (.fieldLink RX3 13 RX3 "price" "[I") (by decide +kernel)) (fun _ h => h) rfl dX3_next_82 ?_
          refine lv_aload_n hx hb dX3_next_85 rfl (lv_at hl 1 rfl) ?_
          refine va_get (ref := RX3) (v := .int (sS (uS MM 0 (((sS MM 0) + 1))) 0)) hx hb hts wi_X3_next hown hK (sg_one hP (hM.1 0 rfl)) 0 rfl rfl 0 (by decide) (hts (.fieldLink RX3 9 RX3 "month" "I") (by decide +kernel)) (fun _ h => h) rfl dX3_next_86 ?_
          refine lv_iload_n hx hb dX3_next_89 rfl (lv_at hl 2 rfl) ?_
          refine sg_iast hx hb hK hP hD hS (hM.1 1 rfl) (by simp only [sS_uS, ite_true, hs9]; exact hmi) dX3_next_90 (fun H locs hP hD hS => ?_)
          have hM := hM.a1 (k := ((sS (uS MM 0 (((sS MM 0) + 1))) 0)).toNatClampNeg) (v := x)
          refine lv_aload_n hx hb dX3_next_91 rfl (lv_at hl 1 rfl) ?_
          refine va_get (ref := RX3) (v := .int (sS (uI (uS MM 0 (((sS MM 0) + 1))) 1 ((sS (uS MM 0 (((sS MM 0) + 1))) 0)).toNatClampNeg x) 0)) hx hb hts wi_X3_next hown hK (sg_one hP (hM.1 0 rfl)) 0 rfl rfl 0 (by decide) (hts (.fieldLink RX3 9 RX3 "month" "I") (by decide +kernel)) (fun _ h => h) rfl dX3_next_92 ?_
          exact sg_iret hx hb hr rfl hlocks hP hD hS (Nat.le_of_ble_eq_true rfl) (Nat.le_of_ble_eq_true rfl) dX3_next_95 (⟨fun _ => by simp only [sS_uI, sS_uS, ite_true, hs9], by rw [if_pos (show tNext M x = 0 from h0)]; exact hM.to (by subst hMM; simp only [sS_uS, ite_true, hs9]; rfl)⟩)
        · skip
          rw [hs3, nI_leI (by omega) (by omega)] at c37
          have hq9 : q < tN (sS M 3) := by omega
          have hcq : (nI q).toNatClampNeg = q := nI_clamp (by omega)
          refine lv_aload_n hx hb dX3_next_40 rfl (lv_at hl 1 rfl) ?_
          refine va_get (ref := RX3) (v := .int (sS (bAll (uS M 19 0) q) 0)) hx hb hts wi_X3_next hown hK (sg_one hP (hM.1 0 rfl)) 0 rfl rfl 0 (by decide) (hts (.fieldLink RX3 9 RX3 "month" "I") (by decide +kernel)) (fun _ h => h) rfl dX3_next_41 ?_
          refine lv_bipush (v := 6) hx hb dX3_next_44 (by decide) ?_
          refine lv_irem hx hb dX3_next_46 (by decide) ?_
          refine lv_iconst (v := 5) hx hb dX3_next_47 (by decide) ?_
          refine lv_icmp_ne (tgt := 71) hx hb dX3_next_48 (by decide) (fun c48 => ?_) (fun c48 => ?_)
          · skip
            have hM := hM.to (M' := if irem (sS M 0) 6 = 5 then bAll (uS M 19 0) (tN (sS M 3)) else uS M 19 0) (by rw [hs0] at c48; rw [if_neg c48]; rcases hpm with rfl | h9; rfl; exact absurd h9 c48)
            have hs9 : sS (if irem (sS M 0) 6 = 5 then bAll (uS M 19 0) (tN (sS M 3)) else uS M 19 0) 0 = sS M 0 := by split; rw [bAll_S]; rfl; rfl
            generalize hMM : (if irem (sS M 0) 6 = 5 then bAll (uS M 19 0) (tN (sS M 3)) else uS M 19 0) = MM at hM hs9
            refine lv_aload_n hx hb dX3_next_71 rfl (lv_at hl 1 rfl) ?_
            refine lv_dup hx hb dX3_next_72 rfl ?_
            refine va_get (ref := RX3) (v := .int (sS MM 0)) hx hb hts wi_X3_next hown hK (sg_one hP (hM.1 0 rfl)) 0 rfl rfl 0 (by decide) (hts (.fieldLink RX3 9 RX3 "month" "I") (by decide +kernel)) (fun _ h => h) rfl dX3_next_73 ?_
            refine lv_iconst (v := 1) hx hb dX3_next_76 (by decide) ?_
            refine lv_iadd hx hb dX3_next_77 ?_
            refine sg_put (ref := RX3) (ty := .int) (v := .int ((sS MM 0) + 1)) hx hb hts wi_X3_next tyX3 tyX3_ok nmX3 hown hK hP hD hS (hM.1 0 rfl) rfl 0 (by decide) (hts (.fieldLink RX3 9 RX3 "month" "I") (by decide +kernel)) (fun _ h => h) rfl (by decide +kernel) rfl rfl (Nat.le_of_ble_eq_true rfl) dX3_next_78 (fun H locs hP hD hS => ?_)
            have hM := hM.s0 (v := ((sS MM 0) + 1))
            refine lv_aload_n hx hb dX3_next_81 rfl (lv_at hl 1 rfl) ?_
            refine va_get (ref := RX3) (v := .ref (ad 1)) hx hb hts wi_X3_next hown hK (sg_one hP (hM.1 0 rfl)) 0 rfl rfl 1 (by decide) (hts (.fieldLink RX3 13 RX3 "price" "[I") (by decide +kernel)) (fun _ h => h) rfl dX3_next_82 ?_
            refine lv_aload_n hx hb dX3_next_85 rfl (lv_at hl 1 rfl) ?_
            refine va_get (ref := RX3) (v := .int (sS (uS MM 0 (((sS MM 0) + 1))) 0)) hx hb hts wi_X3_next hown hK (sg_one hP (hM.1 0 rfl)) 0 rfl rfl 0 (by decide) (hts (.fieldLink RX3 9 RX3 "month" "I") (by decide +kernel)) (fun _ h => h) rfl dX3_next_86 ?_
            refine lv_iload_n hx hb dX3_next_89 rfl (lv_at hl 2 rfl) ?_
            refine sg_iast hx hb hK hP hD hS (hM.1 1 rfl) (by simp only [sS_uS, ite_true, hs9]; exact hmi) dX3_next_90 (fun H locs hP hD hS => ?_)
            have hM := hM.a1 (k := ((sS (uS MM 0 (((sS MM 0) + 1))) 0)).toNatClampNeg) (v := x)
            refine lv_aload_n hx hb dX3_next_91 rfl (lv_at hl 1 rfl) ?_
            refine va_get (ref := RX3) (v := .int (sS (uI (uS MM 0 (((sS MM 0) + 1))) 1 ((sS (uS MM 0 (((sS MM 0) + 1))) 0)).toNatClampNeg x) 0)) hx hb hts wi_X3_next hown hK (sg_one hP (hM.1 0 rfl)) 0 rfl rfl 0 (by decide) (hts (.fieldLink RX3 9 RX3 "month" "I") (by decide +kernel)) (fun _ h => h) rfl dX3_next_92 ?_
            exact sg_iret hx hb hr rfl hlocks hP hD hS (Nat.le_of_ble_eq_true rfl) (Nat.le_of_ble_eq_true rfl) dX3_next_95 (⟨fun _ => by simp only [sS_uI, sS_uS, ite_true, hs9], by rw [if_pos (show tNext M x = 0 from h0)]; exact hM.to (by subst hMM; simp only [sS_uS, ite_true, hs9]; rfl)⟩)
          · skip
            have hp5 : irem (sS M 0) 6 = 5 := by rw [hs0] at c48; exact c48
            refine lv_aload_n hx hb dX3_next_51 rfl (lv_at hl 1 rfl) ?_
            refine va_get (ref := RX3) (v := .ref (ad 5)) hx hb hts wi_X3_next hown hK (sg_one hP (hM.1 0 rfl)) 0 rfl rfl 5 (by decide) (hts (.fieldLink RX3 24 RX3 "left" "[Z") (by decide +kernel)) (fun _ h => h) rfl dX3_next_52 ?_
            refine lv_iload_n hx hb dX3_next_55 rfl (lv_at hl 0 rfl) ?_
            refine va_zald hx hb hK (sg_one hP (hM.1 5 rfl)) 0 2 rfl rfl (vp_in_nI (by omega) (by decide)) dX3_next_56 ?_
            refine lv_if_ne (tgt := 65) hx hb dX3_next_57 (by decide) (fun c57 => ?_) (fun c57 => ?_)
            · skip
              rw [hcq] at c57
              have hM := hM.to (M' := bAll (uS M 19 0) (q + 1)) (by rw [bAll, if_neg c57])
              obtain ⟨v65, ev65⟩ : ∃ zz9 : Int32, zz9 = (nI q) + 1 := ⟨_, rfl⟩
              obtain rfl : v65 = nI (q + 1) := by rw [ev65]; exact nI_1 _
              refine lv_iinc (v := (nI (q + 1))) (lv' := [(2, .int (nI (q + 1))), (0, .ref (ad 0)), (1, .int x)]) hx hb dX3_next_65 hl (k := 0) rfl (nI_1 _) (by decide) rfl (fun ls hl => ?_)
              refine lv_goto (tgt := 32) hx hb dX3_next_68 (by decide) ?_
              exact ih (n1 - 1) (q + 1) _ _ _ _ _ _ (by omega) ⟨by omega, Or.inr hp5, hM, rfl, rfl⟩ hP hD hS (lv_sub hl [0, 1, 2] rfl)
            · skip
              refine lv_aload_n hx hb dX3_next_60 rfl (lv_at hl 1 rfl) ?_
              refine lv_iload_n hx hb dX3_next_61 rfl (lv_at hl 0 rfl) ?_
              refine sg_callv hD hS hA (va_runV (As := [.int (nI q)]) (rest := []) ⟨hx, hb, hml, hown, hts⟩ (c_X3_buy l D Y _ _ ad (bAll (uS M 19 0) q) q (by omega) (hB hp5 q hq9) hM.self) (cwV 1 hts gX3_next_X3_buy rfl rfl rfl (by decide +kernel) ⟨Nat.le_of_ble_eq_true rfl, Nat.le_of_ble_eq_true rfl⟩) (sg_preV (q := (RX3, TX3, 20)) (hM.1 0 rfl) rfl hK hP hD hN hX hS hA) rfl rfl hl.1 rfl (lv_room (Nat.le_of_ble_eq_true rfl)) dX3_next_62 ⟨Nat.le_of_ble_eq_true rfl, Nat.le_of_ble_eq_true rfl⟩) (fun σ' H locs hw hP hD hS => ?_)
              have hM := hM.trans hw
              rw [hcq] at c57
              have hM := hM.to (M' := bAll (uS M 19 0) (q + 1)) (by rw [bAll, if_pos c57])
              obtain ⟨v65, ev65⟩ : ∃ zz9 : Int32, zz9 = (nI q) + 1 := ⟨_, rfl⟩
              obtain rfl : v65 = nI (q + 1) := by rw [ev65]; exact nI_1 _
              refine lv_iinc (v := (nI (q + 1))) (lv' := [(2, .int (nI (q + 1))), (0, .ref (ad 0)), (1, .int x)]) hx hb dX3_next_65 hl (k := 0) rfl (nI_1 _) (by decide) rfl (fun ls hl => ?_)
              refine lv_goto (tgt := 32) hx hb dX3_next_68 (by decide) ?_
              exact ih (n1 - 1) (q + 1) _ _ _ _ _ _ (by omega) ⟨by omega, Or.inr hp5, hM, rfl, rfl⟩ hP hD hS (lv_sub hl [0, 1, 2] rfl)
      · exact ⟨rfl, Or.inl rfl, hM, rfl, rfl⟩
    · skip
      have h0 : ¬ tNext M x = 0 := bI_0.mp c25
      refine lv_iconst (v := 0) hx hb dX3_next_28 (by decide) ?_
      exact sg_iret hx hb hr rfl hlocks hP hD hS (Nat.le_of_ble_eq_true rfl) (Nat.le_of_ble_eq_true rfl) dX3_next_29 (⟨fun h => absurd h h0, by rw [if_neg h0]; exact hM⟩)
  · skip
    refine lv_aload_n hx hb dX3_next_8 rfl (lv_at hl 0 rfl) ?_
    refine va_get (ref := RX3) (v := .int (sS M 0)) hx hb hts wi_X3_next hown hK (sg_one hP (hM.1 0 rfl)) 0 rfl rfl 0 (by decide) (hts (.fieldLink RX3 9 RX3 "month" "I") (by decide +kernel)) (fun _ h => h) rfl dX3_next_9 ?_
    refine lv_bipush (v := 59) hx hb dX3_next_12 (by decide) ?_
    refine lv_icmp_ge (tgt := 21) hx hb dX3_next_14 (by decide) (fun c14 => ?_) (fun c14 => ?_)
    · skip
      refine lv_iconst (v := 0) hx hb dX3_next_21 (by decide) ?_
      exact k22 _ _ _ _ (⟨by grind [bI, Int32.not_le, Int32.not_lt], hM⟩) hP hD hS
    · skip
      refine lv_iconst (v := 1) hx hb dX3_next_17 (by decide) ?_
      refine lv_goto (tgt := 22) hx hb dX3_next_18 (by decide) ?_
      exact k22 _ _ _ _ (⟨by grind [bI, Int32.not_le, Int32.not_lt], hM⟩) hP hD hS
end
